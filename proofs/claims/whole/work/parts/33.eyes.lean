-- EYES, by the class and by the reference
def z_see (L R : Nat → Int32) : Int64 := z_fo (fun c s => s + (L c).toInt64 * (R c).toInt64) 0 8
def z_apa (A B R : Nat → Int32) : Int64 := z_fo (fun c s => s + (A c - B c).toInt64 * (R c).toInt64) 0 8
def z_abs (x : Int64) : Int64 := if 0 < x then x else -x
theorem z_abs0 {x : Int64} : z_abs x = 0 ↔ x = 0 := by
  unfold z_abs
  split
  · rfl
  · constructor
    · intro h; have := congrArg (fun q => -q) h; simpa using this
    · intro h; subst h; rfl
set_option maxRecDepth 20000 in
/-- LampHouse$Eights.get -/
theorem x_rows_getN (E : zE) (d : Nat) (I : Nat → Nat → Int32) (J : Nat → Nat → Int64) (w : Nat) (i : Nat) (hk : i < 30) : z_cl E (d + 1) 11 [.ref 1, .int (nI i)] (161, I, J, RF w) = some (some (.ref (3 + i)), 161, I, J, RF w) := by
  refine z_call (d := d + 0) (M := z_m11) rfl rfl ?_
  refine z_evG 4 (y := z_ck (z_in (nI i) 30) (z_go 6 [some (.ref 1), some (.int (nI i))] [.ref (3 + (nI i).toNatClampNeg)] 161 (I, J, RF w))) (fun _ => rfl) ?_
  refine z_evC (z_inN rfl (by omega) (by decide)) ?_
  refine z_evL ?_
  rw [show ((nI i : Int32)).toNatClampNeg = i from z_natE rfl (by omega)]
  refine z_evG 1 (y := some (.inr (some (.ref (3 + i)), 161, I, J, RF w))) (fun _ => rfl) ?_
  exact z_evR rfl
set_option maxRecDepth 20000 in
/-- LampHouse$Eights.get -/
theorem x_lights_getN (E : zE) (d : Nat) (I : Nat → Nat → Int32) (J : Nat → Nat → Int64) (w : Nat) (i : Nat) (hk : i < 20) : z_cl E (d + 1) 11 [.ref 43, .int (nI i)] (161, I, J, RF w) = some (some (.ref (45 + i)), 161, I, J, RF w) := by
  refine z_call (d := d + 0) (M := z_m11) rfl rfl ?_
  refine z_evG 4 (y := z_ck (z_in (nI i) 20) (z_go 6 [some (.ref 43), some (.int (nI i))] [.ref (45 + (nI i).toNatClampNeg)] 161 (I, J, RF w))) (fun _ => rfl) ?_
  refine z_evC (z_inN rfl (by omega) (by decide)) ?_
  refine z_evL ?_
  rw [show ((nI i : Int32)).toNatClampNeg = i from z_natE rfl (by omega)]
  refine z_evG 1 (y := some (.inr (some (.ref (45 + i)), 161, I, J, RF w))) (fun _ => rfl) ?_
  exact z_evR rfl
set_option maxRecDepth 20000 in
/-- LampHouse$Eyes.sight -/
theorem x_sight (E : zE) (d : Nat) (I : Nat → Nat → Int32) (J : Nat → Nat → Int64) (w : Nat) (e t a r : Nat) (he : e < 8) (ht : t < 3) (hr : I (67 + e) t = nI r) (hr3 : r < 30) (ha : z_A a 8) : z_cl E (d + 2) 21 [.ref 65, .int (nI e), .int (nI t), .ref a] (161, I, J, RF w) = some (some (.long (z_see (I a) (I (3 + r)))), 161, I, J, RF w) := by
  refine z_call (d := d + 1) (M := z_m21) rfl rfl ?_
  refine z_evG 6 (y := z_ck (z_in (nI e) 8) (z_go 10 [some (.ref 65), some (.int (nI e)), some (.int (nI t)), some (.ref a), none, none, none, none] [.ref (67 + (nI e).toNatClampNeg), .ref 1] 161 (I, J, RF w))) (fun _ => rfl) ?_
  refine z_evC (z_inN rfl (by omega) (by decide)) ?_
  refine z_evL ?_
  rw [show ((nI e : Int32)).toNatClampNeg = e from z_natE rfl (by omega)]
  refine z_evG 2 (y := z_ild (z_ia E 161 (I, J, RF w) (67 + e)) (nI t) fun vv => z_go 12 [some (.ref 65), some (.int (nI e)), some (.int (nI t)), some (.ref a), none, none, none, none] [.int vv, .ref 1] 161 (I, J, RF w)) (fun _ => rfl) ?_
  refine z_evBn (N := 3) (f := (I (67 + e))) (k := t) (z_iaA (z_A_takers e (by omega))) rfl (by omega) ?_
  refine z_evL ?_
  refine z_evG 1 (y := z_ret (z_cl E (d + 1) 11 [.ref 1, .int (I (67 + e) t)] (161, (I, J, RF w))) 15 [some (.ref 65), some (.int (nI e)), some (.int (nI t)), some (.ref a), none, none, none, none] []) (fun _ => rfl) ?_
  refine z_evK (v := .ref (3 + r)) (z' := 161) (σ' := (I, J, RF w)) ((congrArg (fun q => z_cl E (d + 1) 11 [.ref 1, .int q] (161, I, J, RF w)) (hr : (I (67 + e) t : Int32) = nI r)).trans (x_rows_getN E d I J w r (by omega))) ?_
  refine z_evG 5 (y := z_go 23 [some (.ref 65), some (.int (nI e)), some (.int (nI t)), some (.ref a), some (.ref (3 + r)), some (.long 0), none, some (.int 0)] [] 161 (I, J, RF w)) (fun _ => rfl) ?_
  refine z_evL ?_
  refine z_loop (F := fun k => ([some (.ref 65), some (.int (nI e)), some (.int (nI t)), some (.ref a), some (.ref (3 + r)), some (.long (z_fo (fun c s => s + (I a c).toInt64 * (I (3 + r) c).toInt64) 0 k)), none, some (.int (nI k))], (I, J, RF w))) (P := fun k => True) 8 trivial (fun hP => ?_) (fun k hk hP next => ?_)
  · show z_Ev E (d + 1) z_m21 23 [some (.ref 65), some (.int (nI e)), some (.int (nI t)), some (.ref a), some (.ref (3 + r)), some (.long (z_fo (fun c s => s + (I a c).toInt64 * (I (3 + r) c).toInt64) 0 8)), none, some (.int (nI 8))] [] 161 (I, J, RF w) _
    refine z_evG 3 (y := if (nI 8) < 8 then z_go 30 [some (.ref 65), some (.int (nI e)), some (.int (nI t)), some (.ref a), some (.ref (3 + r)), some (.long (z_fo (fun c s => s + (I a c).toInt64 * (I (3 + r) c).toInt64) 0 8)), none, some (.int (nI 8))] [] 161 (I, J, RF w) else z_go 53 [some (.ref 65), some (.int (nI e)), some (.int (nI t)), some (.ref a), some (.ref (3 + r)), some (.long (z_fo (fun c s => s + (I a c).toInt64 * (I (3 + r) c).toInt64) 0 8)), none, some (.int (nI 8))] [] 161 (I, J, RF w)) (fun _ => rfl) ?_
    refine z_evF (mt (show _ ↔ 8 < 8 from z_ltN rfl rfl (by omega) (by omega)).mp (by omega)) ?_
    refine z_evL ?_
    refine z_evG 2 (y := some (.inr (some (.long (z_fo (fun c s => s + (I a c).toInt64 * (I (3 + r) c).toInt64) 0 8)), 161, I, J, RF w))) (fun _ => rfl) ?_
    exact z_evR rfl
  · show z_Ev E (d + 1) z_m21 23 [some (.ref 65), some (.int (nI e)), some (.int (nI t)), some (.ref a), some (.ref (3 + r)), some (.long (z_fo (fun c s => s + (I a c).toInt64 * (I (3 + r) c).toInt64) 0 k)), none, some (.int (nI k))] [] 161 (I, J, RF w) _
    have nx : (True) → z_Ev E (d + 1) z_m21 23 [some (.ref 65), some (.int (nI e)), some (.int (nI t)), some (.ref a), some (.ref (3 + r)), some (.long (z_fo (fun c s => s + (I a c).toInt64 * (I (3 + r) c).toInt64) 0 (k + 1))), none, some (.int (nI (k + 1)))] [] 161 (I, J, RF w) _ := next
    refine z_evG 3 (y := if (nI k) < 8 then z_go 30 [some (.ref 65), some (.int (nI e)), some (.int (nI t)), some (.ref a), some (.ref (3 + r)), some (.long (z_fo (fun c s => s + (I a c).toInt64 * (I (3 + r) c).toInt64) 0 k)), none, some (.int (nI k))] [] 161 (I, J, RF w) else z_go 53 [some (.ref 65), some (.int (nI e)), some (.int (nI t)), some (.ref a), some (.ref (3 + r)), some (.long (z_fo (fun c s => s + (I a c).toInt64 * (I (3 + r) c).toInt64) 0 k)), none, some (.int (nI k))] [] 161 (I, J, RF w)) (fun _ => rfl) ?_
    refine z_evT ((show _ ↔ k < 8 from z_ltN rfl rfl (by omega) (by omega)).mpr (by omega)) ?_
    refine z_evL ?_
    refine z_evG 4 (y := z_ild (z_ia E 161 (I, J, RF w) a) (nI k) fun vv => z_go 36 [some (.ref 65), some (.int (nI e)), some (.int (nI t)), some (.ref a), some (.ref (3 + r)), some (.long (z_fo (fun c s => s + (I a c).toInt64 * (I (3 + r) c).toInt64) 0 k)), none, some (.int (nI k))] [.int vv, .long (z_fo (fun c s => s + (I a c).toInt64 * (I (3 + r) c).toInt64) 0 k)] 161 (I, J, RF w)) (fun _ => rfl) ?_
    refine z_evBn (N := 8) (f := (I a)) (k := k) (z_iaA ha) rfl (by omega) ?_
    refine z_evL ?_
    refine z_evG 4 (y := z_ild (z_ia E 161 (I, J, RF w) (3 + r)) (nI k) fun vv => z_go 42 [some (.ref 65), some (.int (nI e)), some (.int (nI t)), some (.ref a), some (.ref (3 + r)), some (.long (z_fo (fun c s => s + (I a c).toInt64 * (I (3 + r) c).toInt64) 0 k)), none, some (.int (nI k))] [.int vv, .long ((I a k).toInt64), .long (z_fo (fun c s => s + (I a c).toInt64 * (I (3 + r) c).toInt64) 0 k)] 161 (I, J, RF w)) (fun _ => rfl) ?_
    refine z_evBn (N := 8) (f := (I (3 + r))) (k := k) (z_iaA (z_A_rows r (by omega))) rfl (by omega) ?_
    refine z_evL ?_
    refine z_evG 6 (y := z_go 23 [some (.ref 65), some (.int (nI e)), some (.int (nI t)), some (.ref a), some (.ref (3 + r)), some (.long ((z_fo (fun c s => s + (I a c).toInt64 * (I (3 + r) c).toInt64) 0 k) + (((I a k).toInt64) * ((I (3 + r) k).toInt64)))), none, some (.int ((nI k) + 1))] [] 161 (I, J, RF w)) (fun _ => rfl) ?_
    refine z_evL ?_
    rw [nI_1 k]
    exact nx trivial
set_option maxRecDepth 20000 in
/-- LampHouse$Eyes.apart -/
theorem x_apart (E : zE) (d : Nat) (I : Nat → Nat → Int32) (J : Nat → Nat → Int64) (w : Nat) (e t a b r : Nat) (he : e < 8) (ht : t < 3) (hr : I (67 + e) t = nI r) (hr3 : r < 30) (ha : z_A a 8) (hb : z_A b 8) : z_cl E (d + 2) 22 [.ref 65, .int (nI e), .int (nI t), .ref a, .ref b] (161, I, J, RF w) = some (some (.long (z_abs (z_apa (I a) (I b) (I (3 + r))))), 161, I, J, RF w) := by
  refine z_call (d := d + 1) (M := z_m22) rfl rfl ?_
  refine z_evG 6 (y := z_ck (z_in (nI e) 8) (z_go 10 [some (.ref 65), some (.int (nI e)), some (.int (nI t)), some (.ref a), some (.ref b), none, none, none, none] [.ref (67 + (nI e).toNatClampNeg), .ref 1] 161 (I, J, RF w))) (fun _ => rfl) ?_
  refine z_evC (z_inN rfl (by omega) (by decide)) ?_
  refine z_evL ?_
  rw [show ((nI e : Int32)).toNatClampNeg = e from z_natE rfl (by omega)]
  refine z_evG 2 (y := z_ild (z_ia E 161 (I, J, RF w) (67 + e)) (nI t) fun vv => z_go 12 [some (.ref 65), some (.int (nI e)), some (.int (nI t)), some (.ref a), some (.ref b), none, none, none, none] [.int vv, .ref 1] 161 (I, J, RF w)) (fun _ => rfl) ?_
  refine z_evBn (N := 3) (f := (I (67 + e))) (k := t) (z_iaA (z_A_takers e (by omega))) rfl (by omega) ?_
  refine z_evL ?_
  refine z_evG 1 (y := z_ret (z_cl E (d + 1) 11 [.ref 1, .int (I (67 + e) t)] (161, (I, J, RF w))) 15 [some (.ref 65), some (.int (nI e)), some (.int (nI t)), some (.ref a), some (.ref b), none, none, none, none] []) (fun _ => rfl) ?_
  refine z_evK (v := .ref (3 + r)) (z' := 161) (σ' := (I, J, RF w)) ((congrArg (fun q => z_cl E (d + 1) 11 [.ref 1, .int q] (161, I, J, RF w)) (hr : (I (67 + e) t : Int32) = nI r)).trans (x_rows_getN E d I J w r (by omega))) ?_
  refine z_evG 5 (y := z_go 23 [some (.ref 65), some (.int (nI e)), some (.int (nI t)), some (.ref a), some (.ref b), some (.ref (3 + r)), some (.long 0), none, some (.int 0)] [] 161 (I, J, RF w)) (fun _ => rfl) ?_
  refine z_evL ?_
  refine z_loop (F := fun k => ([some (.ref 65), some (.int (nI e)), some (.int (nI t)), some (.ref a), some (.ref b), some (.ref (3 + r)), some (.long (z_fo (fun c s => s + (I a c - I b c).toInt64 * (I (3 + r) c).toInt64) 0 k)), none, some (.int (nI k))], (I, J, RF w))) (P := fun k => True) 8 trivial (fun hP => ?_) (fun k hk hP next => ?_)
  · show z_Ev E (d + 1) z_m22 23 [some (.ref 65), some (.int (nI e)), some (.int (nI t)), some (.ref a), some (.ref b), some (.ref (3 + r)), some (.long (z_fo (fun c s => s + (I a c - I b c).toInt64 * (I (3 + r) c).toInt64) 0 8)), none, some (.int (nI 8))] [] 161 (I, J, RF w) _
    refine z_evG 3 (y := if (nI 8) < 8 then z_go 30 [some (.ref 65), some (.int (nI e)), some (.int (nI t)), some (.ref a), some (.ref b), some (.ref (3 + r)), some (.long (z_fo (fun c s => s + (I a c - I b c).toInt64 * (I (3 + r) c).toInt64) 0 8)), none, some (.int (nI 8))] [] 161 (I, J, RF w) else z_go 59 [some (.ref 65), some (.int (nI e)), some (.int (nI t)), some (.ref a), some (.ref b), some (.ref (3 + r)), some (.long (z_fo (fun c s => s + (I a c - I b c).toInt64 * (I (3 + r) c).toInt64) 0 8)), none, some (.int (nI 8))] [] 161 (I, J, RF w)) (fun _ => rfl) ?_
    refine z_evF (mt (show _ ↔ 8 < 8 from z_ltN rfl rfl (by omega) (by omega)).mp (by omega)) ?_
    refine z_evL ?_
    refine z_evG 3 (y := some (.inr (some (.long (if 0 < (z_fo (fun c s => s + (I a c - I b c).toInt64 * (I (3 + r) c).toInt64) 0 8) then (z_fo (fun c s => s + (I a c - I b c).toInt64 * (I (3 + r) c).toInt64) 0 8) else -(z_fo (fun c s => s + (I a c - I b c).toInt64 * (I (3 + r) c).toInt64) 0 8))), 161, I, J, RF w))) (fun _ => rfl) ?_
    exact z_evR rfl
  · show z_Ev E (d + 1) z_m22 23 [some (.ref 65), some (.int (nI e)), some (.int (nI t)), some (.ref a), some (.ref b), some (.ref (3 + r)), some (.long (z_fo (fun c s => s + (I a c - I b c).toInt64 * (I (3 + r) c).toInt64) 0 k)), none, some (.int (nI k))] [] 161 (I, J, RF w) _
    have nx : (True) → z_Ev E (d + 1) z_m22 23 [some (.ref 65), some (.int (nI e)), some (.int (nI t)), some (.ref a), some (.ref b), some (.ref (3 + r)), some (.long (z_fo (fun c s => s + (I a c - I b c).toInt64 * (I (3 + r) c).toInt64) 0 (k + 1))), none, some (.int (nI (k + 1)))] [] 161 (I, J, RF w) _ := next
    refine z_evG 3 (y := if (nI k) < 8 then z_go 30 [some (.ref 65), some (.int (nI e)), some (.int (nI t)), some (.ref a), some (.ref b), some (.ref (3 + r)), some (.long (z_fo (fun c s => s + (I a c - I b c).toInt64 * (I (3 + r) c).toInt64) 0 k)), none, some (.int (nI k))] [] 161 (I, J, RF w) else z_go 59 [some (.ref 65), some (.int (nI e)), some (.int (nI t)), some (.ref a), some (.ref b), some (.ref (3 + r)), some (.long (z_fo (fun c s => s + (I a c - I b c).toInt64 * (I (3 + r) c).toInt64) 0 k)), none, some (.int (nI k))] [] 161 (I, J, RF w)) (fun _ => rfl) ?_
    refine z_evT ((show _ ↔ k < 8 from z_ltN rfl rfl (by omega) (by omega)).mpr (by omega)) ?_
    refine z_evL ?_
    refine z_evG 4 (y := z_ild (z_ia E 161 (I, J, RF w) a) (nI k) fun vv => z_go 36 [some (.ref 65), some (.int (nI e)), some (.int (nI t)), some (.ref a), some (.ref b), some (.ref (3 + r)), some (.long (z_fo (fun c s => s + (I a c - I b c).toInt64 * (I (3 + r) c).toInt64) 0 k)), none, some (.int (nI k))] [.int vv, .long (z_fo (fun c s => s + (I a c - I b c).toInt64 * (I (3 + r) c).toInt64) 0 k)] 161 (I, J, RF w)) (fun _ => rfl) ?_
    refine z_evBn (N := 8) (f := (I a)) (k := k) (z_iaA ha) rfl (by omega) ?_
    refine z_evL ?_
    refine z_evG 3 (y := z_ild (z_ia E 161 (I, J, RF w) b) (nI k) fun vv => z_go 41 [some (.ref 65), some (.int (nI e)), some (.int (nI t)), some (.ref a), some (.ref b), some (.ref (3 + r)), some (.long (z_fo (fun c s => s + (I a c - I b c).toInt64 * (I (3 + r) c).toInt64) 0 k)), none, some (.int (nI k))] [.int vv, .int (I a k), .long (z_fo (fun c s => s + (I a c - I b c).toInt64 * (I (3 + r) c).toInt64) 0 k)] 161 (I, J, RF w)) (fun _ => rfl) ?_
    refine z_evBn (N := 8) (f := (I b)) (k := k) (z_iaA hb) rfl (by omega) ?_
    refine z_evL ?_
    refine z_evG 5 (y := z_ild (z_ia E 161 (I, J, RF w) (3 + r)) (nI k) fun vv => z_go 48 [some (.ref 65), some (.int (nI e)), some (.int (nI t)), some (.ref a), some (.ref b), some (.ref (3 + r)), some (.long (z_fo (fun c s => s + (I a c - I b c).toInt64 * (I (3 + r) c).toInt64) 0 k)), none, some (.int (nI k))] [.int vv, .long (((I a k) - (I b k)).toInt64), .long (z_fo (fun c s => s + (I a c - I b c).toInt64 * (I (3 + r) c).toInt64) 0 k)] 161 (I, J, RF w)) (fun _ => rfl) ?_
    refine z_evBn (N := 8) (f := (I (3 + r))) (k := k) (z_iaA (z_A_rows r (by omega))) rfl (by omega) ?_
    refine z_evL ?_
    refine z_evG 6 (y := z_go 23 [some (.ref 65), some (.int (nI e)), some (.int (nI t)), some (.ref a), some (.ref b), some (.ref (3 + r)), some (.long ((z_fo (fun c s => s + (I a c - I b c).toInt64 * (I (3 + r) c).toInt64) 0 k) + ((((I a k) - (I b k)).toInt64) * ((I (3 + r) k).toInt64)))), none, some (.int ((nI k) + 1))] [] 161 (I, J, RF w)) (fun _ => rfl) ?_
    refine z_evL ?_
    rw [nI_1 k]
    exact nx trivial
set_option maxRecDepth 20000 in
/-- LampHouse$Eyes.isSame -/
theorem x_isSame (E : zE) (d : Nat) (I : Nat → Nat → Int32) (J : Nat → Nat → Int64) (w : Nat) (e a b n : Nat) (r : Nat → Nat) (he : e < 8) (hn : n ≤ 3) (hs : I 75 e = nI n) (hr : ∀ t, t < n → I (67 + e) t = nI (r t) ∧ r t < 30) (ha : z_A a 8) (hb : z_A b 8) : z_cl E (d + 3) 23 [.ref 65, .int (nI e), .ref a, .ref b] (161, I, J, RF w) = some (some (.int (z_bo (∀ t, t < n → z_apa (I a) (I b) (I (3 + r t)) = 0))), 161, I, J, RF w) := by
  refine z_call (d := d + 2) (M := z_m23) rfl rfl ?_
  refine z_evG 2 (y := z_go 3 [some (.ref 65), some (.int (nI e)), some (.ref a), some (.ref b), some (.int 0)] [] 161 (I, J, RF w)) (fun _ => rfl) ?_
  refine z_evL ?_
  refine z_loop (F := fun k => ([some (.ref 65), some (.int (nI e)), some (.ref a), some (.ref b), some (.int (nI k))], (I, J, RF w))) (P := fun k => ∀ t, t < k → z_apa (I a) (I b) (I (3 + r t)) = 0) n z_all0 (fun hP => ?_) (fun k hk hP next => ?_)
  · show z_Ev E (d + 2) z_m23 3 [some (.ref 65), some (.int (nI e)), some (.ref a), some (.ref b), some (.int (nI n))] [] 161 (I, J, RF w) _
    refine z_evG 5 (y := z_ild (z_ia E 161 (I, J, RF w) 75) (nI e) fun vv => z_go 11 [some (.ref 65), some (.int (nI e)), some (.ref a), some (.ref b), some (.int (nI n))] [.int vv, .int (nI n)] 161 (I, J, RF w)) (fun _ => rfl) ?_
    refine z_evBn (N := 8) (f := (I 75)) (k := e) rfl rfl (by omega) ?_
    refine z_evL ?_
    refine z_evG 1 (y := if (nI n) < (I 75 e) then z_go 14 [some (.ref 65), some (.int (nI e)), some (.ref a), some (.ref b), some (.int (nI n))] [] 161 (I, J, RF w) else z_go 36 [some (.ref 65), some (.int (nI e)), some (.ref a), some (.ref b), some (.int (nI n))] [] 161 (I, J, RF w)) (fun _ => rfl) ?_
    refine z_evF (mt (show _ ↔ n < n from z_ltN rfl hs (by omega) (by omega)).mp (by omega)) ?_
    refine z_evL ?_
    refine z_evG 2 (y := some (.inr (some (.int 1), 161, I, J, RF w))) (fun _ => rfl) ?_
    exact z_evR (by rw [z_bo_t hP])
  · show z_Ev E (d + 2) z_m23 3 [some (.ref 65), some (.int (nI e)), some (.ref a), some (.ref b), some (.int (nI k))] [] 161 (I, J, RF w) _
    have nx : (∀ t, t < (k + 1) → z_apa (I a) (I b) (I (3 + r t)) = 0) → z_Ev E (d + 2) z_m23 3 [some (.ref 65), some (.int (nI e)), some (.ref a), some (.ref b), some (.int (nI (k + 1)))] [] 161 (I, J, RF w) _ := next
    refine z_evG 5 (y := z_ild (z_ia E 161 (I, J, RF w) 75) (nI e) fun vv => z_go 11 [some (.ref 65), some (.int (nI e)), some (.ref a), some (.ref b), some (.int (nI k))] [.int vv, .int (nI k)] 161 (I, J, RF w)) (fun _ => rfl) ?_
    refine z_evBn (N := 8) (f := (I 75)) (k := e) rfl rfl (by omega) ?_
    refine z_evL ?_
    refine z_evG 1 (y := if (nI k) < (I 75 e) then z_go 14 [some (.ref 65), some (.int (nI e)), some (.ref a), some (.ref b), some (.int (nI k))] [] 161 (I, J, RF w) else z_go 36 [some (.ref 65), some (.int (nI e)), some (.ref a), some (.ref b), some (.int (nI k))] [] 161 (I, J, RF w)) (fun _ => rfl) ?_
    refine z_evT ((show _ ↔ k < n from z_ltN rfl hs (by omega) (by omega)).mpr (by omega)) ?_
    refine z_evL ?_
    refine z_evG 6 (y := z_ret (z_cl E (d + 2) 22 [.ref 65, .int (nI e), .int (nI k), .ref a, .ref b] (161, (I, J, RF w))) 23 [some (.ref 65), some (.int (nI e)), some (.ref a), some (.ref b), some (.int (nI k))] []) (fun _ => rfl) ?_
    refine z_evK (v := .long (z_abs (z_apa (I a) (I b) (I (3 + (r k)))))) (z' := 161) (σ' := (I, J, RF w)) (x_apart E d I J w e k a b (r k) (by omega) (by omega) (hr k hk).1 (hr k hk).2 ha hb) ?_
    refine z_evG 3 (y := if (lg_cmp (z_abs (z_apa (I a) (I b) (I (3 + (r k))))) 0) = 0 then z_go 30 [some (.ref 65), some (.int (nI e)), some (.ref a), some (.ref b), some (.int (nI k))] [] 161 (I, J, RF w) else z_go 28 [some (.ref 65), some (.int (nI e)), some (.ref a), some (.ref b), some (.int (nI k))] [] 161 (I, J, RF w)) (fun _ => rfl) ?_
    refine z_evIN ((lg_cmp_eq _ _).trans z_abs0) (fun h3 => ?_) (fun h3 => ?_)
    · refine z_evL ?_
      refine z_evG 2 (y := z_go 3 [some (.ref 65), some (.int (nI e)), some (.ref a), some (.ref b), some (.int ((nI k) + 1))] [] 161 (I, J, RF w)) (fun _ => rfl) ?_
      refine z_evL ?_
      rw [nI_1 k]
      exact nx (z_allS hP h3)
    · refine z_evL ?_
      refine z_evG 2 (y := some (.inr (some (.int 0), 161, I, J, RF w))) (fun _ => rfl) ?_
      exact z_evR (by rw [z_bo_f (fun q => h3 (q k hk))])
