-- TURN: what a thing makes of a light
theorem z_divE {x : Int32} {a m : Nat} (hx : x = nI a) (ha : a < 2 ^ 31) (h0 : 0 < m) (hm : m < 2 ^ 31) : x / nI m = nI (a / m) := by
  subst hx
  have h1 : a / m < 2 ^ 31 := Nat.lt_of_le_of_lt (Nat.div_le_self a m) ha
  refine Int32.toInt_inj.mp ?_
  rw [lg_idiv_nonneg (by rw [nI_toInt ha]; omega) (by rw [nI_toInt hm]; omega), nI_toInt ha, nI_toInt hm, nI_toInt h1]
  exact (Int.natCast_ediv a m).symm
theorem z_remE {x : Int32} {a m : Nat} (hx : x = nI a) (ha : a < 2 ^ 31) (h0 : 0 < m) (hm : m < 2 ^ 31) : x - x / nI m * nI m = nI (a % m) := by
  rw [z_divE hx ha h0 hm, z_mul, hx, z_sub (Nat.div_mul_le_self a m), Nat.mod_def, Nat.mul_comm m]
theorem z_fil_in0 {α : Type} {f g : Nat → α} {k j : Nat} (h : j < k) : z_fil f 0 k g j = g j := by
  rw [z_fil_in (by omega)]; rfl
def z_lim9 (x : Int64) : Int32 := (if 1000000000 < x then 1000000000 else x).toInt32
def z_trn (K : Nat) (x r p : Int64) : Int64 := match K with
  | 0 => x * r / 1000
  | 1 => x * r / 1000 + r
  | 2 => x * (500 + r / 2) / 1000
  | 3 => (x * r / 1000 + r) * p / 100
  | 4 => x * (500 + r / 2) / 1000
  | _ => x * (500 + r / 2) / 1000 * (500 + r / 2) / 1000
set_option maxRecDepth 20000 in
/-- LampHouse$Things.turned -/
theorem x_turned_0 (E : zE) (d : Nat) (I : Nat → Nat → Int32) (J : Nat → Nat → Int64) (w : Nat) (t : Nat) (x r : Int64) (ht : t < 20) (hK : I 38 t = 0) : z_cl E (d + 3) 121 [.ref 37, .int (nI t), .long x, .long r] (161, I, J, RF w) = some (some (.long (x * r / 1000)), 161, I, J, RF w) := by
  refine z_call (d := d + 2) (M := z_m121) rfl rfl ?_
  refine z_evG 4 (y := z_ild (z_ia E 161 (I, J, RF w) 38) (nI t) fun vv => z_go 6 [some (.ref 37), some (.int (nI t)), some (.long x), none, some (.long r), none] [.int vv] 161 (I, J, RF w)) (fun _ => rfl) ?_
  refine z_evBn (N := 20) (f := (I 38)) (k := t) rfl rfl (by omega) ?_
  refine z_evL ?_
  rw [show I 38 t = 0 from hK]
  refine z_evG 4 (y := z_ret (z_cl E (d + 2) 122 [.long x, .long r] (161, (I, J, RF w))) 100 [some (.ref 37), some (.int (nI t)), some (.long x), none, some (.long r), none] []) (fun _ => rfl) ?_
  refine z_evK (v := .long (x * r / 1000)) (z' := 161) (σ' := (I, J, RF w)) (x_asThing E (d + 1) I J w x r) ?_
  refine z_evG 1 (y := some (.inr (some (.long (x * r / 1000)), 161, I, J, RF w))) (fun _ => rfl) ?_
  exact z_evR rfl
set_option maxRecDepth 20000 in
/-- LampHouse$Things.turned -/
theorem x_turned_1 (E : zE) (d : Nat) (I : Nat → Nat → Int32) (J : Nat → Nat → Int64) (w : Nat) (t : Nat) (x r : Int64) (ht : t < 20) (hK : I 38 t = 1) : z_cl E (d + 3) 121 [.ref 37, .int (nI t), .long x, .long r] (161, I, J, RF w) = some (some (.long ((x * r / 1000) + r)), 161, I, J, RF w) := by
  refine z_call (d := d + 2) (M := z_m121) rfl rfl ?_
  refine z_evG 4 (y := z_ild (z_ia E 161 (I, J, RF w) 38) (nI t) fun vv => z_go 6 [some (.ref 37), some (.int (nI t)), some (.long x), none, some (.long r), none] [.int vv] 161 (I, J, RF w)) (fun _ => rfl) ?_
  refine z_evBn (N := 20) (f := (I 38)) (k := t) rfl rfl (by omega) ?_
  refine z_evL ?_
  rw [show I 38 t = 1 from hK]
  refine z_evG 4 (y := z_ret (z_cl E (d + 2) 122 [.long x, .long r] (161, (I, J, RF w))) 46 [some (.ref 37), some (.int (nI t)), some (.long x), none, some (.long r), none] []) (fun _ => rfl) ?_
  refine z_evK (v := .long (x * r / 1000)) (z' := 161) (σ' := (I, J, RF w)) (x_asThing E (d + 1) I J w x r) ?_
  refine z_evG 3 (y := some (.inr (some (.long ((x * r / 1000) + r)), 161, I, J, RF w))) (fun _ => rfl) ?_
  exact z_evR rfl
set_option maxRecDepth 20000 in
/-- LampHouse$Things.turned -/
theorem x_turned_2 (E : zE) (d : Nat) (I : Nat → Nat → Int32) (J : Nat → Nat → Int64) (w : Nat) (t : Nat) (x r : Int64) (ht : t < 20) (hK : I 38 t = 2) : z_cl E (d + 3) 121 [.ref 37, .int (nI t), .long x, .long r] (161, I, J, RF w) = some (some (.long (x * (500 + r / 2) / 1000)), 161, I, J, RF w) := by
  refine z_call (d := d + 2) (M := z_m121) rfl rfl ?_
  refine z_evG 4 (y := z_ild (z_ia E 161 (I, J, RF w) 38) (nI t) fun vv => z_go 6 [some (.ref 37), some (.int (nI t)), some (.long x), none, some (.long r), none] [.int vv] 161 (I, J, RF w)) (fun _ => rfl) ?_
  refine z_evBn (N := 20) (f := (I 38)) (k := t) rfl rfl (by omega) ?_
  refine z_evL ?_
  rw [show I 38 t = 2 from hK]
  refine z_evG 4 (y := z_ret (z_cl E (d + 2) 123 [.long x, .long r] (161, (I, J, RF w))) 81 [some (.ref 37), some (.int (nI t)), some (.long x), none, some (.long r), none] []) (fun _ => rfl) ?_
  refine z_evK (v := .long (x * (500 + r / 2) / 1000)) (z' := 161) (σ' := (I, J, RF w)) (x_asGlass E d I J w x r) ?_
  refine z_evG 1 (y := some (.inr (some (.long (x * (500 + r / 2) / 1000)), 161, I, J, RF w))) (fun _ => rfl) ?_
  exact z_evR rfl
set_option maxRecDepth 20000 in
/-- LampHouse$Things.turned -/
theorem x_turned_4 (E : zE) (d : Nat) (I : Nat → Nat → Int32) (J : Nat → Nat → Int64) (w : Nat) (t : Nat) (x r : Int64) (ht : t < 20) (hK : I 38 t = 4) : z_cl E (d + 3) 121 [.ref 37, .int (nI t), .long x, .long r] (161, I, J, RF w) = some (some (.long (x * (500 + r / 2) / 1000)), 161, I, J, RF w) := by
  refine z_call (d := d + 2) (M := z_m121) rfl rfl ?_
  refine z_evG 4 (y := z_ild (z_ia E 161 (I, J, RF w) 38) (nI t) fun vv => z_go 6 [some (.ref 37), some (.int (nI t)), some (.long x), none, some (.long r), none] [.int vv] 161 (I, J, RF w)) (fun _ => rfl) ?_
  refine z_evBn (N := 20) (f := (I 38)) (k := t) rfl rfl (by omega) ?_
  refine z_evL ?_
  rw [show I 38 t = 4 from hK]
  refine z_evG 4 (y := z_ret (z_cl E (d + 2) 123 [.long x, .long r] (161, (I, J, RF w))) 81 [some (.ref 37), some (.int (nI t)), some (.long x), none, some (.long r), none] []) (fun _ => rfl) ?_
  refine z_evK (v := .long (x * (500 + r / 2) / 1000)) (z' := 161) (σ' := (I, J, RF w)) (x_asGlass E d I J w x r) ?_
  refine z_evG 1 (y := some (.inr (some (.long (x * (500 + r / 2) / 1000)), 161, I, J, RF w))) (fun _ => rfl) ?_
  exact z_evR rfl
set_option maxRecDepth 20000 in
/-- LampHouse$Things.turned -/
theorem x_turned_5 (E : zE) (d : Nat) (I : Nat → Nat → Int32) (J : Nat → Nat → Int64) (w : Nat) (t : Nat) (x r : Int64) (ht : t < 20) (hK : I 38 t = 5) : z_cl E (d + 3) 121 [.ref 37, .int (nI t), .long x, .long r] (161, I, J, RF w) = some (some (.long ((x * (500 + r / 2) / 1000) * (500 + r / 2) / 1000)), 161, I, J, RF w) := by
  refine z_call (d := d + 2) (M := z_m121) rfl rfl ?_
  refine z_evG 4 (y := z_ild (z_ia E 161 (I, J, RF w) 38) (nI t) fun vv => z_go 6 [some (.ref 37), some (.int (nI t)), some (.long x), none, some (.long r), none] [.int vv] 161 (I, J, RF w)) (fun _ => rfl) ?_
  refine z_evBn (N := 20) (f := (I 38)) (k := t) rfl rfl (by omega) ?_
  refine z_evL ?_
  rw [show I 38 t = 5 from hK]
  refine z_evG 4 (y := z_ret (z_cl E (d + 2) 123 [.long x, .long r] (161, (I, J, RF w))) 88 [some (.ref 37), some (.int (nI t)), some (.long x), none, some (.long r), none] []) (fun _ => rfl) ?_
  refine z_evK (v := .long (x * (500 + r / 2) / 1000)) (z' := 161) (σ' := (I, J, RF w)) (x_asGlass E d I J w x r) ?_
  refine z_evG 2 (y := z_ret (z_cl E (d + 2) 123 [.long (x * (500 + r / 2) / 1000), .long r] (161, (I, J, RF w))) 93 [some (.ref 37), some (.int (nI t)), some (.long x), none, some (.long r), none] []) (fun _ => rfl) ?_
  refine z_evK (v := .long ((x * (500 + r / 2) / 1000) * (500 + r / 2) / 1000)) (z' := 161) (σ' := (I, J, RF w)) (x_asGlass E d I J w (x * (500 + r / 2) / 1000) r) ?_
  refine z_evG 1 (y := some (.inr (some (.long ((x * (500 + r / 2) / 1000) * (500 + r / 2) / 1000)), 161, I, J, RF w))) (fun _ => rfl) ?_
  exact z_evR rfl
set_option maxRecDepth 20000 in
/-- LampHouse$Things.turned -/
theorem x_turned_3 (E : zE) (d : Nat) (I : Nat → Nat → Int32) (J : Nat → Nat → Int64) (w : Nat) (t : Nat) (x r p : Int64) (ht : t < 20) (hK : I 38 t = 3) (hp : (100 - I 40 t).toInt64 = p) : z_cl E (d + 3) 121 [.ref 37, .int (nI t), .long x, .long r] (161, I, J, RF w) = some (some (.long ((x * r / 1000 + r) * p / 100)), 161, I, J, RF w) := by
  refine z_call (d := d + 2) (M := z_m121) rfl rfl ?_
  refine z_evG 4 (y := z_ild (z_ia E 161 (I, J, RF w) 38) (nI t) fun vv => z_go 6 [some (.ref 37), some (.int (nI t)), some (.long x), none, some (.long r), none] [.int vv] 161 (I, J, RF w)) (fun _ => rfl) ?_
  refine z_evBn (N := 20) (f := (I 38)) (k := t) rfl rfl (by omega) ?_
  refine z_evL ?_
  rw [show I 38 t = 3 from hK]
  refine z_evG 4 (y := z_ret (z_cl E (d + 2) 122 [.long x, .long r] (161, (I, J, RF w))) 56 [some (.ref 37), some (.int (nI t)), some (.long x), none, some (.long r), none] []) (fun _ => rfl) ?_
  refine z_evK (v := .long (x * r / 1000)) (z' := 161) (σ' := (I, J, RF w)) (x_asThing E (d + 1) I J w x r) ?_
  refine z_evG 7 (y := z_ild (z_ia E 161 (I, J, RF w) 40) (nI t) fun vv => z_go 67 [some (.ref 37), some (.int (nI t)), some (.long x), none, some (.long r), none] [.int vv, .int 100, .long ((x * r / 1000) + r)] 161 (I, J, RF w)) (fun _ => rfl) ?_
  refine z_evBn (N := 20) (f := (I 40)) (k := t) rfl rfl (by omega) ?_
  refine z_evL ?_
  refine z_evG 5 (y := z_ck (!decide ((100 : Int64) = 0)) (z_go 74 [some (.ref 37), some (.int (nI t)), some (.long x), none, some (.long r), none] [.long ((((x * r / 1000) + r) * ((100 - (I 40 t)).toInt64)) / 100)] 161 (I, J, RF w))) (fun _ => rfl) ?_
  refine z_evC (by decide) ?_
  refine z_evL ?_
  refine z_evG 1 (y := some (.inr (some (.long ((((x * r / 1000) + r) * ((100 - (I 40 t)).toInt64)) / 100)), 161, I, J, RF w))) (fun _ => rfl) ?_
  rw [hp]
  exact z_evR rfl
set_option maxRecDepth 20000 in
/-- LampHouse$Things.turn -/
theorem x_turn_0 (E : zE) (d : Nat) (I : Nat → Nat → Int32) (J : Nat → Nat → Int64) (w : Nat) (t a b r : Nat) (ht : t < 20) (hr : I 39 t = nI r) (hr3 : r < 30) (ha : z_A a 8) (hb : z_A b 8) (hb9 : 96 ≤ b) (hab : a ≠ b) (hK : I 38 t = 0) : z_cl E (d + 4) 120 [.ref 37, .int (nI t), .ref a, .ref b] (161, I, J, RF w) = some (none, 161, (z_ur I b (z_fil (I b) 0 8 (fun c => z_lim9 (z_trn 0 (I a c).toInt64 (I (3 + r) c).toInt64 (100 - I 40 t).toInt64)))), J, RF w) := by
  refine z_call (d := d + 3) (M := z_m120) rfl rfl ?_
  refine z_evG 6 (y := z_ild (z_ia E 161 (I, J, RF w) 39) (nI t) fun vv => z_go 10 [some (.ref 37), some (.int (nI t)), some (.ref a), some (.ref b), none, none] [.int vv, .ref 1] 161 (I, J, RF w)) (fun _ => rfl) ?_
  refine z_evBn (N := 20) (f := (I 39)) (k := t) rfl rfl (by omega) ?_
  refine z_evL ?_
  refine z_evG 1 (y := z_ret (z_cl E (d + 3) 11 [.ref 1, .int (I 39 t)] (161, (I, J, RF w))) 13 [some (.ref 37), some (.int (nI t)), some (.ref a), some (.ref b), none, none] []) (fun _ => rfl) ?_
  refine z_evK (v := .ref (3 + r)) (z' := 161) (σ' := (I, J, RF w)) ((congrArg (fun q => z_cl E (d + 3) 11 [.ref 1, .int q] (161, I, J, RF w)) (hr : (I 39 t : Int32) = nI r)).trans (x_rows_getN E (d + 2) I J w r (by omega))) ?_
  refine z_evG 3 (y := z_go 18 [some (.ref 37), some (.int (nI t)), some (.ref a), some (.ref b), some (.ref (3 + r)), some (.int 0)] [] 161 (I, J, RF w)) (fun _ => rfl) ?_
  refine z_evL ?_
  have st0 : ∀ m0, m0 = 0 → ∀ q, z_Ev E (d + 3) z_m120 18 [some (.ref 37), some (.int (nI t)), some (.ref a), some (.ref b), some (.ref (3 + r)), some (.int (nI m0))] [] 161 ((z_ur I b (z_fil (I b) 0 m0 (fun c => z_lim9 (z_trn 0 (I a c).toInt64 (I (3 + r) c).toInt64 (100 - I 40 t).toInt64)))), J, RF w) q → z_Ev E (d + 3) z_m120 18 [some (.ref 37), some (.int (nI t)), some (.ref a), some (.ref b), some (.ref (3 + r)), some (.int 0)] [] 161 (I, J, RF w) q := by intro m0 hm0 q h; rw [hm0, z_fil_0] at h; subst hm0; exact h
  refine st0 0 rfl _ ?_
  refine z_loop (F := fun k => ([some (.ref 37), some (.int (nI t)), some (.ref a), some (.ref b), some (.ref (3 + r)), some (.int (nI k))], ((z_ur I b (z_fil (I b) 0 k (fun c => z_lim9 (z_trn 0 (I a c).toInt64 (I (3 + r) c).toInt64 (100 - I 40 t).toInt64)))), J, RF w))) (P := fun k => True) 8 trivial (fun hP => ?_) (fun k hk hP next => ?_)
  · show z_Ev E (d + 3) z_m120 18 [some (.ref 37), some (.int (nI t)), some (.ref a), some (.ref b), some (.ref (3 + r)), some (.int (nI 8))] [] 161 ((z_ur I b (z_fil (I b) 0 8 (fun c => z_lim9 (z_trn 0 (I a c).toInt64 (I (3 + r) c).toInt64 (100 - I 40 t).toInt64)))), J, RF w) _
    refine z_evG 3 (y := if (nI 8) < 8 then z_go 25 [some (.ref 37), some (.int (nI t)), some (.ref a), some (.ref b), some (.ref (3 + r)), some (.int (nI 8))] [] 161 ((z_ur I b (z_fil (I b) 0 8 (fun c => z_lim9 (z_trn 0 (I a c).toInt64 (I (3 + r) c).toInt64 (100 - I 40 t).toInt64)))), J, RF w) else z_go 54 [some (.ref 37), some (.int (nI t)), some (.ref a), some (.ref b), some (.ref (3 + r)), some (.int (nI 8))] [] 161 ((z_ur I b (z_fil (I b) 0 8 (fun c => z_lim9 (z_trn 0 (I a c).toInt64 (I (3 + r) c).toInt64 (100 - I 40 t).toInt64)))), J, RF w)) (fun _ => rfl) ?_
    refine z_evF (mt (show _ ↔ 8 < 8 from z_ltN rfl rfl (by omega) (by omega)).mp (by omega)) ?_
    refine z_evL ?_
    refine z_evG 4 (y := z_ild (z_ia E 161 ((z_ur I b (z_fil (I b) 0 8 (fun c => z_lim9 (z_trn 0 (I a c).toInt64 (I (3 + r) c).toInt64 (100 - I 40 t).toInt64)))), J, RF w) 38) (nI t) fun vv => z_go 60 [some (.ref 37), some (.int (nI t)), some (.ref a), some (.ref b), some (.ref (3 + r)), some (.int (nI 8))] [.int vv] 161 ((z_ur I b (z_fil (I b) 0 8 (fun c => z_lim9 (z_trn 0 (I a c).toInt64 (I (3 + r) c).toInt64 (100 - I 40 t).toInt64)))), J, RF w)) (fun _ => rfl) ?_
    refine z_evBn (N := 20) (f := ((z_ur I b (z_fil (I b) 0 8 (fun c => z_lim9 (z_trn 0 (I a c).toInt64 (I (3 + r) c).toInt64 (100 - I 40 t).toInt64)))) 38)) (k := t) rfl rfl (by omega) ?_
    refine z_evL ?_
    rw [show (z_ur I b (z_fil (I b) 0 8 (fun c => z_lim9 (z_trn 0 (I a c).toInt64 (I (3 + r) c).toInt64 (100 - I 40 t).toInt64)))) 38 t = I 38 t from (congrFun (z_ur_n _ _ (by omega)) _)]
    rw [show I 38 t = 0 from hK]
    refine z_evG 2 (y := if 0 = 4 then z_go 64 [some (.ref 37), some (.int (nI t)), some (.ref a), some (.ref b), some (.ref (3 + r)), some (.int (nI 8))] [] 161 ((z_ur I b (z_fil (I b) 0 8 (fun c => z_lim9 (z_trn 0 (I a c).toInt64 (I (3 + r) c).toInt64 (100 - I 40 t).toInt64)))), J, RF w) else z_go 94 [some (.ref 37), some (.int (nI t)), some (.ref a), some (.ref b), some (.ref (3 + r)), some (.int (nI 8))] [] 161 ((z_ur I b (z_fil (I b) 0 8 (fun c => z_lim9 (z_trn 0 (I a c).toInt64 (I (3 + r) c).toInt64 (100 - I 40 t).toInt64)))), J, RF w)) (fun _ => rfl) ?_
    refine z_evI (fun q => absurd q (by decide)) (fun _ => ?_)
    refine z_evL ?_
    refine z_evG 1 (y := some (.inr (none, 161, (z_ur I b (z_fil (I b) 0 8 (fun c => z_lim9 (z_trn 0 (I a c).toInt64 (I (3 + r) c).toInt64 (100 - I 40 t).toInt64)))), J, RF w))) (fun _ => rfl) ?_
    exact z_evR rfl
  · show z_Ev E (d + 3) z_m120 18 [some (.ref 37), some (.int (nI t)), some (.ref a), some (.ref b), some (.ref (3 + r)), some (.int (nI k))] [] 161 ((z_ur I b (z_fil (I b) 0 k (fun c => z_lim9 (z_trn 0 (I a c).toInt64 (I (3 + r) c).toInt64 (100 - I 40 t).toInt64)))), J, RF w) _
    have nx : (True) → z_Ev E (d + 3) z_m120 18 [some (.ref 37), some (.int (nI t)), some (.ref a), some (.ref b), some (.ref (3 + r)), some (.int (nI (k + 1)))] [] 161 ((z_ur I b (z_fil (I b) 0 (k + 1) (fun c => z_lim9 (z_trn 0 (I a c).toInt64 (I (3 + r) c).toInt64 (100 - I 40 t).toInt64)))), J, RF w) _ := next
    refine z_evG 3 (y := if (nI k) < 8 then z_go 25 [some (.ref 37), some (.int (nI t)), some (.ref a), some (.ref b), some (.ref (3 + r)), some (.int (nI k))] [] 161 ((z_ur I b (z_fil (I b) 0 k (fun c => z_lim9 (z_trn 0 (I a c).toInt64 (I (3 + r) c).toInt64 (100 - I 40 t).toInt64)))), J, RF w) else z_go 54 [some (.ref 37), some (.int (nI t)), some (.ref a), some (.ref b), some (.ref (3 + r)), some (.int (nI k))] [] 161 ((z_ur I b (z_fil (I b) 0 k (fun c => z_lim9 (z_trn 0 (I a c).toInt64 (I (3 + r) c).toInt64 (100 - I 40 t).toInt64)))), J, RF w)) (fun _ => rfl) ?_
    refine z_evT ((show _ ↔ k < 8 from z_ltN rfl rfl (by omega) (by omega)).mpr (by omega)) ?_
    refine z_evL ?_
    refine z_evG 7 (y := z_ild (z_ia E 161 ((z_ur I b (z_fil (I b) 0 k (fun c => z_lim9 (z_trn 0 (I a c).toInt64 (I (3 + r) c).toInt64 (100 - I 40 t).toInt64)))), J, RF w) a) (nI k) fun vv => z_go 34 [some (.ref 37), some (.int (nI t)), some (.ref a), some (.ref b), some (.ref (3 + r)), some (.int (nI k))] [.int vv, .int (nI t), .ref 37, .int (nI k), .ref b] 161 ((z_ur I b (z_fil (I b) 0 k (fun c => z_lim9 (z_trn 0 (I a c).toInt64 (I (3 + r) c).toInt64 (100 - I 40 t).toInt64)))), J, RF w)) (fun _ => rfl) ?_
    refine z_evBn (N := 8) (f := ((z_ur I b (z_fil (I b) 0 k (fun c => z_lim9 (z_trn 0 (I a c).toInt64 (I (3 + r) c).toInt64 (100 - I 40 t).toInt64)))) a)) (k := k) (z_iaA ha) rfl (by omega) ?_
    refine z_evL ?_
    rw [show (z_ur I b (z_fil (I b) 0 k (fun c => z_lim9 (z_trn 0 (I a c).toInt64 (I (3 + r) c).toInt64 (100 - I 40 t).toInt64)))) a k = I a k from (congrFun (z_ur_n _ _ hab) _)]
    refine z_evG 4 (y := z_ild (z_ia E 161 ((z_ur I b (z_fil (I b) 0 k (fun c => z_lim9 (z_trn 0 (I a c).toInt64 (I (3 + r) c).toInt64 (100 - I 40 t).toInt64)))), J, RF w) (3 + r)) (nI k) fun vv => z_go 40 [some (.ref 37), some (.int (nI t)), some (.ref a), some (.ref b), some (.ref (3 + r)), some (.int (nI k))] [.int vv, .long ((I a k).toInt64), .int (nI t), .ref 37, .int (nI k), .ref b] 161 ((z_ur I b (z_fil (I b) 0 k (fun c => z_lim9 (z_trn 0 (I a c).toInt64 (I (3 + r) c).toInt64 (100 - I 40 t).toInt64)))), J, RF w)) (fun _ => rfl) ?_
    refine z_evBn (N := 8) (f := ((z_ur I b (z_fil (I b) 0 k (fun c => z_lim9 (z_trn 0 (I a c).toInt64 (I (3 + r) c).toInt64 (100 - I 40 t).toInt64)))) (3 + r))) (k := k) (z_iaA (z_A_rows r (by omega))) rfl (by omega) ?_
    refine z_evL ?_
    rw [show (z_ur I b (z_fil (I b) 0 k (fun c => z_lim9 (z_trn 0 (I a c).toInt64 (I (3 + r) c).toInt64 (100 - I 40 t).toInt64)))) (3 + r) k = I (3 + r) k from (congrFun (z_ur_n _ _ (by omega)) _)]
    refine z_evG 2 (y := z_ret (z_cl E (d + 3) 121 [.ref 37, .int (nI t), .long ((I a k).toInt64), .long ((I (3 + r) k).toInt64)] (161, ((z_ur I b (z_fil (I b) 0 k (fun c => z_lim9 (z_trn 0 (I a c).toInt64 (I (3 + r) c).toInt64 (100 - I 40 t).toInt64)))), J, RF w))) 44 [some (.ref 37), some (.int (nI t)), some (.ref a), some (.ref b), some (.ref (3 + r)), some (.int (nI k))] [.int (nI k), .ref b]) (fun _ => rfl) ?_
    refine z_evK (v := .long (((I a k).toInt64) * ((I (3 + r) k).toInt64) / 1000)) (z' := 161) (σ' := ((z_ur I b (z_fil (I b) 0 k (fun c => z_lim9 (z_trn 0 (I a c).toInt64 (I (3 + r) c).toInt64 (100 - I 40 t).toInt64)))), J, RF w)) (x_turned_0 E d (z_ur I b (z_fil (I b) 0 k (fun c => z_lim9 (z_trn 0 (I a c).toInt64 (I (3 + r) c).toInt64 (100 - I 40 t).toInt64)))) J w t ((I a k).toInt64) ((I (3 + r) k).toInt64) (by omega) ((congrFun (z_ur_n _ _ (by omega)) _).trans hK)) ?_
    refine z_evG 1 (y := z_ret (z_cl E (d + 3) 170 [.long (((I a k).toInt64) * ((I (3 + r) k).toInt64) / 1000)] (161, ((z_ur I b (z_fil (I b) 0 k (fun c => z_lim9 (z_trn 0 (I a c).toInt64 (I (3 + r) c).toInt64 (100 - I 40 t).toInt64)))), J, RF w))) 47 [some (.ref 37), some (.int (nI t)), some (.ref a), some (.ref b), some (.ref (3 + r)), some (.int (nI k))] [.int (nI k), .ref b]) (fun _ => rfl) ?_
    refine z_evK (v := .int ((if 1000000000 < (((I a k).toInt64) * ((I (3 + r) k).toInt64) / 1000) then 1000000000 else (((I a k).toInt64) * ((I (3 + r) k).toInt64) / 1000)).toInt32)) (z' := 161) (σ' := ((z_ur I b (z_fil (I b) 0 k (fun c => z_lim9 (z_trn 0 (I a c).toInt64 (I (3 + r) c).toInt64 (100 - I 40 t).toInt64)))), J, RF w)) (x_limited E (d + 2) (z_ur I b (z_fil (I b) 0 k (fun c => z_lim9 (z_trn 0 (I a c).toInt64 (I (3 + r) c).toInt64 (100 - I 40 t).toInt64)))) J w (((I a k).toInt64) * ((I (3 + r) k).toInt64) / 1000)) ?_
    refine z_evG 1 (y := z_ck (z_isA 161 ((z_ur I b (z_fil (I b) 0 k (fun c => z_lim9 (z_trn 0 (I a c).toInt64 (I (3 + r) c).toInt64 (100 - I 40 t).toInt64)))), J, RF w) b 0 && z_in (nI k) (z_SH b).2) (z_go 48 [some (.ref 37), some (.int (nI t)), some (.ref a), some (.ref b), some (.ref (3 + r)), some (.int (nI k))] [] 161 ((z_u2 (z_ur I b (z_fil (I b) 0 k (fun c => z_lim9 (z_trn 0 (I a c).toInt64 (I (3 + r) c).toInt64 (100 - I 40 t).toInt64)))) b ((nI k).toNatClampNeg) ((if 1000000000 < (((I a k).toInt64) * ((I (3 + r) k).toInt64) / 1000) then 1000000000 else (((I a k).toInt64) * ((I (3 + r) k).toInt64) / 1000)).toInt32)), J, RF w))) (fun _ => rfl) ?_
    refine z_evC (z_stA hb (z_inN (k := k) rfl (by omega) (by decide))) ?_
    refine z_evL ?_
    rw [show ((nI k : Int32)).toNatClampNeg = k from z_natE rfl (by omega)]
    refine z_evG 2 (y := z_go 18 [some (.ref 37), some (.int (nI t)), some (.ref a), some (.ref b), some (.ref (3 + r)), some (.int ((nI k) + 1))] [] 161 ((z_u2 (z_ur I b (z_fil (I b) 0 k (fun c => z_lim9 (z_trn 0 (I a c).toInt64 (I (3 + r) c).toInt64 (100 - I 40 t).toInt64)))) b k ((if 1000000000 < (((I a k).toInt64) * ((I (3 + r) k).toInt64) / 1000) then 1000000000 else (((I a k).toInt64) * ((I (3 + r) k).toInt64) / 1000)).toInt32)), J, RF w)) (fun _ => rfl) ?_
    refine z_evL ?_
    have e := z_fil_s I b 0 k (fun c => z_lim9 (z_trn 0 (I a c).toInt64 (I (3 + r) c).toInt64 (100 - I 40 t).toInt64))
    rw [Nat.zero_add] at e
    rw [nI_1 k]
    rw [← e] at nx
    exact nx trivial
set_option maxRecDepth 20000 in
/-- LampHouse$Things.turn -/
theorem x_turn_1 (E : zE) (d : Nat) (I : Nat → Nat → Int32) (J : Nat → Nat → Int64) (w : Nat) (t a b r : Nat) (ht : t < 20) (hr : I 39 t = nI r) (hr3 : r < 30) (ha : z_A a 8) (hb : z_A b 8) (hb9 : 96 ≤ b) (hab : a ≠ b) (hK : I 38 t = 1) : z_cl E (d + 4) 120 [.ref 37, .int (nI t), .ref a, .ref b] (161, I, J, RF w) = some (none, 161, (z_ur I b (z_fil (I b) 0 8 (fun c => z_lim9 (z_trn 1 (I a c).toInt64 (I (3 + r) c).toInt64 (100 - I 40 t).toInt64)))), J, RF w) := by
  refine z_call (d := d + 3) (M := z_m120) rfl rfl ?_
  refine z_evG 6 (y := z_ild (z_ia E 161 (I, J, RF w) 39) (nI t) fun vv => z_go 10 [some (.ref 37), some (.int (nI t)), some (.ref a), some (.ref b), none, none] [.int vv, .ref 1] 161 (I, J, RF w)) (fun _ => rfl) ?_
  refine z_evBn (N := 20) (f := (I 39)) (k := t) rfl rfl (by omega) ?_
  refine z_evL ?_
  refine z_evG 1 (y := z_ret (z_cl E (d + 3) 11 [.ref 1, .int (I 39 t)] (161, (I, J, RF w))) 13 [some (.ref 37), some (.int (nI t)), some (.ref a), some (.ref b), none, none] []) (fun _ => rfl) ?_
  refine z_evK (v := .ref (3 + r)) (z' := 161) (σ' := (I, J, RF w)) ((congrArg (fun q => z_cl E (d + 3) 11 [.ref 1, .int q] (161, I, J, RF w)) (hr : (I 39 t : Int32) = nI r)).trans (x_rows_getN E (d + 2) I J w r (by omega))) ?_
  refine z_evG 3 (y := z_go 18 [some (.ref 37), some (.int (nI t)), some (.ref a), some (.ref b), some (.ref (3 + r)), some (.int 0)] [] 161 (I, J, RF w)) (fun _ => rfl) ?_
  refine z_evL ?_
  have st0 : ∀ m0, m0 = 0 → ∀ q, z_Ev E (d + 3) z_m120 18 [some (.ref 37), some (.int (nI t)), some (.ref a), some (.ref b), some (.ref (3 + r)), some (.int (nI m0))] [] 161 ((z_ur I b (z_fil (I b) 0 m0 (fun c => z_lim9 (z_trn 1 (I a c).toInt64 (I (3 + r) c).toInt64 (100 - I 40 t).toInt64)))), J, RF w) q → z_Ev E (d + 3) z_m120 18 [some (.ref 37), some (.int (nI t)), some (.ref a), some (.ref b), some (.ref (3 + r)), some (.int 0)] [] 161 (I, J, RF w) q := by intro m0 hm0 q h; rw [hm0, z_fil_0] at h; subst hm0; exact h
  refine st0 0 rfl _ ?_
  refine z_loop (F := fun k => ([some (.ref 37), some (.int (nI t)), some (.ref a), some (.ref b), some (.ref (3 + r)), some (.int (nI k))], ((z_ur I b (z_fil (I b) 0 k (fun c => z_lim9 (z_trn 1 (I a c).toInt64 (I (3 + r) c).toInt64 (100 - I 40 t).toInt64)))), J, RF w))) (P := fun k => True) 8 trivial (fun hP => ?_) (fun k hk hP next => ?_)
  · show z_Ev E (d + 3) z_m120 18 [some (.ref 37), some (.int (nI t)), some (.ref a), some (.ref b), some (.ref (3 + r)), some (.int (nI 8))] [] 161 ((z_ur I b (z_fil (I b) 0 8 (fun c => z_lim9 (z_trn 1 (I a c).toInt64 (I (3 + r) c).toInt64 (100 - I 40 t).toInt64)))), J, RF w) _
    refine z_evG 3 (y := if (nI 8) < 8 then z_go 25 [some (.ref 37), some (.int (nI t)), some (.ref a), some (.ref b), some (.ref (3 + r)), some (.int (nI 8))] [] 161 ((z_ur I b (z_fil (I b) 0 8 (fun c => z_lim9 (z_trn 1 (I a c).toInt64 (I (3 + r) c).toInt64 (100 - I 40 t).toInt64)))), J, RF w) else z_go 54 [some (.ref 37), some (.int (nI t)), some (.ref a), some (.ref b), some (.ref (3 + r)), some (.int (nI 8))] [] 161 ((z_ur I b (z_fil (I b) 0 8 (fun c => z_lim9 (z_trn 1 (I a c).toInt64 (I (3 + r) c).toInt64 (100 - I 40 t).toInt64)))), J, RF w)) (fun _ => rfl) ?_
    refine z_evF (mt (show _ ↔ 8 < 8 from z_ltN rfl rfl (by omega) (by omega)).mp (by omega)) ?_
    refine z_evL ?_
    refine z_evG 4 (y := z_ild (z_ia E 161 ((z_ur I b (z_fil (I b) 0 8 (fun c => z_lim9 (z_trn 1 (I a c).toInt64 (I (3 + r) c).toInt64 (100 - I 40 t).toInt64)))), J, RF w) 38) (nI t) fun vv => z_go 60 [some (.ref 37), some (.int (nI t)), some (.ref a), some (.ref b), some (.ref (3 + r)), some (.int (nI 8))] [.int vv] 161 ((z_ur I b (z_fil (I b) 0 8 (fun c => z_lim9 (z_trn 1 (I a c).toInt64 (I (3 + r) c).toInt64 (100 - I 40 t).toInt64)))), J, RF w)) (fun _ => rfl) ?_
    refine z_evBn (N := 20) (f := ((z_ur I b (z_fil (I b) 0 8 (fun c => z_lim9 (z_trn 1 (I a c).toInt64 (I (3 + r) c).toInt64 (100 - I 40 t).toInt64)))) 38)) (k := t) rfl rfl (by omega) ?_
    refine z_evL ?_
    rw [show (z_ur I b (z_fil (I b) 0 8 (fun c => z_lim9 (z_trn 1 (I a c).toInt64 (I (3 + r) c).toInt64 (100 - I 40 t).toInt64)))) 38 t = I 38 t from (congrFun (z_ur_n _ _ (by omega)) _)]
    rw [show I 38 t = 1 from hK]
    refine z_evG 2 (y := if 1 = 4 then z_go 64 [some (.ref 37), some (.int (nI t)), some (.ref a), some (.ref b), some (.ref (3 + r)), some (.int (nI 8))] [] 161 ((z_ur I b (z_fil (I b) 0 8 (fun c => z_lim9 (z_trn 1 (I a c).toInt64 (I (3 + r) c).toInt64 (100 - I 40 t).toInt64)))), J, RF w) else z_go 94 [some (.ref 37), some (.int (nI t)), some (.ref a), some (.ref b), some (.ref (3 + r)), some (.int (nI 8))] [] 161 ((z_ur I b (z_fil (I b) 0 8 (fun c => z_lim9 (z_trn 1 (I a c).toInt64 (I (3 + r) c).toInt64 (100 - I 40 t).toInt64)))), J, RF w)) (fun _ => rfl) ?_
    refine z_evI (fun q => absurd q (by decide)) (fun _ => ?_)
    refine z_evL ?_
    refine z_evG 1 (y := some (.inr (none, 161, (z_ur I b (z_fil (I b) 0 8 (fun c => z_lim9 (z_trn 1 (I a c).toInt64 (I (3 + r) c).toInt64 (100 - I 40 t).toInt64)))), J, RF w))) (fun _ => rfl) ?_
    exact z_evR rfl
  · show z_Ev E (d + 3) z_m120 18 [some (.ref 37), some (.int (nI t)), some (.ref a), some (.ref b), some (.ref (3 + r)), some (.int (nI k))] [] 161 ((z_ur I b (z_fil (I b) 0 k (fun c => z_lim9 (z_trn 1 (I a c).toInt64 (I (3 + r) c).toInt64 (100 - I 40 t).toInt64)))), J, RF w) _
    have nx : (True) → z_Ev E (d + 3) z_m120 18 [some (.ref 37), some (.int (nI t)), some (.ref a), some (.ref b), some (.ref (3 + r)), some (.int (nI (k + 1)))] [] 161 ((z_ur I b (z_fil (I b) 0 (k + 1) (fun c => z_lim9 (z_trn 1 (I a c).toInt64 (I (3 + r) c).toInt64 (100 - I 40 t).toInt64)))), J, RF w) _ := next
    refine z_evG 3 (y := if (nI k) < 8 then z_go 25 [some (.ref 37), some (.int (nI t)), some (.ref a), some (.ref b), some (.ref (3 + r)), some (.int (nI k))] [] 161 ((z_ur I b (z_fil (I b) 0 k (fun c => z_lim9 (z_trn 1 (I a c).toInt64 (I (3 + r) c).toInt64 (100 - I 40 t).toInt64)))), J, RF w) else z_go 54 [some (.ref 37), some (.int (nI t)), some (.ref a), some (.ref b), some (.ref (3 + r)), some (.int (nI k))] [] 161 ((z_ur I b (z_fil (I b) 0 k (fun c => z_lim9 (z_trn 1 (I a c).toInt64 (I (3 + r) c).toInt64 (100 - I 40 t).toInt64)))), J, RF w)) (fun _ => rfl) ?_
    refine z_evT ((show _ ↔ k < 8 from z_ltN rfl rfl (by omega) (by omega)).mpr (by omega)) ?_
    refine z_evL ?_
    refine z_evG 7 (y := z_ild (z_ia E 161 ((z_ur I b (z_fil (I b) 0 k (fun c => z_lim9 (z_trn 1 (I a c).toInt64 (I (3 + r) c).toInt64 (100 - I 40 t).toInt64)))), J, RF w) a) (nI k) fun vv => z_go 34 [some (.ref 37), some (.int (nI t)), some (.ref a), some (.ref b), some (.ref (3 + r)), some (.int (nI k))] [.int vv, .int (nI t), .ref 37, .int (nI k), .ref b] 161 ((z_ur I b (z_fil (I b) 0 k (fun c => z_lim9 (z_trn 1 (I a c).toInt64 (I (3 + r) c).toInt64 (100 - I 40 t).toInt64)))), J, RF w)) (fun _ => rfl) ?_
    refine z_evBn (N := 8) (f := ((z_ur I b (z_fil (I b) 0 k (fun c => z_lim9 (z_trn 1 (I a c).toInt64 (I (3 + r) c).toInt64 (100 - I 40 t).toInt64)))) a)) (k := k) (z_iaA ha) rfl (by omega) ?_
    refine z_evL ?_
    rw [show (z_ur I b (z_fil (I b) 0 k (fun c => z_lim9 (z_trn 1 (I a c).toInt64 (I (3 + r) c).toInt64 (100 - I 40 t).toInt64)))) a k = I a k from (congrFun (z_ur_n _ _ hab) _)]
    refine z_evG 4 (y := z_ild (z_ia E 161 ((z_ur I b (z_fil (I b) 0 k (fun c => z_lim9 (z_trn 1 (I a c).toInt64 (I (3 + r) c).toInt64 (100 - I 40 t).toInt64)))), J, RF w) (3 + r)) (nI k) fun vv => z_go 40 [some (.ref 37), some (.int (nI t)), some (.ref a), some (.ref b), some (.ref (3 + r)), some (.int (nI k))] [.int vv, .long ((I a k).toInt64), .int (nI t), .ref 37, .int (nI k), .ref b] 161 ((z_ur I b (z_fil (I b) 0 k (fun c => z_lim9 (z_trn 1 (I a c).toInt64 (I (3 + r) c).toInt64 (100 - I 40 t).toInt64)))), J, RF w)) (fun _ => rfl) ?_
    refine z_evBn (N := 8) (f := ((z_ur I b (z_fil (I b) 0 k (fun c => z_lim9 (z_trn 1 (I a c).toInt64 (I (3 + r) c).toInt64 (100 - I 40 t).toInt64)))) (3 + r))) (k := k) (z_iaA (z_A_rows r (by omega))) rfl (by omega) ?_
    refine z_evL ?_
    rw [show (z_ur I b (z_fil (I b) 0 k (fun c => z_lim9 (z_trn 1 (I a c).toInt64 (I (3 + r) c).toInt64 (100 - I 40 t).toInt64)))) (3 + r) k = I (3 + r) k from (congrFun (z_ur_n _ _ (by omega)) _)]
    refine z_evG 2 (y := z_ret (z_cl E (d + 3) 121 [.ref 37, .int (nI t), .long ((I a k).toInt64), .long ((I (3 + r) k).toInt64)] (161, ((z_ur I b (z_fil (I b) 0 k (fun c => z_lim9 (z_trn 1 (I a c).toInt64 (I (3 + r) c).toInt64 (100 - I 40 t).toInt64)))), J, RF w))) 44 [some (.ref 37), some (.int (nI t)), some (.ref a), some (.ref b), some (.ref (3 + r)), some (.int (nI k))] [.int (nI k), .ref b]) (fun _ => rfl) ?_
    refine z_evK (v := .long ((((I a k).toInt64) * ((I (3 + r) k).toInt64) / 1000) + ((I (3 + r) k).toInt64))) (z' := 161) (σ' := ((z_ur I b (z_fil (I b) 0 k (fun c => z_lim9 (z_trn 1 (I a c).toInt64 (I (3 + r) c).toInt64 (100 - I 40 t).toInt64)))), J, RF w)) (x_turned_1 E d (z_ur I b (z_fil (I b) 0 k (fun c => z_lim9 (z_trn 1 (I a c).toInt64 (I (3 + r) c).toInt64 (100 - I 40 t).toInt64)))) J w t ((I a k).toInt64) ((I (3 + r) k).toInt64) (by omega) ((congrFun (z_ur_n _ _ (by omega)) _).trans hK)) ?_
    refine z_evG 1 (y := z_ret (z_cl E (d + 3) 170 [.long ((((I a k).toInt64) * ((I (3 + r) k).toInt64) / 1000) + ((I (3 + r) k).toInt64))] (161, ((z_ur I b (z_fil (I b) 0 k (fun c => z_lim9 (z_trn 1 (I a c).toInt64 (I (3 + r) c).toInt64 (100 - I 40 t).toInt64)))), J, RF w))) 47 [some (.ref 37), some (.int (nI t)), some (.ref a), some (.ref b), some (.ref (3 + r)), some (.int (nI k))] [.int (nI k), .ref b]) (fun _ => rfl) ?_
    refine z_evK (v := .int ((if 1000000000 < ((((I a k).toInt64) * ((I (3 + r) k).toInt64) / 1000) + ((I (3 + r) k).toInt64)) then 1000000000 else ((((I a k).toInt64) * ((I (3 + r) k).toInt64) / 1000) + ((I (3 + r) k).toInt64))).toInt32)) (z' := 161) (σ' := ((z_ur I b (z_fil (I b) 0 k (fun c => z_lim9 (z_trn 1 (I a c).toInt64 (I (3 + r) c).toInt64 (100 - I 40 t).toInt64)))), J, RF w)) (x_limited E (d + 2) (z_ur I b (z_fil (I b) 0 k (fun c => z_lim9 (z_trn 1 (I a c).toInt64 (I (3 + r) c).toInt64 (100 - I 40 t).toInt64)))) J w ((((I a k).toInt64) * ((I (3 + r) k).toInt64) / 1000) + ((I (3 + r) k).toInt64))) ?_
    refine z_evG 1 (y := z_ck (z_isA 161 ((z_ur I b (z_fil (I b) 0 k (fun c => z_lim9 (z_trn 1 (I a c).toInt64 (I (3 + r) c).toInt64 (100 - I 40 t).toInt64)))), J, RF w) b 0 && z_in (nI k) (z_SH b).2) (z_go 48 [some (.ref 37), some (.int (nI t)), some (.ref a), some (.ref b), some (.ref (3 + r)), some (.int (nI k))] [] 161 ((z_u2 (z_ur I b (z_fil (I b) 0 k (fun c => z_lim9 (z_trn 1 (I a c).toInt64 (I (3 + r) c).toInt64 (100 - I 40 t).toInt64)))) b ((nI k).toNatClampNeg) ((if 1000000000 < ((((I a k).toInt64) * ((I (3 + r) k).toInt64) / 1000) + ((I (3 + r) k).toInt64)) then 1000000000 else ((((I a k).toInt64) * ((I (3 + r) k).toInt64) / 1000) + ((I (3 + r) k).toInt64))).toInt32)), J, RF w))) (fun _ => rfl) ?_
    refine z_evC (z_stA hb (z_inN (k := k) rfl (by omega) (by decide))) ?_
    refine z_evL ?_
    rw [show ((nI k : Int32)).toNatClampNeg = k from z_natE rfl (by omega)]
    refine z_evG 2 (y := z_go 18 [some (.ref 37), some (.int (nI t)), some (.ref a), some (.ref b), some (.ref (3 + r)), some (.int ((nI k) + 1))] [] 161 ((z_u2 (z_ur I b (z_fil (I b) 0 k (fun c => z_lim9 (z_trn 1 (I a c).toInt64 (I (3 + r) c).toInt64 (100 - I 40 t).toInt64)))) b k ((if 1000000000 < ((((I a k).toInt64) * ((I (3 + r) k).toInt64) / 1000) + ((I (3 + r) k).toInt64)) then 1000000000 else ((((I a k).toInt64) * ((I (3 + r) k).toInt64) / 1000) + ((I (3 + r) k).toInt64))).toInt32)), J, RF w)) (fun _ => rfl) ?_
    refine z_evL ?_
    have e := z_fil_s I b 0 k (fun c => z_lim9 (z_trn 1 (I a c).toInt64 (I (3 + r) c).toInt64 (100 - I 40 t).toInt64))
    rw [Nat.zero_add] at e
    rw [nI_1 k]
    rw [← e] at nx
    exact nx trivial
set_option maxRecDepth 20000 in
/-- LampHouse$Things.turn -/
theorem x_turn_2 (E : zE) (d : Nat) (I : Nat → Nat → Int32) (J : Nat → Nat → Int64) (w : Nat) (t a b r : Nat) (ht : t < 20) (hr : I 39 t = nI r) (hr3 : r < 30) (ha : z_A a 8) (hb : z_A b 8) (hb9 : 96 ≤ b) (hab : a ≠ b) (hK : I 38 t = 2) : z_cl E (d + 4) 120 [.ref 37, .int (nI t), .ref a, .ref b] (161, I, J, RF w) = some (none, 161, (z_ur I b (z_fil (I b) 0 8 (fun c => z_lim9 (z_trn 2 (I a c).toInt64 (I (3 + r) c).toInt64 (100 - I 40 t).toInt64)))), J, RF w) := by
  refine z_call (d := d + 3) (M := z_m120) rfl rfl ?_
  refine z_evG 6 (y := z_ild (z_ia E 161 (I, J, RF w) 39) (nI t) fun vv => z_go 10 [some (.ref 37), some (.int (nI t)), some (.ref a), some (.ref b), none, none] [.int vv, .ref 1] 161 (I, J, RF w)) (fun _ => rfl) ?_
  refine z_evBn (N := 20) (f := (I 39)) (k := t) rfl rfl (by omega) ?_
  refine z_evL ?_
  refine z_evG 1 (y := z_ret (z_cl E (d + 3) 11 [.ref 1, .int (I 39 t)] (161, (I, J, RF w))) 13 [some (.ref 37), some (.int (nI t)), some (.ref a), some (.ref b), none, none] []) (fun _ => rfl) ?_
  refine z_evK (v := .ref (3 + r)) (z' := 161) (σ' := (I, J, RF w)) ((congrArg (fun q => z_cl E (d + 3) 11 [.ref 1, .int q] (161, I, J, RF w)) (hr : (I 39 t : Int32) = nI r)).trans (x_rows_getN E (d + 2) I J w r (by omega))) ?_
  refine z_evG 3 (y := z_go 18 [some (.ref 37), some (.int (nI t)), some (.ref a), some (.ref b), some (.ref (3 + r)), some (.int 0)] [] 161 (I, J, RF w)) (fun _ => rfl) ?_
  refine z_evL ?_
  have st0 : ∀ m0, m0 = 0 → ∀ q, z_Ev E (d + 3) z_m120 18 [some (.ref 37), some (.int (nI t)), some (.ref a), some (.ref b), some (.ref (3 + r)), some (.int (nI m0))] [] 161 ((z_ur I b (z_fil (I b) 0 m0 (fun c => z_lim9 (z_trn 2 (I a c).toInt64 (I (3 + r) c).toInt64 (100 - I 40 t).toInt64)))), J, RF w) q → z_Ev E (d + 3) z_m120 18 [some (.ref 37), some (.int (nI t)), some (.ref a), some (.ref b), some (.ref (3 + r)), some (.int 0)] [] 161 (I, J, RF w) q := by intro m0 hm0 q h; rw [hm0, z_fil_0] at h; subst hm0; exact h
  refine st0 0 rfl _ ?_
  refine z_loop (F := fun k => ([some (.ref 37), some (.int (nI t)), some (.ref a), some (.ref b), some (.ref (3 + r)), some (.int (nI k))], ((z_ur I b (z_fil (I b) 0 k (fun c => z_lim9 (z_trn 2 (I a c).toInt64 (I (3 + r) c).toInt64 (100 - I 40 t).toInt64)))), J, RF w))) (P := fun k => True) 8 trivial (fun hP => ?_) (fun k hk hP next => ?_)
  · show z_Ev E (d + 3) z_m120 18 [some (.ref 37), some (.int (nI t)), some (.ref a), some (.ref b), some (.ref (3 + r)), some (.int (nI 8))] [] 161 ((z_ur I b (z_fil (I b) 0 8 (fun c => z_lim9 (z_trn 2 (I a c).toInt64 (I (3 + r) c).toInt64 (100 - I 40 t).toInt64)))), J, RF w) _
    refine z_evG 3 (y := if (nI 8) < 8 then z_go 25 [some (.ref 37), some (.int (nI t)), some (.ref a), some (.ref b), some (.ref (3 + r)), some (.int (nI 8))] [] 161 ((z_ur I b (z_fil (I b) 0 8 (fun c => z_lim9 (z_trn 2 (I a c).toInt64 (I (3 + r) c).toInt64 (100 - I 40 t).toInt64)))), J, RF w) else z_go 54 [some (.ref 37), some (.int (nI t)), some (.ref a), some (.ref b), some (.ref (3 + r)), some (.int (nI 8))] [] 161 ((z_ur I b (z_fil (I b) 0 8 (fun c => z_lim9 (z_trn 2 (I a c).toInt64 (I (3 + r) c).toInt64 (100 - I 40 t).toInt64)))), J, RF w)) (fun _ => rfl) ?_
    refine z_evF (mt (show _ ↔ 8 < 8 from z_ltN rfl rfl (by omega) (by omega)).mp (by omega)) ?_
    refine z_evL ?_
    refine z_evG 4 (y := z_ild (z_ia E 161 ((z_ur I b (z_fil (I b) 0 8 (fun c => z_lim9 (z_trn 2 (I a c).toInt64 (I (3 + r) c).toInt64 (100 - I 40 t).toInt64)))), J, RF w) 38) (nI t) fun vv => z_go 60 [some (.ref 37), some (.int (nI t)), some (.ref a), some (.ref b), some (.ref (3 + r)), some (.int (nI 8))] [.int vv] 161 ((z_ur I b (z_fil (I b) 0 8 (fun c => z_lim9 (z_trn 2 (I a c).toInt64 (I (3 + r) c).toInt64 (100 - I 40 t).toInt64)))), J, RF w)) (fun _ => rfl) ?_
    refine z_evBn (N := 20) (f := ((z_ur I b (z_fil (I b) 0 8 (fun c => z_lim9 (z_trn 2 (I a c).toInt64 (I (3 + r) c).toInt64 (100 - I 40 t).toInt64)))) 38)) (k := t) rfl rfl (by omega) ?_
    refine z_evL ?_
    rw [show (z_ur I b (z_fil (I b) 0 8 (fun c => z_lim9 (z_trn 2 (I a c).toInt64 (I (3 + r) c).toInt64 (100 - I 40 t).toInt64)))) 38 t = I 38 t from (congrFun (z_ur_n _ _ (by omega)) _)]
    rw [show I 38 t = 2 from hK]
    refine z_evG 2 (y := if 2 = 4 then z_go 64 [some (.ref 37), some (.int (nI t)), some (.ref a), some (.ref b), some (.ref (3 + r)), some (.int (nI 8))] [] 161 ((z_ur I b (z_fil (I b) 0 8 (fun c => z_lim9 (z_trn 2 (I a c).toInt64 (I (3 + r) c).toInt64 (100 - I 40 t).toInt64)))), J, RF w) else z_go 94 [some (.ref 37), some (.int (nI t)), some (.ref a), some (.ref b), some (.ref (3 + r)), some (.int (nI 8))] [] 161 ((z_ur I b (z_fil (I b) 0 8 (fun c => z_lim9 (z_trn 2 (I a c).toInt64 (I (3 + r) c).toInt64 (100 - I 40 t).toInt64)))), J, RF w)) (fun _ => rfl) ?_
    refine z_evI (fun q => absurd q (by decide)) (fun _ => ?_)
    refine z_evL ?_
    refine z_evG 1 (y := some (.inr (none, 161, (z_ur I b (z_fil (I b) 0 8 (fun c => z_lim9 (z_trn 2 (I a c).toInt64 (I (3 + r) c).toInt64 (100 - I 40 t).toInt64)))), J, RF w))) (fun _ => rfl) ?_
    exact z_evR rfl
  · show z_Ev E (d + 3) z_m120 18 [some (.ref 37), some (.int (nI t)), some (.ref a), some (.ref b), some (.ref (3 + r)), some (.int (nI k))] [] 161 ((z_ur I b (z_fil (I b) 0 k (fun c => z_lim9 (z_trn 2 (I a c).toInt64 (I (3 + r) c).toInt64 (100 - I 40 t).toInt64)))), J, RF w) _
    have nx : (True) → z_Ev E (d + 3) z_m120 18 [some (.ref 37), some (.int (nI t)), some (.ref a), some (.ref b), some (.ref (3 + r)), some (.int (nI (k + 1)))] [] 161 ((z_ur I b (z_fil (I b) 0 (k + 1) (fun c => z_lim9 (z_trn 2 (I a c).toInt64 (I (3 + r) c).toInt64 (100 - I 40 t).toInt64)))), J, RF w) _ := next
    refine z_evG 3 (y := if (nI k) < 8 then z_go 25 [some (.ref 37), some (.int (nI t)), some (.ref a), some (.ref b), some (.ref (3 + r)), some (.int (nI k))] [] 161 ((z_ur I b (z_fil (I b) 0 k (fun c => z_lim9 (z_trn 2 (I a c).toInt64 (I (3 + r) c).toInt64 (100 - I 40 t).toInt64)))), J, RF w) else z_go 54 [some (.ref 37), some (.int (nI t)), some (.ref a), some (.ref b), some (.ref (3 + r)), some (.int (nI k))] [] 161 ((z_ur I b (z_fil (I b) 0 k (fun c => z_lim9 (z_trn 2 (I a c).toInt64 (I (3 + r) c).toInt64 (100 - I 40 t).toInt64)))), J, RF w)) (fun _ => rfl) ?_
    refine z_evT ((show _ ↔ k < 8 from z_ltN rfl rfl (by omega) (by omega)).mpr (by omega)) ?_
    refine z_evL ?_
    refine z_evG 7 (y := z_ild (z_ia E 161 ((z_ur I b (z_fil (I b) 0 k (fun c => z_lim9 (z_trn 2 (I a c).toInt64 (I (3 + r) c).toInt64 (100 - I 40 t).toInt64)))), J, RF w) a) (nI k) fun vv => z_go 34 [some (.ref 37), some (.int (nI t)), some (.ref a), some (.ref b), some (.ref (3 + r)), some (.int (nI k))] [.int vv, .int (nI t), .ref 37, .int (nI k), .ref b] 161 ((z_ur I b (z_fil (I b) 0 k (fun c => z_lim9 (z_trn 2 (I a c).toInt64 (I (3 + r) c).toInt64 (100 - I 40 t).toInt64)))), J, RF w)) (fun _ => rfl) ?_
    refine z_evBn (N := 8) (f := ((z_ur I b (z_fil (I b) 0 k (fun c => z_lim9 (z_trn 2 (I a c).toInt64 (I (3 + r) c).toInt64 (100 - I 40 t).toInt64)))) a)) (k := k) (z_iaA ha) rfl (by omega) ?_
    refine z_evL ?_
    rw [show (z_ur I b (z_fil (I b) 0 k (fun c => z_lim9 (z_trn 2 (I a c).toInt64 (I (3 + r) c).toInt64 (100 - I 40 t).toInt64)))) a k = I a k from (congrFun (z_ur_n _ _ hab) _)]
    refine z_evG 4 (y := z_ild (z_ia E 161 ((z_ur I b (z_fil (I b) 0 k (fun c => z_lim9 (z_trn 2 (I a c).toInt64 (I (3 + r) c).toInt64 (100 - I 40 t).toInt64)))), J, RF w) (3 + r)) (nI k) fun vv => z_go 40 [some (.ref 37), some (.int (nI t)), some (.ref a), some (.ref b), some (.ref (3 + r)), some (.int (nI k))] [.int vv, .long ((I a k).toInt64), .int (nI t), .ref 37, .int (nI k), .ref b] 161 ((z_ur I b (z_fil (I b) 0 k (fun c => z_lim9 (z_trn 2 (I a c).toInt64 (I (3 + r) c).toInt64 (100 - I 40 t).toInt64)))), J, RF w)) (fun _ => rfl) ?_
    refine z_evBn (N := 8) (f := ((z_ur I b (z_fil (I b) 0 k (fun c => z_lim9 (z_trn 2 (I a c).toInt64 (I (3 + r) c).toInt64 (100 - I 40 t).toInt64)))) (3 + r))) (k := k) (z_iaA (z_A_rows r (by omega))) rfl (by omega) ?_
    refine z_evL ?_
    rw [show (z_ur I b (z_fil (I b) 0 k (fun c => z_lim9 (z_trn 2 (I a c).toInt64 (I (3 + r) c).toInt64 (100 - I 40 t).toInt64)))) (3 + r) k = I (3 + r) k from (congrFun (z_ur_n _ _ (by omega)) _)]
    refine z_evG 2 (y := z_ret (z_cl E (d + 3) 121 [.ref 37, .int (nI t), .long ((I a k).toInt64), .long ((I (3 + r) k).toInt64)] (161, ((z_ur I b (z_fil (I b) 0 k (fun c => z_lim9 (z_trn 2 (I a c).toInt64 (I (3 + r) c).toInt64 (100 - I 40 t).toInt64)))), J, RF w))) 44 [some (.ref 37), some (.int (nI t)), some (.ref a), some (.ref b), some (.ref (3 + r)), some (.int (nI k))] [.int (nI k), .ref b]) (fun _ => rfl) ?_
    refine z_evK (v := .long (((I a k).toInt64) * (500 + ((I (3 + r) k).toInt64) / 2) / 1000)) (z' := 161) (σ' := ((z_ur I b (z_fil (I b) 0 k (fun c => z_lim9 (z_trn 2 (I a c).toInt64 (I (3 + r) c).toInt64 (100 - I 40 t).toInt64)))), J, RF w)) (x_turned_2 E d (z_ur I b (z_fil (I b) 0 k (fun c => z_lim9 (z_trn 2 (I a c).toInt64 (I (3 + r) c).toInt64 (100 - I 40 t).toInt64)))) J w t ((I a k).toInt64) ((I (3 + r) k).toInt64) (by omega) ((congrFun (z_ur_n _ _ (by omega)) _).trans hK)) ?_
    refine z_evG 1 (y := z_ret (z_cl E (d + 3) 170 [.long (((I a k).toInt64) * (500 + ((I (3 + r) k).toInt64) / 2) / 1000)] (161, ((z_ur I b (z_fil (I b) 0 k (fun c => z_lim9 (z_trn 2 (I a c).toInt64 (I (3 + r) c).toInt64 (100 - I 40 t).toInt64)))), J, RF w))) 47 [some (.ref 37), some (.int (nI t)), some (.ref a), some (.ref b), some (.ref (3 + r)), some (.int (nI k))] [.int (nI k), .ref b]) (fun _ => rfl) ?_
    refine z_evK (v := .int ((if 1000000000 < (((I a k).toInt64) * (500 + ((I (3 + r) k).toInt64) / 2) / 1000) then 1000000000 else (((I a k).toInt64) * (500 + ((I (3 + r) k).toInt64) / 2) / 1000)).toInt32)) (z' := 161) (σ' := ((z_ur I b (z_fil (I b) 0 k (fun c => z_lim9 (z_trn 2 (I a c).toInt64 (I (3 + r) c).toInt64 (100 - I 40 t).toInt64)))), J, RF w)) (x_limited E (d + 2) (z_ur I b (z_fil (I b) 0 k (fun c => z_lim9 (z_trn 2 (I a c).toInt64 (I (3 + r) c).toInt64 (100 - I 40 t).toInt64)))) J w (((I a k).toInt64) * (500 + ((I (3 + r) k).toInt64) / 2) / 1000)) ?_
    refine z_evG 1 (y := z_ck (z_isA 161 ((z_ur I b (z_fil (I b) 0 k (fun c => z_lim9 (z_trn 2 (I a c).toInt64 (I (3 + r) c).toInt64 (100 - I 40 t).toInt64)))), J, RF w) b 0 && z_in (nI k) (z_SH b).2) (z_go 48 [some (.ref 37), some (.int (nI t)), some (.ref a), some (.ref b), some (.ref (3 + r)), some (.int (nI k))] [] 161 ((z_u2 (z_ur I b (z_fil (I b) 0 k (fun c => z_lim9 (z_trn 2 (I a c).toInt64 (I (3 + r) c).toInt64 (100 - I 40 t).toInt64)))) b ((nI k).toNatClampNeg) ((if 1000000000 < (((I a k).toInt64) * (500 + ((I (3 + r) k).toInt64) / 2) / 1000) then 1000000000 else (((I a k).toInt64) * (500 + ((I (3 + r) k).toInt64) / 2) / 1000)).toInt32)), J, RF w))) (fun _ => rfl) ?_
    refine z_evC (z_stA hb (z_inN (k := k) rfl (by omega) (by decide))) ?_
    refine z_evL ?_
    rw [show ((nI k : Int32)).toNatClampNeg = k from z_natE rfl (by omega)]
    refine z_evG 2 (y := z_go 18 [some (.ref 37), some (.int (nI t)), some (.ref a), some (.ref b), some (.ref (3 + r)), some (.int ((nI k) + 1))] [] 161 ((z_u2 (z_ur I b (z_fil (I b) 0 k (fun c => z_lim9 (z_trn 2 (I a c).toInt64 (I (3 + r) c).toInt64 (100 - I 40 t).toInt64)))) b k ((if 1000000000 < (((I a k).toInt64) * (500 + ((I (3 + r) k).toInt64) / 2) / 1000) then 1000000000 else (((I a k).toInt64) * (500 + ((I (3 + r) k).toInt64) / 2) / 1000)).toInt32)), J, RF w)) (fun _ => rfl) ?_
    refine z_evL ?_
    have e := z_fil_s I b 0 k (fun c => z_lim9 (z_trn 2 (I a c).toInt64 (I (3 + r) c).toInt64 (100 - I 40 t).toInt64))
    rw [Nat.zero_add] at e
    rw [nI_1 k]
    rw [← e] at nx
    exact nx trivial
set_option maxRecDepth 20000 in
/-- LampHouse$Things.turn -/
theorem x_turn_3 (E : zE) (d : Nat) (I : Nat → Nat → Int32) (J : Nat → Nat → Int64) (w : Nat) (t a b r : Nat) (ht : t < 20) (hr : I 39 t = nI r) (hr3 : r < 30) (ha : z_A a 8) (hb : z_A b 8) (hb9 : 96 ≤ b) (hab : a ≠ b) (hK : I 38 t = 3) : z_cl E (d + 4) 120 [.ref 37, .int (nI t), .ref a, .ref b] (161, I, J, RF w) = some (none, 161, (z_ur I b (z_fil (I b) 0 8 (fun c => z_lim9 (z_trn 3 (I a c).toInt64 (I (3 + r) c).toInt64 (100 - I 40 t).toInt64)))), J, RF w) := by
  refine z_call (d := d + 3) (M := z_m120) rfl rfl ?_
  refine z_evG 6 (y := z_ild (z_ia E 161 (I, J, RF w) 39) (nI t) fun vv => z_go 10 [some (.ref 37), some (.int (nI t)), some (.ref a), some (.ref b), none, none] [.int vv, .ref 1] 161 (I, J, RF w)) (fun _ => rfl) ?_
  refine z_evBn (N := 20) (f := (I 39)) (k := t) rfl rfl (by omega) ?_
  refine z_evL ?_
  refine z_evG 1 (y := z_ret (z_cl E (d + 3) 11 [.ref 1, .int (I 39 t)] (161, (I, J, RF w))) 13 [some (.ref 37), some (.int (nI t)), some (.ref a), some (.ref b), none, none] []) (fun _ => rfl) ?_
  refine z_evK (v := .ref (3 + r)) (z' := 161) (σ' := (I, J, RF w)) ((congrArg (fun q => z_cl E (d + 3) 11 [.ref 1, .int q] (161, I, J, RF w)) (hr : (I 39 t : Int32) = nI r)).trans (x_rows_getN E (d + 2) I J w r (by omega))) ?_
  refine z_evG 3 (y := z_go 18 [some (.ref 37), some (.int (nI t)), some (.ref a), some (.ref b), some (.ref (3 + r)), some (.int 0)] [] 161 (I, J, RF w)) (fun _ => rfl) ?_
  refine z_evL ?_
  have st0 : ∀ m0, m0 = 0 → ∀ q, z_Ev E (d + 3) z_m120 18 [some (.ref 37), some (.int (nI t)), some (.ref a), some (.ref b), some (.ref (3 + r)), some (.int (nI m0))] [] 161 ((z_ur I b (z_fil (I b) 0 m0 (fun c => z_lim9 (z_trn 3 (I a c).toInt64 (I (3 + r) c).toInt64 (100 - I 40 t).toInt64)))), J, RF w) q → z_Ev E (d + 3) z_m120 18 [some (.ref 37), some (.int (nI t)), some (.ref a), some (.ref b), some (.ref (3 + r)), some (.int 0)] [] 161 (I, J, RF w) q := by intro m0 hm0 q h; rw [hm0, z_fil_0] at h; subst hm0; exact h
  refine st0 0 rfl _ ?_
  refine z_loop (F := fun k => ([some (.ref 37), some (.int (nI t)), some (.ref a), some (.ref b), some (.ref (3 + r)), some (.int (nI k))], ((z_ur I b (z_fil (I b) 0 k (fun c => z_lim9 (z_trn 3 (I a c).toInt64 (I (3 + r) c).toInt64 (100 - I 40 t).toInt64)))), J, RF w))) (P := fun k => True) 8 trivial (fun hP => ?_) (fun k hk hP next => ?_)
  · show z_Ev E (d + 3) z_m120 18 [some (.ref 37), some (.int (nI t)), some (.ref a), some (.ref b), some (.ref (3 + r)), some (.int (nI 8))] [] 161 ((z_ur I b (z_fil (I b) 0 8 (fun c => z_lim9 (z_trn 3 (I a c).toInt64 (I (3 + r) c).toInt64 (100 - I 40 t).toInt64)))), J, RF w) _
    refine z_evG 3 (y := if (nI 8) < 8 then z_go 25 [some (.ref 37), some (.int (nI t)), some (.ref a), some (.ref b), some (.ref (3 + r)), some (.int (nI 8))] [] 161 ((z_ur I b (z_fil (I b) 0 8 (fun c => z_lim9 (z_trn 3 (I a c).toInt64 (I (3 + r) c).toInt64 (100 - I 40 t).toInt64)))), J, RF w) else z_go 54 [some (.ref 37), some (.int (nI t)), some (.ref a), some (.ref b), some (.ref (3 + r)), some (.int (nI 8))] [] 161 ((z_ur I b (z_fil (I b) 0 8 (fun c => z_lim9 (z_trn 3 (I a c).toInt64 (I (3 + r) c).toInt64 (100 - I 40 t).toInt64)))), J, RF w)) (fun _ => rfl) ?_
    refine z_evF (mt (show _ ↔ 8 < 8 from z_ltN rfl rfl (by omega) (by omega)).mp (by omega)) ?_
    refine z_evL ?_
    refine z_evG 4 (y := z_ild (z_ia E 161 ((z_ur I b (z_fil (I b) 0 8 (fun c => z_lim9 (z_trn 3 (I a c).toInt64 (I (3 + r) c).toInt64 (100 - I 40 t).toInt64)))), J, RF w) 38) (nI t) fun vv => z_go 60 [some (.ref 37), some (.int (nI t)), some (.ref a), some (.ref b), some (.ref (3 + r)), some (.int (nI 8))] [.int vv] 161 ((z_ur I b (z_fil (I b) 0 8 (fun c => z_lim9 (z_trn 3 (I a c).toInt64 (I (3 + r) c).toInt64 (100 - I 40 t).toInt64)))), J, RF w)) (fun _ => rfl) ?_
    refine z_evBn (N := 20) (f := ((z_ur I b (z_fil (I b) 0 8 (fun c => z_lim9 (z_trn 3 (I a c).toInt64 (I (3 + r) c).toInt64 (100 - I 40 t).toInt64)))) 38)) (k := t) rfl rfl (by omega) ?_
    refine z_evL ?_
    rw [show (z_ur I b (z_fil (I b) 0 8 (fun c => z_lim9 (z_trn 3 (I a c).toInt64 (I (3 + r) c).toInt64 (100 - I 40 t).toInt64)))) 38 t = I 38 t from (congrFun (z_ur_n _ _ (by omega)) _)]
    rw [show I 38 t = 3 from hK]
    refine z_evG 2 (y := if 3 = 4 then z_go 64 [some (.ref 37), some (.int (nI t)), some (.ref a), some (.ref b), some (.ref (3 + r)), some (.int (nI 8))] [] 161 ((z_ur I b (z_fil (I b) 0 8 (fun c => z_lim9 (z_trn 3 (I a c).toInt64 (I (3 + r) c).toInt64 (100 - I 40 t).toInt64)))), J, RF w) else z_go 94 [some (.ref 37), some (.int (nI t)), some (.ref a), some (.ref b), some (.ref (3 + r)), some (.int (nI 8))] [] 161 ((z_ur I b (z_fil (I b) 0 8 (fun c => z_lim9 (z_trn 3 (I a c).toInt64 (I (3 + r) c).toInt64 (100 - I 40 t).toInt64)))), J, RF w)) (fun _ => rfl) ?_
    refine z_evI (fun q => absurd q (by decide)) (fun _ => ?_)
    refine z_evL ?_
    refine z_evG 1 (y := some (.inr (none, 161, (z_ur I b (z_fil (I b) 0 8 (fun c => z_lim9 (z_trn 3 (I a c).toInt64 (I (3 + r) c).toInt64 (100 - I 40 t).toInt64)))), J, RF w))) (fun _ => rfl) ?_
    exact z_evR rfl
  · show z_Ev E (d + 3) z_m120 18 [some (.ref 37), some (.int (nI t)), some (.ref a), some (.ref b), some (.ref (3 + r)), some (.int (nI k))] [] 161 ((z_ur I b (z_fil (I b) 0 k (fun c => z_lim9 (z_trn 3 (I a c).toInt64 (I (3 + r) c).toInt64 (100 - I 40 t).toInt64)))), J, RF w) _
    have nx : (True) → z_Ev E (d + 3) z_m120 18 [some (.ref 37), some (.int (nI t)), some (.ref a), some (.ref b), some (.ref (3 + r)), some (.int (nI (k + 1)))] [] 161 ((z_ur I b (z_fil (I b) 0 (k + 1) (fun c => z_lim9 (z_trn 3 (I a c).toInt64 (I (3 + r) c).toInt64 (100 - I 40 t).toInt64)))), J, RF w) _ := next
    refine z_evG 3 (y := if (nI k) < 8 then z_go 25 [some (.ref 37), some (.int (nI t)), some (.ref a), some (.ref b), some (.ref (3 + r)), some (.int (nI k))] [] 161 ((z_ur I b (z_fil (I b) 0 k (fun c => z_lim9 (z_trn 3 (I a c).toInt64 (I (3 + r) c).toInt64 (100 - I 40 t).toInt64)))), J, RF w) else z_go 54 [some (.ref 37), some (.int (nI t)), some (.ref a), some (.ref b), some (.ref (3 + r)), some (.int (nI k))] [] 161 ((z_ur I b (z_fil (I b) 0 k (fun c => z_lim9 (z_trn 3 (I a c).toInt64 (I (3 + r) c).toInt64 (100 - I 40 t).toInt64)))), J, RF w)) (fun _ => rfl) ?_
    refine z_evT ((show _ ↔ k < 8 from z_ltN rfl rfl (by omega) (by omega)).mpr (by omega)) ?_
    refine z_evL ?_
    refine z_evG 7 (y := z_ild (z_ia E 161 ((z_ur I b (z_fil (I b) 0 k (fun c => z_lim9 (z_trn 3 (I a c).toInt64 (I (3 + r) c).toInt64 (100 - I 40 t).toInt64)))), J, RF w) a) (nI k) fun vv => z_go 34 [some (.ref 37), some (.int (nI t)), some (.ref a), some (.ref b), some (.ref (3 + r)), some (.int (nI k))] [.int vv, .int (nI t), .ref 37, .int (nI k), .ref b] 161 ((z_ur I b (z_fil (I b) 0 k (fun c => z_lim9 (z_trn 3 (I a c).toInt64 (I (3 + r) c).toInt64 (100 - I 40 t).toInt64)))), J, RF w)) (fun _ => rfl) ?_
    refine z_evBn (N := 8) (f := ((z_ur I b (z_fil (I b) 0 k (fun c => z_lim9 (z_trn 3 (I a c).toInt64 (I (3 + r) c).toInt64 (100 - I 40 t).toInt64)))) a)) (k := k) (z_iaA ha) rfl (by omega) ?_
    refine z_evL ?_
    rw [show (z_ur I b (z_fil (I b) 0 k (fun c => z_lim9 (z_trn 3 (I a c).toInt64 (I (3 + r) c).toInt64 (100 - I 40 t).toInt64)))) a k = I a k from (congrFun (z_ur_n _ _ hab) _)]
    refine z_evG 4 (y := z_ild (z_ia E 161 ((z_ur I b (z_fil (I b) 0 k (fun c => z_lim9 (z_trn 3 (I a c).toInt64 (I (3 + r) c).toInt64 (100 - I 40 t).toInt64)))), J, RF w) (3 + r)) (nI k) fun vv => z_go 40 [some (.ref 37), some (.int (nI t)), some (.ref a), some (.ref b), some (.ref (3 + r)), some (.int (nI k))] [.int vv, .long ((I a k).toInt64), .int (nI t), .ref 37, .int (nI k), .ref b] 161 ((z_ur I b (z_fil (I b) 0 k (fun c => z_lim9 (z_trn 3 (I a c).toInt64 (I (3 + r) c).toInt64 (100 - I 40 t).toInt64)))), J, RF w)) (fun _ => rfl) ?_
    refine z_evBn (N := 8) (f := ((z_ur I b (z_fil (I b) 0 k (fun c => z_lim9 (z_trn 3 (I a c).toInt64 (I (3 + r) c).toInt64 (100 - I 40 t).toInt64)))) (3 + r))) (k := k) (z_iaA (z_A_rows r (by omega))) rfl (by omega) ?_
    refine z_evL ?_
    rw [show (z_ur I b (z_fil (I b) 0 k (fun c => z_lim9 (z_trn 3 (I a c).toInt64 (I (3 + r) c).toInt64 (100 - I 40 t).toInt64)))) (3 + r) k = I (3 + r) k from (congrFun (z_ur_n _ _ (by omega)) _)]
    refine z_evG 2 (y := z_ret (z_cl E (d + 3) 121 [.ref 37, .int (nI t), .long ((I a k).toInt64), .long ((I (3 + r) k).toInt64)] (161, ((z_ur I b (z_fil (I b) 0 k (fun c => z_lim9 (z_trn 3 (I a c).toInt64 (I (3 + r) c).toInt64 (100 - I 40 t).toInt64)))), J, RF w))) 44 [some (.ref 37), some (.int (nI t)), some (.ref a), some (.ref b), some (.ref (3 + r)), some (.int (nI k))] [.int (nI k), .ref b]) (fun _ => rfl) ?_
    refine z_evK (v := .long ((((I a k).toInt64) * ((I (3 + r) k).toInt64) / 1000 + ((I (3 + r) k).toInt64)) * ((100 - I 40 t).toInt64) / 100)) (z' := 161) (σ' := ((z_ur I b (z_fil (I b) 0 k (fun c => z_lim9 (z_trn 3 (I a c).toInt64 (I (3 + r) c).toInt64 (100 - I 40 t).toInt64)))), J, RF w)) (x_turned_3 E d (z_ur I b (z_fil (I b) 0 k (fun c => z_lim9 (z_trn 3 (I a c).toInt64 (I (3 + r) c).toInt64 (100 - I 40 t).toInt64)))) J w t ((I a k).toInt64) ((I (3 + r) k).toInt64) ((100 - I 40 t).toInt64) (by omega) ((congrFun (z_ur_n _ _ (by omega)) _).trans hK) (by rw [z_ur_n _ _ (show (40 : Nat) ≠ b by omega)])) ?_
    refine z_evG 1 (y := z_ret (z_cl E (d + 3) 170 [.long ((((I a k).toInt64) * ((I (3 + r) k).toInt64) / 1000 + ((I (3 + r) k).toInt64)) * ((100 - I 40 t).toInt64) / 100)] (161, ((z_ur I b (z_fil (I b) 0 k (fun c => z_lim9 (z_trn 3 (I a c).toInt64 (I (3 + r) c).toInt64 (100 - I 40 t).toInt64)))), J, RF w))) 47 [some (.ref 37), some (.int (nI t)), some (.ref a), some (.ref b), some (.ref (3 + r)), some (.int (nI k))] [.int (nI k), .ref b]) (fun _ => rfl) ?_
    refine z_evK (v := .int ((if 1000000000 < ((((I a k).toInt64) * ((I (3 + r) k).toInt64) / 1000 + ((I (3 + r) k).toInt64)) * ((100 - I 40 t).toInt64) / 100) then 1000000000 else ((((I a k).toInt64) * ((I (3 + r) k).toInt64) / 1000 + ((I (3 + r) k).toInt64)) * ((100 - I 40 t).toInt64) / 100)).toInt32)) (z' := 161) (σ' := ((z_ur I b (z_fil (I b) 0 k (fun c => z_lim9 (z_trn 3 (I a c).toInt64 (I (3 + r) c).toInt64 (100 - I 40 t).toInt64)))), J, RF w)) (x_limited E (d + 2) (z_ur I b (z_fil (I b) 0 k (fun c => z_lim9 (z_trn 3 (I a c).toInt64 (I (3 + r) c).toInt64 (100 - I 40 t).toInt64)))) J w ((((I a k).toInt64) * ((I (3 + r) k).toInt64) / 1000 + ((I (3 + r) k).toInt64)) * ((100 - I 40 t).toInt64) / 100)) ?_
    refine z_evG 1 (y := z_ck (z_isA 161 ((z_ur I b (z_fil (I b) 0 k (fun c => z_lim9 (z_trn 3 (I a c).toInt64 (I (3 + r) c).toInt64 (100 - I 40 t).toInt64)))), J, RF w) b 0 && z_in (nI k) (z_SH b).2) (z_go 48 [some (.ref 37), some (.int (nI t)), some (.ref a), some (.ref b), some (.ref (3 + r)), some (.int (nI k))] [] 161 ((z_u2 (z_ur I b (z_fil (I b) 0 k (fun c => z_lim9 (z_trn 3 (I a c).toInt64 (I (3 + r) c).toInt64 (100 - I 40 t).toInt64)))) b ((nI k).toNatClampNeg) ((if 1000000000 < ((((I a k).toInt64) * ((I (3 + r) k).toInt64) / 1000 + ((I (3 + r) k).toInt64)) * ((100 - I 40 t).toInt64) / 100) then 1000000000 else ((((I a k).toInt64) * ((I (3 + r) k).toInt64) / 1000 + ((I (3 + r) k).toInt64)) * ((100 - I 40 t).toInt64) / 100)).toInt32)), J, RF w))) (fun _ => rfl) ?_
    refine z_evC (z_stA hb (z_inN (k := k) rfl (by omega) (by decide))) ?_
    refine z_evL ?_
    rw [show ((nI k : Int32)).toNatClampNeg = k from z_natE rfl (by omega)]
    refine z_evG 2 (y := z_go 18 [some (.ref 37), some (.int (nI t)), some (.ref a), some (.ref b), some (.ref (3 + r)), some (.int ((nI k) + 1))] [] 161 ((z_u2 (z_ur I b (z_fil (I b) 0 k (fun c => z_lim9 (z_trn 3 (I a c).toInt64 (I (3 + r) c).toInt64 (100 - I 40 t).toInt64)))) b k ((if 1000000000 < ((((I a k).toInt64) * ((I (3 + r) k).toInt64) / 1000 + ((I (3 + r) k).toInt64)) * ((100 - I 40 t).toInt64) / 100) then 1000000000 else ((((I a k).toInt64) * ((I (3 + r) k).toInt64) / 1000 + ((I (3 + r) k).toInt64)) * ((100 - I 40 t).toInt64) / 100)).toInt32)), J, RF w)) (fun _ => rfl) ?_
    refine z_evL ?_
    have e := z_fil_s I b 0 k (fun c => z_lim9 (z_trn 3 (I a c).toInt64 (I (3 + r) c).toInt64 (100 - I 40 t).toInt64))
    rw [Nat.zero_add] at e
    rw [nI_1 k]
    rw [← e] at nx
    exact nx trivial
set_option maxRecDepth 20000 in
/-- LampHouse$Things.turn -/
theorem x_turn_4 (E : zE) (d : Nat) (I : Nat → Nat → Int32) (J : Nat → Nat → Int64) (w : Nat) (t a b r v : Nat) (ht : t < 20) (hr : I 39 t = nI r) (hr3 : r < 30) (ha : z_A a 8) (hb : z_A b 8) (hb9 : 96 ≤ b) (hab : a ≠ b) (hK : I 38 t = 4) (hv : I 40 t = nI v) (hv1 : v < 100) : z_cl E (d + 4) 120 [.ref 37, .int (nI t), .ref a, .ref b] (161, I, J, RF w) = some (none, 161, (z_u2 (z_ur I b (z_fil (I b) 0 8 (fun c => z_lim9 (z_trn 4 (I a c).toInt64 (I (3 + r) c).toInt64 (100 - I 40 t).toInt64)))) b (v % 8) (z_lim9 ((z_lim9 (z_trn 4 (I a (v % 8)).toInt64 (I (3 + r) (v % 8)).toInt64 (100 - I 40 t).toInt64)).toInt64 + (I a 0 / 2).toInt64))), J, RF w) := by
  refine z_call (d := d + 3) (M := z_m120) rfl rfl ?_
  refine z_evG 6 (y := z_ild (z_ia E 161 (I, J, RF w) 39) (nI t) fun vv => z_go 10 [some (.ref 37), some (.int (nI t)), some (.ref a), some (.ref b), none, none] [.int vv, .ref 1] 161 (I, J, RF w)) (fun _ => rfl) ?_
  refine z_evBn (N := 20) (f := (I 39)) (k := t) rfl rfl (by omega) ?_
  refine z_evL ?_
  refine z_evG 1 (y := z_ret (z_cl E (d + 3) 11 [.ref 1, .int (I 39 t)] (161, (I, J, RF w))) 13 [some (.ref 37), some (.int (nI t)), some (.ref a), some (.ref b), none, none] []) (fun _ => rfl) ?_
  refine z_evK (v := .ref (3 + r)) (z' := 161) (σ' := (I, J, RF w)) ((congrArg (fun q => z_cl E (d + 3) 11 [.ref 1, .int q] (161, I, J, RF w)) (hr : (I 39 t : Int32) = nI r)).trans (x_rows_getN E (d + 2) I J w r (by omega))) ?_
  refine z_evG 3 (y := z_go 18 [some (.ref 37), some (.int (nI t)), some (.ref a), some (.ref b), some (.ref (3 + r)), some (.int 0)] [] 161 (I, J, RF w)) (fun _ => rfl) ?_
  refine z_evL ?_
  have st0 : ∀ m0, m0 = 0 → ∀ q, z_Ev E (d + 3) z_m120 18 [some (.ref 37), some (.int (nI t)), some (.ref a), some (.ref b), some (.ref (3 + r)), some (.int (nI m0))] [] 161 ((z_ur I b (z_fil (I b) 0 m0 (fun c => z_lim9 (z_trn 4 (I a c).toInt64 (I (3 + r) c).toInt64 (100 - I 40 t).toInt64)))), J, RF w) q → z_Ev E (d + 3) z_m120 18 [some (.ref 37), some (.int (nI t)), some (.ref a), some (.ref b), some (.ref (3 + r)), some (.int 0)] [] 161 (I, J, RF w) q := by intro m0 hm0 q h; rw [hm0, z_fil_0] at h; subst hm0; exact h
  refine st0 0 rfl _ ?_
  refine z_loop (F := fun k => ([some (.ref 37), some (.int (nI t)), some (.ref a), some (.ref b), some (.ref (3 + r)), some (.int (nI k))], ((z_ur I b (z_fil (I b) 0 k (fun c => z_lim9 (z_trn 4 (I a c).toInt64 (I (3 + r) c).toInt64 (100 - I 40 t).toInt64)))), J, RF w))) (P := fun k => True) 8 trivial (fun hP => ?_) (fun k hk hP next => ?_)
  · show z_Ev E (d + 3) z_m120 18 [some (.ref 37), some (.int (nI t)), some (.ref a), some (.ref b), some (.ref (3 + r)), some (.int (nI 8))] [] 161 ((z_ur I b (z_fil (I b) 0 8 (fun c => z_lim9 (z_trn 4 (I a c).toInt64 (I (3 + r) c).toInt64 (100 - I 40 t).toInt64)))), J, RF w) _
    refine z_evG 3 (y := if (nI 8) < 8 then z_go 25 [some (.ref 37), some (.int (nI t)), some (.ref a), some (.ref b), some (.ref (3 + r)), some (.int (nI 8))] [] 161 ((z_ur I b (z_fil (I b) 0 8 (fun c => z_lim9 (z_trn 4 (I a c).toInt64 (I (3 + r) c).toInt64 (100 - I 40 t).toInt64)))), J, RF w) else z_go 54 [some (.ref 37), some (.int (nI t)), some (.ref a), some (.ref b), some (.ref (3 + r)), some (.int (nI 8))] [] 161 ((z_ur I b (z_fil (I b) 0 8 (fun c => z_lim9 (z_trn 4 (I a c).toInt64 (I (3 + r) c).toInt64 (100 - I 40 t).toInt64)))), J, RF w)) (fun _ => rfl) ?_
    refine z_evF (mt (show _ ↔ 8 < 8 from z_ltN rfl rfl (by omega) (by omega)).mp (by omega)) ?_
    refine z_evL ?_
    refine z_evG 4 (y := z_ild (z_ia E 161 ((z_ur I b (z_fil (I b) 0 8 (fun c => z_lim9 (z_trn 4 (I a c).toInt64 (I (3 + r) c).toInt64 (100 - I 40 t).toInt64)))), J, RF w) 38) (nI t) fun vv => z_go 60 [some (.ref 37), some (.int (nI t)), some (.ref a), some (.ref b), some (.ref (3 + r)), some (.int (nI 8))] [.int vv] 161 ((z_ur I b (z_fil (I b) 0 8 (fun c => z_lim9 (z_trn 4 (I a c).toInt64 (I (3 + r) c).toInt64 (100 - I 40 t).toInt64)))), J, RF w)) (fun _ => rfl) ?_
    refine z_evBn (N := 20) (f := ((z_ur I b (z_fil (I b) 0 8 (fun c => z_lim9 (z_trn 4 (I a c).toInt64 (I (3 + r) c).toInt64 (100 - I 40 t).toInt64)))) 38)) (k := t) rfl rfl (by omega) ?_
    refine z_evL ?_
    rw [show (z_ur I b (z_fil (I b) 0 8 (fun c => z_lim9 (z_trn 4 (I a c).toInt64 (I (3 + r) c).toInt64 (100 - I 40 t).toInt64)))) 38 t = I 38 t from (congrFun (z_ur_n _ _ (by omega)) _)]
    rw [show I 38 t = 4 from hK]
    refine z_evG 2 (y := if 4 = 4 then z_go 64 [some (.ref 37), some (.int (nI t)), some (.ref a), some (.ref b), some (.ref (3 + r)), some (.int (nI 8))] [] 161 ((z_ur I b (z_fil (I b) 0 8 (fun c => z_lim9 (z_trn 4 (I a c).toInt64 (I (3 + r) c).toInt64 (100 - I 40 t).toInt64)))), J, RF w) else z_go 94 [some (.ref 37), some (.int (nI t)), some (.ref a), some (.ref b), some (.ref (3 + r)), some (.int (nI 8))] [] 161 ((z_ur I b (z_fil (I b) 0 8 (fun c => z_lim9 (z_trn 4 (I a c).toInt64 (I (3 + r) c).toInt64 (100 - I 40 t).toInt64)))), J, RF w)) (fun _ => rfl) ?_
    refine z_evI (fun _ => ?_) (fun q => absurd (by decide) q)
    refine z_evL ?_
    refine z_evG 4 (y := z_ild (z_ia E 161 ((z_ur I b (z_fil (I b) 0 8 (fun c => z_lim9 (z_trn 4 (I a c).toInt64 (I (3 + r) c).toInt64 (100 - I 40 t).toInt64)))), J, RF w) 40) (nI t) fun vv => z_go 70 [some (.ref 37), some (.int (nI t)), some (.ref a), some (.ref b), some (.ref (3 + r)), some (.int (nI 8))] [.int vv] 161 ((z_ur I b (z_fil (I b) 0 8 (fun c => z_lim9 (z_trn 4 (I a c).toInt64 (I (3 + r) c).toInt64 (100 - I 40 t).toInt64)))), J, RF w)) (fun _ => rfl) ?_
    refine z_evBn (N := 20) (f := ((z_ur I b (z_fil (I b) 0 8 (fun c => z_lim9 (z_trn 4 (I a c).toInt64 (I (3 + r) c).toInt64 (100 - I 40 t).toInt64)))) 40)) (k := t) rfl rfl (by omega) ?_
    refine z_evL ?_
    rw [show (z_ur I b (z_fil (I b) 0 8 (fun c => z_lim9 (z_trn 4 (I a c).toInt64 (I (3 + r) c).toInt64 (100 - I 40 t).toInt64)))) 40 t = I 40 t from (congrFun (z_ur_n _ _ (by omega)) _)]
    refine z_evG 2 (y := z_ck (!decide ((8 : Int32) = 0)) (z_go 73 [some (.ref 37), some (.int (nI t)), some (.ref a), some (.ref b), some (.ref (3 + r)), some (.int (nI 8))] [.int ((I 40 t) - (I 40 t) / 8 * 8)] 161 ((z_ur I b (z_fil (I b) 0 8 (fun c => z_lim9 (z_trn 4 (I a c).toInt64 (I (3 + r) c).toInt64 (100 - I 40 t).toInt64)))), J, RF w))) (fun _ => rfl) ?_
    refine z_evC (by decide) ?_
    refine z_evL ?_
    refine z_evG 6 (y := z_ild (z_ia E 161 ((z_ur I b (z_fil (I b) 0 8 (fun c => z_lim9 (z_trn 4 (I a c).toInt64 (I (3 + r) c).toInt64 (100 - I 40 t).toInt64)))), J, RF w) b) ((I 40 t) - (I 40 t) / 8 * 8) fun vv => z_go 82 [some (.ref 37), some (.int (nI t)), some (.ref a), some (.ref b), some (.ref (3 + r)), some (.int ((I 40 t) - (I 40 t) / 8 * 8))] [.int vv, .int ((I 40 t) - (I 40 t) / 8 * 8), .ref b] 161 ((z_ur I b (z_fil (I b) 0 8 (fun c => z_lim9 (z_trn 4 (I a c).toInt64 (I (3 + r) c).toInt64 (100 - I 40 t).toInt64)))), J, RF w)) (fun _ => rfl) ?_
    refine z_evBn (N := 8) (f := ((z_ur I b (z_fil (I b) 0 8 (fun c => z_lim9 (z_trn 4 (I a c).toInt64 (I (3 + r) c).toInt64 (100 - I 40 t).toInt64)))) b)) (k := (v % 8)) (z_iaA hb) (z_remE (m := 8) hv (by omega) (by decide) (by decide)) (by omega) ?_
    refine z_evL ?_
    rw [show (z_ur I b (z_fil (I b) 0 8 (fun c => z_lim9 (z_trn 4 (I a c).toInt64 (I (3 + r) c).toInt64 (100 - I 40 t).toInt64)))) b (v % 8) = (fun c => z_lim9 (z_trn 4 (I a c).toInt64 (I (3 + r) c).toInt64 (100 - I 40 t).toInt64)) (v % 8) from ((congrFun (z_ur_same _ _ _) _).trans (z_fil_in0 (by omega)))]
    refine z_evG 4 (y := z_ild (z_ia E 161 ((z_ur I b (z_fil (I b) 0 8 (fun c => z_lim9 (z_trn 4 (I a c).toInt64 (I (3 + r) c).toInt64 (100 - I 40 t).toInt64)))), J, RF w) a) 0 fun vv => z_go 86 [some (.ref 37), some (.int (nI t)), some (.ref a), some (.ref b), some (.ref (3 + r)), some (.int ((I 40 t) - (I 40 t) / 8 * 8))] [.int vv, .long (((fun c => z_lim9 (z_trn 4 (I a c).toInt64 (I (3 + r) c).toInt64 (100 - I 40 t).toInt64)) (v % 8)).toInt64), .int ((I 40 t) - (I 40 t) / 8 * 8), .ref b] 161 ((z_ur I b (z_fil (I b) 0 8 (fun c => z_lim9 (z_trn 4 (I a c).toInt64 (I (3 + r) c).toInt64 (100 - I 40 t).toInt64)))), J, RF w)) (fun _ => rfl) ?_
    refine z_evBn (N := 8) (f := ((z_ur I b (z_fil (I b) 0 8 (fun c => z_lim9 (z_trn 4 (I a c).toInt64 (I (3 + r) c).toInt64 (100 - I 40 t).toInt64)))) a)) (k := 0) (z_iaA ha) rfl (by decide) ?_
    refine z_evL ?_
    rw [show (z_ur I b (z_fil (I b) 0 8 (fun c => z_lim9 (z_trn 4 (I a c).toInt64 (I (3 + r) c).toInt64 (100 - I 40 t).toInt64)))) a 0 = I a 0 from (congrFun (z_ur_n _ _ hab) _)]
    refine z_evG 2 (y := z_ck (!decide ((2 : Int32) = 0)) (z_go 88 [some (.ref 37), some (.int (nI t)), some (.ref a), some (.ref b), some (.ref (3 + r)), some (.int ((I 40 t) - (I 40 t) / 8 * 8))] [.int ((I a 0) / 2), .long (((fun c => z_lim9 (z_trn 4 (I a c).toInt64 (I (3 + r) c).toInt64 (100 - I 40 t).toInt64)) (v % 8)).toInt64), .int ((I 40 t) - (I 40 t) / 8 * 8), .ref b] 161 ((z_ur I b (z_fil (I b) 0 8 (fun c => z_lim9 (z_trn 4 (I a c).toInt64 (I (3 + r) c).toInt64 (100 - I 40 t).toInt64)))), J, RF w))) (fun _ => rfl) ?_
    refine z_evC (by decide) ?_
    refine z_evL ?_
    refine z_evG 3 (y := z_ret (z_cl E (d + 3) 170 [.long ((((fun c => z_lim9 (z_trn 4 (I a c).toInt64 (I (3 + r) c).toInt64 (100 - I 40 t).toInt64)) (v % 8)).toInt64) + (((I a 0) / 2).toInt64))] (161, ((z_ur I b (z_fil (I b) 0 8 (fun c => z_lim9 (z_trn 4 (I a c).toInt64 (I (3 + r) c).toInt64 (100 - I 40 t).toInt64)))), J, RF w))) 93 [some (.ref 37), some (.int (nI t)), some (.ref a), some (.ref b), some (.ref (3 + r)), some (.int ((I 40 t) - (I 40 t) / 8 * 8))] [.int ((I 40 t) - (I 40 t) / 8 * 8), .ref b]) (fun _ => rfl) ?_
    refine z_evK (v := .int ((if 1000000000 < ((((fun c => z_lim9 (z_trn 4 (I a c).toInt64 (I (3 + r) c).toInt64 (100 - I 40 t).toInt64)) (v % 8)).toInt64) + (((I a 0) / 2).toInt64)) then 1000000000 else ((((fun c => z_lim9 (z_trn 4 (I a c).toInt64 (I (3 + r) c).toInt64 (100 - I 40 t).toInt64)) (v % 8)).toInt64) + (((I a 0) / 2).toInt64))).toInt32)) (z' := 161) (σ' := ((z_ur I b (z_fil (I b) 0 8 (fun c => z_lim9 (z_trn 4 (I a c).toInt64 (I (3 + r) c).toInt64 (100 - I 40 t).toInt64)))), J, RF w)) (x_limited E (d + 2) (z_ur I b (z_fil (I b) 0 8 (fun c => z_lim9 (z_trn 4 (I a c).toInt64 (I (3 + r) c).toInt64 (100 - I 40 t).toInt64)))) J w ((((fun c => z_lim9 (z_trn 4 (I a c).toInt64 (I (3 + r) c).toInt64 (100 - I 40 t).toInt64)) (v % 8)).toInt64) + (((I a 0) / 2).toInt64))) ?_
    refine z_evG 1 (y := z_ck (z_isA 161 ((z_ur I b (z_fil (I b) 0 8 (fun c => z_lim9 (z_trn 4 (I a c).toInt64 (I (3 + r) c).toInt64 (100 - I 40 t).toInt64)))), J, RF w) b 0 && z_in ((I 40 t) - (I 40 t) / 8 * 8) (z_SH b).2) (z_go 94 [some (.ref 37), some (.int (nI t)), some (.ref a), some (.ref b), some (.ref (3 + r)), some (.int ((I 40 t) - (I 40 t) / 8 * 8))] [] 161 ((z_u2 (z_ur I b (z_fil (I b) 0 8 (fun c => z_lim9 (z_trn 4 (I a c).toInt64 (I (3 + r) c).toInt64 (100 - I 40 t).toInt64)))) b (((I 40 t) - (I 40 t) / 8 * 8).toNatClampNeg) ((if 1000000000 < ((((fun c => z_lim9 (z_trn 4 (I a c).toInt64 (I (3 + r) c).toInt64 (100 - I 40 t).toInt64)) (v % 8)).toInt64) + (((I a 0) / 2).toInt64)) then 1000000000 else ((((fun c => z_lim9 (z_trn 4 (I a c).toInt64 (I (3 + r) c).toInt64 (100 - I 40 t).toInt64)) (v % 8)).toInt64) + (((I a 0) / 2).toInt64))).toInt32)), J, RF w))) (fun _ => rfl) ?_
    refine z_evC (z_stA hb (z_inN (k := v % 8) (z_remE (m := 8) hv (by omega) (by decide) (by decide)) (by omega) (by decide))) ?_
    refine z_evL ?_
    rw [show (((I 40 t) - (I 40 t) / 8 * 8 : Int32)).toNatClampNeg = v % 8 from z_natE (z_remE (m := 8) hv (by omega) (by decide) (by decide)) (by omega)]
    refine z_evG 1 (y := some (.inr (none, 161, (z_u2 (z_ur I b (z_fil (I b) 0 8 (fun c => z_lim9 (z_trn 4 (I a c).toInt64 (I (3 + r) c).toInt64 (100 - I 40 t).toInt64)))) b (v % 8) ((if 1000000000 < ((((fun c => z_lim9 (z_trn 4 (I a c).toInt64 (I (3 + r) c).toInt64 (100 - I 40 t).toInt64)) (v % 8)).toInt64) + (((I a 0) / 2).toInt64)) then 1000000000 else ((((fun c => z_lim9 (z_trn 4 (I a c).toInt64 (I (3 + r) c).toInt64 (100 - I 40 t).toInt64)) (v % 8)).toInt64) + (((I a 0) / 2).toInt64))).toInt32)), J, RF w))) (fun _ => rfl) ?_
    exact z_evR rfl
  · show z_Ev E (d + 3) z_m120 18 [some (.ref 37), some (.int (nI t)), some (.ref a), some (.ref b), some (.ref (3 + r)), some (.int (nI k))] [] 161 ((z_ur I b (z_fil (I b) 0 k (fun c => z_lim9 (z_trn 4 (I a c).toInt64 (I (3 + r) c).toInt64 (100 - I 40 t).toInt64)))), J, RF w) _
    have nx : (True) → z_Ev E (d + 3) z_m120 18 [some (.ref 37), some (.int (nI t)), some (.ref a), some (.ref b), some (.ref (3 + r)), some (.int (nI (k + 1)))] [] 161 ((z_ur I b (z_fil (I b) 0 (k + 1) (fun c => z_lim9 (z_trn 4 (I a c).toInt64 (I (3 + r) c).toInt64 (100 - I 40 t).toInt64)))), J, RF w) _ := next
    refine z_evG 3 (y := if (nI k) < 8 then z_go 25 [some (.ref 37), some (.int (nI t)), some (.ref a), some (.ref b), some (.ref (3 + r)), some (.int (nI k))] [] 161 ((z_ur I b (z_fil (I b) 0 k (fun c => z_lim9 (z_trn 4 (I a c).toInt64 (I (3 + r) c).toInt64 (100 - I 40 t).toInt64)))), J, RF w) else z_go 54 [some (.ref 37), some (.int (nI t)), some (.ref a), some (.ref b), some (.ref (3 + r)), some (.int (nI k))] [] 161 ((z_ur I b (z_fil (I b) 0 k (fun c => z_lim9 (z_trn 4 (I a c).toInt64 (I (3 + r) c).toInt64 (100 - I 40 t).toInt64)))), J, RF w)) (fun _ => rfl) ?_
    refine z_evT ((show _ ↔ k < 8 from z_ltN rfl rfl (by omega) (by omega)).mpr (by omega)) ?_
    refine z_evL ?_
    refine z_evG 7 (y := z_ild (z_ia E 161 ((z_ur I b (z_fil (I b) 0 k (fun c => z_lim9 (z_trn 4 (I a c).toInt64 (I (3 + r) c).toInt64 (100 - I 40 t).toInt64)))), J, RF w) a) (nI k) fun vv => z_go 34 [some (.ref 37), some (.int (nI t)), some (.ref a), some (.ref b), some (.ref (3 + r)), some (.int (nI k))] [.int vv, .int (nI t), .ref 37, .int (nI k), .ref b] 161 ((z_ur I b (z_fil (I b) 0 k (fun c => z_lim9 (z_trn 4 (I a c).toInt64 (I (3 + r) c).toInt64 (100 - I 40 t).toInt64)))), J, RF w)) (fun _ => rfl) ?_
    refine z_evBn (N := 8) (f := ((z_ur I b (z_fil (I b) 0 k (fun c => z_lim9 (z_trn 4 (I a c).toInt64 (I (3 + r) c).toInt64 (100 - I 40 t).toInt64)))) a)) (k := k) (z_iaA ha) rfl (by omega) ?_
    refine z_evL ?_
    rw [show (z_ur I b (z_fil (I b) 0 k (fun c => z_lim9 (z_trn 4 (I a c).toInt64 (I (3 + r) c).toInt64 (100 - I 40 t).toInt64)))) a k = I a k from (congrFun (z_ur_n _ _ hab) _)]
    refine z_evG 4 (y := z_ild (z_ia E 161 ((z_ur I b (z_fil (I b) 0 k (fun c => z_lim9 (z_trn 4 (I a c).toInt64 (I (3 + r) c).toInt64 (100 - I 40 t).toInt64)))), J, RF w) (3 + r)) (nI k) fun vv => z_go 40 [some (.ref 37), some (.int (nI t)), some (.ref a), some (.ref b), some (.ref (3 + r)), some (.int (nI k))] [.int vv, .long ((I a k).toInt64), .int (nI t), .ref 37, .int (nI k), .ref b] 161 ((z_ur I b (z_fil (I b) 0 k (fun c => z_lim9 (z_trn 4 (I a c).toInt64 (I (3 + r) c).toInt64 (100 - I 40 t).toInt64)))), J, RF w)) (fun _ => rfl) ?_
    refine z_evBn (N := 8) (f := ((z_ur I b (z_fil (I b) 0 k (fun c => z_lim9 (z_trn 4 (I a c).toInt64 (I (3 + r) c).toInt64 (100 - I 40 t).toInt64)))) (3 + r))) (k := k) (z_iaA (z_A_rows r (by omega))) rfl (by omega) ?_
    refine z_evL ?_
    rw [show (z_ur I b (z_fil (I b) 0 k (fun c => z_lim9 (z_trn 4 (I a c).toInt64 (I (3 + r) c).toInt64 (100 - I 40 t).toInt64)))) (3 + r) k = I (3 + r) k from (congrFun (z_ur_n _ _ (by omega)) _)]
    refine z_evG 2 (y := z_ret (z_cl E (d + 3) 121 [.ref 37, .int (nI t), .long ((I a k).toInt64), .long ((I (3 + r) k).toInt64)] (161, ((z_ur I b (z_fil (I b) 0 k (fun c => z_lim9 (z_trn 4 (I a c).toInt64 (I (3 + r) c).toInt64 (100 - I 40 t).toInt64)))), J, RF w))) 44 [some (.ref 37), some (.int (nI t)), some (.ref a), some (.ref b), some (.ref (3 + r)), some (.int (nI k))] [.int (nI k), .ref b]) (fun _ => rfl) ?_
    refine z_evK (v := .long (((I a k).toInt64) * (500 + ((I (3 + r) k).toInt64) / 2) / 1000)) (z' := 161) (σ' := ((z_ur I b (z_fil (I b) 0 k (fun c => z_lim9 (z_trn 4 (I a c).toInt64 (I (3 + r) c).toInt64 (100 - I 40 t).toInt64)))), J, RF w)) (x_turned_4 E d (z_ur I b (z_fil (I b) 0 k (fun c => z_lim9 (z_trn 4 (I a c).toInt64 (I (3 + r) c).toInt64 (100 - I 40 t).toInt64)))) J w t ((I a k).toInt64) ((I (3 + r) k).toInt64) (by omega) ((congrFun (z_ur_n _ _ (by omega)) _).trans hK)) ?_
    refine z_evG 1 (y := z_ret (z_cl E (d + 3) 170 [.long (((I a k).toInt64) * (500 + ((I (3 + r) k).toInt64) / 2) / 1000)] (161, ((z_ur I b (z_fil (I b) 0 k (fun c => z_lim9 (z_trn 4 (I a c).toInt64 (I (3 + r) c).toInt64 (100 - I 40 t).toInt64)))), J, RF w))) 47 [some (.ref 37), some (.int (nI t)), some (.ref a), some (.ref b), some (.ref (3 + r)), some (.int (nI k))] [.int (nI k), .ref b]) (fun _ => rfl) ?_
    refine z_evK (v := .int ((if 1000000000 < (((I a k).toInt64) * (500 + ((I (3 + r) k).toInt64) / 2) / 1000) then 1000000000 else (((I a k).toInt64) * (500 + ((I (3 + r) k).toInt64) / 2) / 1000)).toInt32)) (z' := 161) (σ' := ((z_ur I b (z_fil (I b) 0 k (fun c => z_lim9 (z_trn 4 (I a c).toInt64 (I (3 + r) c).toInt64 (100 - I 40 t).toInt64)))), J, RF w)) (x_limited E (d + 2) (z_ur I b (z_fil (I b) 0 k (fun c => z_lim9 (z_trn 4 (I a c).toInt64 (I (3 + r) c).toInt64 (100 - I 40 t).toInt64)))) J w (((I a k).toInt64) * (500 + ((I (3 + r) k).toInt64) / 2) / 1000)) ?_
    refine z_evG 1 (y := z_ck (z_isA 161 ((z_ur I b (z_fil (I b) 0 k (fun c => z_lim9 (z_trn 4 (I a c).toInt64 (I (3 + r) c).toInt64 (100 - I 40 t).toInt64)))), J, RF w) b 0 && z_in (nI k) (z_SH b).2) (z_go 48 [some (.ref 37), some (.int (nI t)), some (.ref a), some (.ref b), some (.ref (3 + r)), some (.int (nI k))] [] 161 ((z_u2 (z_ur I b (z_fil (I b) 0 k (fun c => z_lim9 (z_trn 4 (I a c).toInt64 (I (3 + r) c).toInt64 (100 - I 40 t).toInt64)))) b ((nI k).toNatClampNeg) ((if 1000000000 < (((I a k).toInt64) * (500 + ((I (3 + r) k).toInt64) / 2) / 1000) then 1000000000 else (((I a k).toInt64) * (500 + ((I (3 + r) k).toInt64) / 2) / 1000)).toInt32)), J, RF w))) (fun _ => rfl) ?_
    refine z_evC (z_stA hb (z_inN (k := k) rfl (by omega) (by decide))) ?_
    refine z_evL ?_
    rw [show ((nI k : Int32)).toNatClampNeg = k from z_natE rfl (by omega)]
    refine z_evG 2 (y := z_go 18 [some (.ref 37), some (.int (nI t)), some (.ref a), some (.ref b), some (.ref (3 + r)), some (.int ((nI k) + 1))] [] 161 ((z_u2 (z_ur I b (z_fil (I b) 0 k (fun c => z_lim9 (z_trn 4 (I a c).toInt64 (I (3 + r) c).toInt64 (100 - I 40 t).toInt64)))) b k ((if 1000000000 < (((I a k).toInt64) * (500 + ((I (3 + r) k).toInt64) / 2) / 1000) then 1000000000 else (((I a k).toInt64) * (500 + ((I (3 + r) k).toInt64) / 2) / 1000)).toInt32)), J, RF w)) (fun _ => rfl) ?_
    refine z_evL ?_
    have e := z_fil_s I b 0 k (fun c => z_lim9 (z_trn 4 (I a c).toInt64 (I (3 + r) c).toInt64 (100 - I 40 t).toInt64))
    rw [Nat.zero_add] at e
    rw [nI_1 k]
    rw [← e] at nx
    exact nx trivial
set_option maxRecDepth 20000 in
/-- LampHouse$Things.turn -/
theorem x_turn_5 (E : zE) (d : Nat) (I : Nat → Nat → Int32) (J : Nat → Nat → Int64) (w : Nat) (t a b r : Nat) (ht : t < 20) (hr : I 39 t = nI r) (hr3 : r < 30) (ha : z_A a 8) (hb : z_A b 8) (hb9 : 96 ≤ b) (hab : a ≠ b) (hK : I 38 t = 5) : z_cl E (d + 4) 120 [.ref 37, .int (nI t), .ref a, .ref b] (161, I, J, RF w) = some (none, 161, (z_ur I b (z_fil (I b) 0 8 (fun c => z_lim9 (z_trn 5 (I a c).toInt64 (I (3 + r) c).toInt64 (100 - I 40 t).toInt64)))), J, RF w) := by
  refine z_call (d := d + 3) (M := z_m120) rfl rfl ?_
  refine z_evG 6 (y := z_ild (z_ia E 161 (I, J, RF w) 39) (nI t) fun vv => z_go 10 [some (.ref 37), some (.int (nI t)), some (.ref a), some (.ref b), none, none] [.int vv, .ref 1] 161 (I, J, RF w)) (fun _ => rfl) ?_
  refine z_evBn (N := 20) (f := (I 39)) (k := t) rfl rfl (by omega) ?_
  refine z_evL ?_
  refine z_evG 1 (y := z_ret (z_cl E (d + 3) 11 [.ref 1, .int (I 39 t)] (161, (I, J, RF w))) 13 [some (.ref 37), some (.int (nI t)), some (.ref a), some (.ref b), none, none] []) (fun _ => rfl) ?_
  refine z_evK (v := .ref (3 + r)) (z' := 161) (σ' := (I, J, RF w)) ((congrArg (fun q => z_cl E (d + 3) 11 [.ref 1, .int q] (161, I, J, RF w)) (hr : (I 39 t : Int32) = nI r)).trans (x_rows_getN E (d + 2) I J w r (by omega))) ?_
  refine z_evG 3 (y := z_go 18 [some (.ref 37), some (.int (nI t)), some (.ref a), some (.ref b), some (.ref (3 + r)), some (.int 0)] [] 161 (I, J, RF w)) (fun _ => rfl) ?_
  refine z_evL ?_
  have st0 : ∀ m0, m0 = 0 → ∀ q, z_Ev E (d + 3) z_m120 18 [some (.ref 37), some (.int (nI t)), some (.ref a), some (.ref b), some (.ref (3 + r)), some (.int (nI m0))] [] 161 ((z_ur I b (z_fil (I b) 0 m0 (fun c => z_lim9 (z_trn 5 (I a c).toInt64 (I (3 + r) c).toInt64 (100 - I 40 t).toInt64)))), J, RF w) q → z_Ev E (d + 3) z_m120 18 [some (.ref 37), some (.int (nI t)), some (.ref a), some (.ref b), some (.ref (3 + r)), some (.int 0)] [] 161 (I, J, RF w) q := by intro m0 hm0 q h; rw [hm0, z_fil_0] at h; subst hm0; exact h
  refine st0 0 rfl _ ?_
  refine z_loop (F := fun k => ([some (.ref 37), some (.int (nI t)), some (.ref a), some (.ref b), some (.ref (3 + r)), some (.int (nI k))], ((z_ur I b (z_fil (I b) 0 k (fun c => z_lim9 (z_trn 5 (I a c).toInt64 (I (3 + r) c).toInt64 (100 - I 40 t).toInt64)))), J, RF w))) (P := fun k => True) 8 trivial (fun hP => ?_) (fun k hk hP next => ?_)
  · show z_Ev E (d + 3) z_m120 18 [some (.ref 37), some (.int (nI t)), some (.ref a), some (.ref b), some (.ref (3 + r)), some (.int (nI 8))] [] 161 ((z_ur I b (z_fil (I b) 0 8 (fun c => z_lim9 (z_trn 5 (I a c).toInt64 (I (3 + r) c).toInt64 (100 - I 40 t).toInt64)))), J, RF w) _
    refine z_evG 3 (y := if (nI 8) < 8 then z_go 25 [some (.ref 37), some (.int (nI t)), some (.ref a), some (.ref b), some (.ref (3 + r)), some (.int (nI 8))] [] 161 ((z_ur I b (z_fil (I b) 0 8 (fun c => z_lim9 (z_trn 5 (I a c).toInt64 (I (3 + r) c).toInt64 (100 - I 40 t).toInt64)))), J, RF w) else z_go 54 [some (.ref 37), some (.int (nI t)), some (.ref a), some (.ref b), some (.ref (3 + r)), some (.int (nI 8))] [] 161 ((z_ur I b (z_fil (I b) 0 8 (fun c => z_lim9 (z_trn 5 (I a c).toInt64 (I (3 + r) c).toInt64 (100 - I 40 t).toInt64)))), J, RF w)) (fun _ => rfl) ?_
    refine z_evF (mt (show _ ↔ 8 < 8 from z_ltN rfl rfl (by omega) (by omega)).mp (by omega)) ?_
    refine z_evL ?_
    refine z_evG 4 (y := z_ild (z_ia E 161 ((z_ur I b (z_fil (I b) 0 8 (fun c => z_lim9 (z_trn 5 (I a c).toInt64 (I (3 + r) c).toInt64 (100 - I 40 t).toInt64)))), J, RF w) 38) (nI t) fun vv => z_go 60 [some (.ref 37), some (.int (nI t)), some (.ref a), some (.ref b), some (.ref (3 + r)), some (.int (nI 8))] [.int vv] 161 ((z_ur I b (z_fil (I b) 0 8 (fun c => z_lim9 (z_trn 5 (I a c).toInt64 (I (3 + r) c).toInt64 (100 - I 40 t).toInt64)))), J, RF w)) (fun _ => rfl) ?_
    refine z_evBn (N := 20) (f := ((z_ur I b (z_fil (I b) 0 8 (fun c => z_lim9 (z_trn 5 (I a c).toInt64 (I (3 + r) c).toInt64 (100 - I 40 t).toInt64)))) 38)) (k := t) rfl rfl (by omega) ?_
    refine z_evL ?_
    rw [show (z_ur I b (z_fil (I b) 0 8 (fun c => z_lim9 (z_trn 5 (I a c).toInt64 (I (3 + r) c).toInt64 (100 - I 40 t).toInt64)))) 38 t = I 38 t from (congrFun (z_ur_n _ _ (by omega)) _)]
    rw [show I 38 t = 5 from hK]
    refine z_evG 2 (y := if 5 = 4 then z_go 64 [some (.ref 37), some (.int (nI t)), some (.ref a), some (.ref b), some (.ref (3 + r)), some (.int (nI 8))] [] 161 ((z_ur I b (z_fil (I b) 0 8 (fun c => z_lim9 (z_trn 5 (I a c).toInt64 (I (3 + r) c).toInt64 (100 - I 40 t).toInt64)))), J, RF w) else z_go 94 [some (.ref 37), some (.int (nI t)), some (.ref a), some (.ref b), some (.ref (3 + r)), some (.int (nI 8))] [] 161 ((z_ur I b (z_fil (I b) 0 8 (fun c => z_lim9 (z_trn 5 (I a c).toInt64 (I (3 + r) c).toInt64 (100 - I 40 t).toInt64)))), J, RF w)) (fun _ => rfl) ?_
    refine z_evI (fun q => absurd q (by decide)) (fun _ => ?_)
    refine z_evL ?_
    refine z_evG 1 (y := some (.inr (none, 161, (z_ur I b (z_fil (I b) 0 8 (fun c => z_lim9 (z_trn 5 (I a c).toInt64 (I (3 + r) c).toInt64 (100 - I 40 t).toInt64)))), J, RF w))) (fun _ => rfl) ?_
    exact z_evR rfl
  · show z_Ev E (d + 3) z_m120 18 [some (.ref 37), some (.int (nI t)), some (.ref a), some (.ref b), some (.ref (3 + r)), some (.int (nI k))] [] 161 ((z_ur I b (z_fil (I b) 0 k (fun c => z_lim9 (z_trn 5 (I a c).toInt64 (I (3 + r) c).toInt64 (100 - I 40 t).toInt64)))), J, RF w) _
    have nx : (True) → z_Ev E (d + 3) z_m120 18 [some (.ref 37), some (.int (nI t)), some (.ref a), some (.ref b), some (.ref (3 + r)), some (.int (nI (k + 1)))] [] 161 ((z_ur I b (z_fil (I b) 0 (k + 1) (fun c => z_lim9 (z_trn 5 (I a c).toInt64 (I (3 + r) c).toInt64 (100 - I 40 t).toInt64)))), J, RF w) _ := next
    refine z_evG 3 (y := if (nI k) < 8 then z_go 25 [some (.ref 37), some (.int (nI t)), some (.ref a), some (.ref b), some (.ref (3 + r)), some (.int (nI k))] [] 161 ((z_ur I b (z_fil (I b) 0 k (fun c => z_lim9 (z_trn 5 (I a c).toInt64 (I (3 + r) c).toInt64 (100 - I 40 t).toInt64)))), J, RF w) else z_go 54 [some (.ref 37), some (.int (nI t)), some (.ref a), some (.ref b), some (.ref (3 + r)), some (.int (nI k))] [] 161 ((z_ur I b (z_fil (I b) 0 k (fun c => z_lim9 (z_trn 5 (I a c).toInt64 (I (3 + r) c).toInt64 (100 - I 40 t).toInt64)))), J, RF w)) (fun _ => rfl) ?_
    refine z_evT ((show _ ↔ k < 8 from z_ltN rfl rfl (by omega) (by omega)).mpr (by omega)) ?_
    refine z_evL ?_
    refine z_evG 7 (y := z_ild (z_ia E 161 ((z_ur I b (z_fil (I b) 0 k (fun c => z_lim9 (z_trn 5 (I a c).toInt64 (I (3 + r) c).toInt64 (100 - I 40 t).toInt64)))), J, RF w) a) (nI k) fun vv => z_go 34 [some (.ref 37), some (.int (nI t)), some (.ref a), some (.ref b), some (.ref (3 + r)), some (.int (nI k))] [.int vv, .int (nI t), .ref 37, .int (nI k), .ref b] 161 ((z_ur I b (z_fil (I b) 0 k (fun c => z_lim9 (z_trn 5 (I a c).toInt64 (I (3 + r) c).toInt64 (100 - I 40 t).toInt64)))), J, RF w)) (fun _ => rfl) ?_
    refine z_evBn (N := 8) (f := ((z_ur I b (z_fil (I b) 0 k (fun c => z_lim9 (z_trn 5 (I a c).toInt64 (I (3 + r) c).toInt64 (100 - I 40 t).toInt64)))) a)) (k := k) (z_iaA ha) rfl (by omega) ?_
    refine z_evL ?_
    rw [show (z_ur I b (z_fil (I b) 0 k (fun c => z_lim9 (z_trn 5 (I a c).toInt64 (I (3 + r) c).toInt64 (100 - I 40 t).toInt64)))) a k = I a k from (congrFun (z_ur_n _ _ hab) _)]
    refine z_evG 4 (y := z_ild (z_ia E 161 ((z_ur I b (z_fil (I b) 0 k (fun c => z_lim9 (z_trn 5 (I a c).toInt64 (I (3 + r) c).toInt64 (100 - I 40 t).toInt64)))), J, RF w) (3 + r)) (nI k) fun vv => z_go 40 [some (.ref 37), some (.int (nI t)), some (.ref a), some (.ref b), some (.ref (3 + r)), some (.int (nI k))] [.int vv, .long ((I a k).toInt64), .int (nI t), .ref 37, .int (nI k), .ref b] 161 ((z_ur I b (z_fil (I b) 0 k (fun c => z_lim9 (z_trn 5 (I a c).toInt64 (I (3 + r) c).toInt64 (100 - I 40 t).toInt64)))), J, RF w)) (fun _ => rfl) ?_
    refine z_evBn (N := 8) (f := ((z_ur I b (z_fil (I b) 0 k (fun c => z_lim9 (z_trn 5 (I a c).toInt64 (I (3 + r) c).toInt64 (100 - I 40 t).toInt64)))) (3 + r))) (k := k) (z_iaA (z_A_rows r (by omega))) rfl (by omega) ?_
    refine z_evL ?_
    rw [show (z_ur I b (z_fil (I b) 0 k (fun c => z_lim9 (z_trn 5 (I a c).toInt64 (I (3 + r) c).toInt64 (100 - I 40 t).toInt64)))) (3 + r) k = I (3 + r) k from (congrFun (z_ur_n _ _ (by omega)) _)]
    refine z_evG 2 (y := z_ret (z_cl E (d + 3) 121 [.ref 37, .int (nI t), .long ((I a k).toInt64), .long ((I (3 + r) k).toInt64)] (161, ((z_ur I b (z_fil (I b) 0 k (fun c => z_lim9 (z_trn 5 (I a c).toInt64 (I (3 + r) c).toInt64 (100 - I 40 t).toInt64)))), J, RF w))) 44 [some (.ref 37), some (.int (nI t)), some (.ref a), some (.ref b), some (.ref (3 + r)), some (.int (nI k))] [.int (nI k), .ref b]) (fun _ => rfl) ?_
    refine z_evK (v := .long ((((I a k).toInt64) * (500 + ((I (3 + r) k).toInt64) / 2) / 1000) * (500 + ((I (3 + r) k).toInt64) / 2) / 1000)) (z' := 161) (σ' := ((z_ur I b (z_fil (I b) 0 k (fun c => z_lim9 (z_trn 5 (I a c).toInt64 (I (3 + r) c).toInt64 (100 - I 40 t).toInt64)))), J, RF w)) (x_turned_5 E d (z_ur I b (z_fil (I b) 0 k (fun c => z_lim9 (z_trn 5 (I a c).toInt64 (I (3 + r) c).toInt64 (100 - I 40 t).toInt64)))) J w t ((I a k).toInt64) ((I (3 + r) k).toInt64) (by omega) ((congrFun (z_ur_n _ _ (by omega)) _).trans hK)) ?_
    refine z_evG 1 (y := z_ret (z_cl E (d + 3) 170 [.long ((((I a k).toInt64) * (500 + ((I (3 + r) k).toInt64) / 2) / 1000) * (500 + ((I (3 + r) k).toInt64) / 2) / 1000)] (161, ((z_ur I b (z_fil (I b) 0 k (fun c => z_lim9 (z_trn 5 (I a c).toInt64 (I (3 + r) c).toInt64 (100 - I 40 t).toInt64)))), J, RF w))) 47 [some (.ref 37), some (.int (nI t)), some (.ref a), some (.ref b), some (.ref (3 + r)), some (.int (nI k))] [.int (nI k), .ref b]) (fun _ => rfl) ?_
    refine z_evK (v := .int ((if 1000000000 < ((((I a k).toInt64) * (500 + ((I (3 + r) k).toInt64) / 2) / 1000) * (500 + ((I (3 + r) k).toInt64) / 2) / 1000) then 1000000000 else ((((I a k).toInt64) * (500 + ((I (3 + r) k).toInt64) / 2) / 1000) * (500 + ((I (3 + r) k).toInt64) / 2) / 1000)).toInt32)) (z' := 161) (σ' := ((z_ur I b (z_fil (I b) 0 k (fun c => z_lim9 (z_trn 5 (I a c).toInt64 (I (3 + r) c).toInt64 (100 - I 40 t).toInt64)))), J, RF w)) (x_limited E (d + 2) (z_ur I b (z_fil (I b) 0 k (fun c => z_lim9 (z_trn 5 (I a c).toInt64 (I (3 + r) c).toInt64 (100 - I 40 t).toInt64)))) J w ((((I a k).toInt64) * (500 + ((I (3 + r) k).toInt64) / 2) / 1000) * (500 + ((I (3 + r) k).toInt64) / 2) / 1000)) ?_
    refine z_evG 1 (y := z_ck (z_isA 161 ((z_ur I b (z_fil (I b) 0 k (fun c => z_lim9 (z_trn 5 (I a c).toInt64 (I (3 + r) c).toInt64 (100 - I 40 t).toInt64)))), J, RF w) b 0 && z_in (nI k) (z_SH b).2) (z_go 48 [some (.ref 37), some (.int (nI t)), some (.ref a), some (.ref b), some (.ref (3 + r)), some (.int (nI k))] [] 161 ((z_u2 (z_ur I b (z_fil (I b) 0 k (fun c => z_lim9 (z_trn 5 (I a c).toInt64 (I (3 + r) c).toInt64 (100 - I 40 t).toInt64)))) b ((nI k).toNatClampNeg) ((if 1000000000 < ((((I a k).toInt64) * (500 + ((I (3 + r) k).toInt64) / 2) / 1000) * (500 + ((I (3 + r) k).toInt64) / 2) / 1000) then 1000000000 else ((((I a k).toInt64) * (500 + ((I (3 + r) k).toInt64) / 2) / 1000) * (500 + ((I (3 + r) k).toInt64) / 2) / 1000)).toInt32)), J, RF w))) (fun _ => rfl) ?_
    refine z_evC (z_stA hb (z_inN (k := k) rfl (by omega) (by decide))) ?_
    refine z_evL ?_
    rw [show ((nI k : Int32)).toNatClampNeg = k from z_natE rfl (by omega)]
    refine z_evG 2 (y := z_go 18 [some (.ref 37), some (.int (nI t)), some (.ref a), some (.ref b), some (.ref (3 + r)), some (.int ((nI k) + 1))] [] 161 ((z_u2 (z_ur I b (z_fil (I b) 0 k (fun c => z_lim9 (z_trn 5 (I a c).toInt64 (I (3 + r) c).toInt64 (100 - I 40 t).toInt64)))) b k ((if 1000000000 < ((((I a k).toInt64) * (500 + ((I (3 + r) k).toInt64) / 2) / 1000) * (500 + ((I (3 + r) k).toInt64) / 2) / 1000) then 1000000000 else ((((I a k).toInt64) * (500 + ((I (3 + r) k).toInt64) / 2) / 1000) * (500 + ((I (3 + r) k).toInt64) / 2) / 1000)).toInt32)), J, RF w)) (fun _ => rfl) ?_
    refine z_evL ?_
    have e := z_fil_s I b 0 k (fun c => z_lim9 (z_trn 5 (I a c).toInt64 (I (3 + r) c).toInt64 (100 - I 40 t).toInt64))
    rw [Nat.zero_add] at e
    rw [nI_1 k]
    rw [← e] at nx
    exact nx trivial
