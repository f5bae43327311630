-- BOTH, ROW, COUNT
set_option maxRecDepth 20000 in
/-- LampHouse.join -/
theorem x_join (E : zE) (d : Nat) (I : Nat → Nat → Int32) (J : Nat → Nat → Int64) (w : Nat) (a b : Nat) (ha : z_A a 8) (hb : z_A b 8) (hna : a ≠ 125) (hnb : b ≠ 125) : z_cl E (d + 2) 171 [.ref a, .ref b, .ref 125] (161, I, J, RF w) = some (none, 161, (z_ur I 125 (z_fil (I 125) 0 8 (fun c => (if 1000000000 < (I a c).toInt64 + (I b c).toInt64 then 1000000000 else (I a c).toInt64 + (I b c).toInt64).toInt32))), J, RF w) := by
  refine z_call (d := d + 1) (M := z_m171) rfl rfl ?_
  refine z_evG 2 (y := z_go 2 [some (.ref a), some (.ref b), some (.ref 125), some (.int 0)] [] 161 (I, J, RF w)) (fun _ => rfl) ?_
  refine z_evL ?_
  have st0 : ∀ m0, m0 = 0 → ∀ q, z_Ev E (d + 1) z_m171 2 [some (.ref a), some (.ref b), some (.ref 125), some (.int (nI m0))] [] 161 ((z_ur I 125 (z_fil (I 125) 0 m0 (fun c => (if 1000000000 < (I a c).toInt64 + (I b c).toInt64 then 1000000000 else (I a c).toInt64 + (I b c).toInt64).toInt32))), J, RF w) q → z_Ev E (d + 1) z_m171 2 [some (.ref a), some (.ref b), some (.ref 125), some (.int 0)] [] 161 (I, J, RF w) q := by intro m0 hm0 q h; rw [hm0, z_fil_0] at h; subst hm0; exact h
  refine st0 0 rfl _ ?_
  refine z_loop (F := fun k => ([some (.ref a), some (.ref b), some (.ref 125), some (.int (nI k))], ((z_ur I 125 (z_fil (I 125) 0 k (fun c => (if 1000000000 < (I a c).toInt64 + (I b c).toInt64 then 1000000000 else (I a c).toInt64 + (I b c).toInt64).toInt32))), J, RF w))) (P := fun k => True) 8 trivial (fun hP => ?_) (fun k hk hP next => ?_)
  · show z_Ev E (d + 1) z_m171 2 [some (.ref a), some (.ref b), some (.ref 125), some (.int (nI 8))] [] 161 ((z_ur I 125 (z_fil (I 125) 0 8 (fun c => (if 1000000000 < (I a c).toInt64 + (I b c).toInt64 then 1000000000 else (I a c).toInt64 + (I b c).toInt64).toInt32))), J, RF w) _
    refine z_evG 3 (y := if (nI 8) < 8 then z_go 8 [some (.ref a), some (.ref b), some (.ref 125), some (.int (nI 8))] [] 161 ((z_ur I 125 (z_fil (I 125) 0 8 (fun c => (if 1000000000 < (I a c).toInt64 + (I b c).toInt64 then 1000000000 else (I a c).toInt64 + (I b c).toInt64).toInt32))), J, RF w) else z_go 29 [some (.ref a), some (.ref b), some (.ref 125), some (.int (nI 8))] [] 161 ((z_ur I 125 (z_fil (I 125) 0 8 (fun c => (if 1000000000 < (I a c).toInt64 + (I b c).toInt64 then 1000000000 else (I a c).toInt64 + (I b c).toInt64).toInt32))), J, RF w)) (fun _ => rfl) ?_
    refine z_evF (mt (show _ ↔ 8 < 8 from z_ltN rfl rfl (by omega) (by omega)).mp (by omega)) ?_
    refine z_evL ?_
    refine z_evG 1 (y := some (.inr (none, 161, (z_ur I 125 (z_fil (I 125) 0 8 (fun c => (if 1000000000 < (I a c).toInt64 + (I b c).toInt64 then 1000000000 else (I a c).toInt64 + (I b c).toInt64).toInt32))), J, RF w))) (fun _ => rfl) ?_
    exact z_evR rfl
  · show z_Ev E (d + 1) z_m171 2 [some (.ref a), some (.ref b), some (.ref 125), some (.int (nI k))] [] 161 ((z_ur I 125 (z_fil (I 125) 0 k (fun c => (if 1000000000 < (I a c).toInt64 + (I b c).toInt64 then 1000000000 else (I a c).toInt64 + (I b c).toInt64).toInt32))), J, RF w) _
    have nx : (True) → z_Ev E (d + 1) z_m171 2 [some (.ref a), some (.ref b), some (.ref 125), some (.int (nI (k + 1)))] [] 161 ((z_ur I 125 (z_fil (I 125) 0 (k + 1) (fun c => (if 1000000000 < (I a c).toInt64 + (I b c).toInt64 then 1000000000 else (I a c).toInt64 + (I b c).toInt64).toInt32))), J, RF w) _ := next
    refine z_evG 3 (y := if (nI k) < 8 then z_go 8 [some (.ref a), some (.ref b), some (.ref 125), some (.int (nI k))] [] 161 ((z_ur I 125 (z_fil (I 125) 0 k (fun c => (if 1000000000 < (I a c).toInt64 + (I b c).toInt64 then 1000000000 else (I a c).toInt64 + (I b c).toInt64).toInt32))), J, RF w) else z_go 29 [some (.ref a), some (.ref b), some (.ref 125), some (.int (nI k))] [] 161 ((z_ur I 125 (z_fil (I 125) 0 k (fun c => (if 1000000000 < (I a c).toInt64 + (I b c).toInt64 then 1000000000 else (I a c).toInt64 + (I b c).toInt64).toInt32))), J, RF w)) (fun _ => rfl) ?_
    refine z_evT ((show _ ↔ k < 8 from z_ltN rfl rfl (by omega) (by omega)).mpr (by omega)) ?_
    refine z_evL ?_
    refine z_evG 5 (y := z_ild (z_ia E 161 ((z_ur I 125 (z_fil (I 125) 0 k (fun c => (if 1000000000 < (I a c).toInt64 + (I b c).toInt64 then 1000000000 else (I a c).toInt64 + (I b c).toInt64).toInt32))), J, RF w) a) (nI k) fun vv => z_go 13 [some (.ref a), some (.ref b), some (.ref 125), some (.int (nI k))] [.int vv, .int (nI k), .ref 125] 161 ((z_ur I 125 (z_fil (I 125) 0 k (fun c => (if 1000000000 < (I a c).toInt64 + (I b c).toInt64 then 1000000000 else (I a c).toInt64 + (I b c).toInt64).toInt32))), J, RF w)) (fun _ => rfl) ?_
    refine z_evBn (N := 8) (f := ((z_ur I 125 (z_fil (I 125) 0 k (fun c => (if 1000000000 < (I a c).toInt64 + (I b c).toInt64 then 1000000000 else (I a c).toInt64 + (I b c).toInt64).toInt32))) a)) (k := k) (z_iaA ha) rfl (by omega) ?_
    refine z_evL ?_
    rw [show (z_ur I 125 (z_fil (I 125) 0 k (fun c => (if 1000000000 < (I a c).toInt64 + (I b c).toInt64 then 1000000000 else (I a c).toInt64 + (I b c).toInt64).toInt32))) a k = I a k from (congrFun (z_ur_n _ _ hna) _)]
    refine z_evG 4 (y := z_ild (z_ia E 161 ((z_ur I 125 (z_fil (I 125) 0 k (fun c => (if 1000000000 < (I a c).toInt64 + (I b c).toInt64 then 1000000000 else (I a c).toInt64 + (I b c).toInt64).toInt32))), J, RF w) b) (nI k) fun vv => z_go 17 [some (.ref a), some (.ref b), some (.ref 125), some (.int (nI k))] [.int vv, .long ((I a k).toInt64), .int (nI k), .ref 125] 161 ((z_ur I 125 (z_fil (I 125) 0 k (fun c => (if 1000000000 < (I a c).toInt64 + (I b c).toInt64 then 1000000000 else (I a c).toInt64 + (I b c).toInt64).toInt32))), J, RF w)) (fun _ => rfl) ?_
    refine z_evBn (N := 8) (f := ((z_ur I 125 (z_fil (I 125) 0 k (fun c => (if 1000000000 < (I a c).toInt64 + (I b c).toInt64 then 1000000000 else (I a c).toInt64 + (I b c).toInt64).toInt32))) b)) (k := k) (z_iaA hb) rfl (by omega) ?_
    refine z_evL ?_
    rw [show (z_ur I 125 (z_fil (I 125) 0 k (fun c => (if 1000000000 < (I a c).toInt64 + (I b c).toInt64 then 1000000000 else (I a c).toInt64 + (I b c).toInt64).toInt32))) b k = I b k from (congrFun (z_ur_n _ _ hnb) _)]
    refine z_evG 3 (y := z_ret (z_cl E (d + 1) 170 [.long (((I a k).toInt64) + ((I b k).toInt64))] (161, ((z_ur I 125 (z_fil (I 125) 0 k (fun c => (if 1000000000 < (I a c).toInt64 + (I b c).toInt64 then 1000000000 else (I a c).toInt64 + (I b c).toInt64).toInt32))), J, RF w))) 22 [some (.ref a), some (.ref b), some (.ref 125), some (.int (nI k))] [.int (nI k), .ref 125]) (fun _ => rfl) ?_
    refine z_evK (v := .int ((if 1000000000 < (((I a k).toInt64) + ((I b k).toInt64)) then 1000000000 else (((I a k).toInt64) + ((I b k).toInt64))).toInt32)) (z' := 161) (σ' := ((z_ur I 125 (z_fil (I 125) 0 k (fun c => (if 1000000000 < (I a c).toInt64 + (I b c).toInt64 then 1000000000 else (I a c).toInt64 + (I b c).toInt64).toInt32))), J, RF w)) (x_limited E d (z_ur I 125 (z_fil (I 125) 0 k (fun c => (if 1000000000 < (I a c).toInt64 + (I b c).toInt64 then 1000000000 else (I a c).toInt64 + (I b c).toInt64).toInt32))) J w (((I a k).toInt64) + ((I b k).toInt64))) ?_
    refine z_evG 1 (y := z_ck (z_in (nI k) 8) (z_go 23 [some (.ref a), some (.ref b), some (.ref 125), some (.int (nI k))] [] 161 ((z_u2 (z_ur I 125 (z_fil (I 125) 0 k (fun c => (if 1000000000 < (I a c).toInt64 + (I b c).toInt64 then 1000000000 else (I a c).toInt64 + (I b c).toInt64).toInt32))) 125 ((nI k).toNatClampNeg) ((if 1000000000 < (((I a k).toInt64) + ((I b k).toInt64)) then 1000000000 else (((I a k).toInt64) + ((I b k).toInt64))).toInt32)), J, RF w))) (fun _ => rfl) ?_
    refine z_evC (z_inN (k := k) rfl (by omega) (by decide)) ?_
    refine z_evL ?_
    rw [show ((nI k : Int32)).toNatClampNeg = k from z_natE rfl (by omega)]
    refine z_evG 2 (y := z_go 2 [some (.ref a), some (.ref b), some (.ref 125), some (.int ((nI k) + 1))] [] 161 ((z_u2 (z_ur I 125 (z_fil (I 125) 0 k (fun c => (if 1000000000 < (I a c).toInt64 + (I b c).toInt64 then 1000000000 else (I a c).toInt64 + (I b c).toInt64).toInt32))) 125 k ((if 1000000000 < (((I a k).toInt64) + ((I b k).toInt64)) then 1000000000 else (((I a k).toInt64) + ((I b k).toInt64))).toInt32)), J, RF w)) (fun _ => rfl) ?_
    refine z_evL ?_
    have e := z_fil_s I 125 0 k (fun c => (if 1000000000 < (I a c).toInt64 + (I b c).toInt64 then 1000000000 else (I a c).toInt64 + (I b c).toInt64).toInt32)
    rw [Nat.zero_add] at e
    rw [nI_1 k, e]
    exact nx trivial
set_option maxRecDepth 20000 in
/-- LampHouse.both -/
theorem x_both_bad (E : zE) (d : Nat) (I : Nat → Nat → Int32) (J : Nat → Nat → Int64) (w : Nat) (a b : Int32) (hbad : ¬ ((¬ a < 0 ∧ a < I 43 1) ∧ (¬ b < 0 ∧ b < I 43 1))) : z_cl E (d + 3) 135 [.ref 0, .int a, .int b] (161, I, J, RF w) = some (some (.int (-2)), 161, I, J, RF w) := by
  refine z_call (d := d + 2) (M := z_m135) rfl rfl ?_
  refine z_evG 4 (y := z_ret (z_cl E (d + 2) 8 [.ref 43, .int a] (161, (I, J, RF w))) 8 [some (.ref 0), some (.int a), some (.int b)] []) (fun _ => rfl) ?_
  refine z_evK (v := .int (z_bo (¬ a < 0 ∧ a < I 43 1))) (z' := 161) (σ' := (I, J, RF w)) (x_lights_has E (d + 1) I J w a) ?_
  refine z_evG 1 (y := if (z_bo (¬ a < 0 ∧ a < I 43 1)) = 0 then z_go 22 [some (.ref 0), some (.int a), some (.int b)] [] 161 (I, J, RF w) else z_go 11 [some (.ref 0), some (.int a), some (.int b)] [] 161 (I, J, RF w)) (fun _ => rfl) ?_
  refine z_evO (fun h1 => ?_) (fun h1 => ?_)
  · refine z_evL ?_
    refine z_evG 2 (y := some (.inr (some (.int (-2)), 161, I, J, RF w))) (fun _ => rfl) ?_
    exact z_evR rfl
  · refine z_evL ?_
    refine z_evG 4 (y := z_ret (z_cl E (d + 2) 8 [.ref 43, .int b] (161, (I, J, RF w))) 19 [some (.ref 0), some (.int a), some (.int b)] []) (fun _ => rfl) ?_
    refine z_evK (v := .int (z_bo (¬ b < 0 ∧ b < I 43 1))) (z' := 161) (σ' := (I, J, RF w)) (x_lights_has E (d + 1) I J w b) ?_
    refine z_evG 1 (y := if (z_bo (¬ b < 0 ∧ b < I 43 1)) = 0 then z_go 22 [some (.ref 0), some (.int a), some (.int b)] [] 161 (I, J, RF w) else z_go 25 [some (.ref 0), some (.int a), some (.int b)] [] 161 (I, J, RF w)) (fun _ => rfl) ?_
    refine z_evO (fun h2 => ?_) (fun h2 => ?_)
    · refine z_evL ?_
      refine z_evG 2 (y := some (.inr (some (.int (-2)), 161, I, J, RF w))) (fun _ => rfl) ?_
      exact z_evR rfl
    · refine z_evL ?_
      exact absurd ⟨h1, h2⟩ hbad
set_option maxRecDepth 20000 in
/-- LampHouseModel.both -/
theorem m_both_bad (E : zE) (d : Nat) (I : Nat → Nat → Int32) (J : Nat → Nat → Int64) (w : Nat) (a b : Int32) (hbad : ¬ ((¬ a < 0 ∧ ¬ I 127 9 - 1 < a) ∧ (¬ b < 0 ∧ ¬ I 127 9 - 1 < b))) : z_cl E (d + 3) 193 [.ref 127, .int a, .int b] (161, I, J, RF w) = some (some (.int (-2)), 161, I, J, RF w) := by
  refine z_call (d := d + 2) (M := z_m193) rfl rfl ?_
  refine z_evG 3 (y := z_ret (z_cl E (d + 2) 184 [.ref 127, .int a] (161, (I, J, RF w))) 5 [some (.ref 127), some (.int a), some (.int b), none, none] []) (fun _ => rfl) ?_
  refine z_evK (v := .int (z_bo (¬ a < 0 ∧ ¬ I 127 9 - 1 < a))) (z' := 161) (σ' := (I, J, RF w)) (m_isLight E d I J w a) ?_
  refine z_evG 1 (y := if (z_bo (¬ a < 0 ∧ ¬ I 127 9 - 1 < a)) = 0 then z_go 16 [some (.ref 127), some (.int a), some (.int b), none, none] [] 161 (I, J, RF w) else z_go 8 [some (.ref 127), some (.int a), some (.int b), none, none] [] 161 (I, J, RF w)) (fun _ => rfl) ?_
  refine z_evO (fun h1 => ?_) (fun h1 => ?_)
  · refine z_evL ?_
    refine z_evG 2 (y := some (.inr (some (.int (-2)), 161, I, J, RF w))) (fun _ => rfl) ?_
    exact z_evR rfl
  · refine z_evL ?_
    refine z_evG 3 (y := z_ret (z_cl E (d + 2) 184 [.ref 127, .int b] (161, (I, J, RF w))) 13 [some (.ref 127), some (.int a), some (.int b), none, none] []) (fun _ => rfl) ?_
    refine z_evK (v := .int (z_bo (¬ b < 0 ∧ ¬ I 127 9 - 1 < b))) (z' := 161) (σ' := (I, J, RF w)) (m_isLight E d I J w b) ?_
    refine z_evG 1 (y := if (z_bo (¬ b < 0 ∧ ¬ I 127 9 - 1 < b)) = 0 then z_go 16 [some (.ref 127), some (.int a), some (.int b), none, none] [] 161 (I, J, RF w) else z_go 19 [some (.ref 127), some (.int a), some (.int b), none, none] [] 161 (I, J, RF w)) (fun _ => rfl) ?_
    refine z_evO (fun h2 => ?_) (fun h2 => ?_)
    · refine z_evL ?_
      refine z_evG 2 (y := some (.inr (some (.int (-2)), 161, I, J, RF w))) (fun _ => rfl) ?_
      exact z_evR rfl
    · refine z_evL ?_
      exact absurd ⟨h1, h2⟩ hbad
set_option maxRecDepth 20000 in
/-- LampHouse.both -/
theorem x_both_full (E : zE) (d : Nat) (I : Nat → Nat → Int32) (J : Nat → Nat → Int64) (w : Nat) (a b n : Nat) (h_n : I 43 1 = nI n) (hm_n : n ≤ 20) (hl_a : a < n) (hl_b : b < n) (hf : n = 20) : z_cl E (d + 3) 135 [.ref 0, .int (nI a), .int (nI b)] (161, I, J, RF w) = some (some (.int (-4)), 161, I, J, RF w) := by
  refine z_call (d := d + 2) (M := z_m135) rfl rfl ?_
  refine z_evG 4 (y := z_ret (z_cl E (d + 2) 8 [.ref 43, .int (nI a)] (161, (I, J, RF w))) 8 [some (.ref 0), some (.int (nI a)), some (.int (nI b))] []) (fun _ => rfl) ?_
  refine z_evK (v := .int (z_bo (¬ (nI a) < 0 ∧ (nI a) < I 43 1))) (z' := 161) (σ' := (I, J, RF w)) (x_lights_has E (d + 1) I J w (nI a)) ?_
  refine z_evG 1 (y := if (z_bo (¬ (nI a) < 0 ∧ (nI a) < I 43 1)) = 0 then z_go 22 [some (.ref 0), some (.int (nI a)), some (.int (nI b))] [] 161 (I, J, RF w) else z_go 11 [some (.ref 0), some (.int (nI a)), some (.int (nI b))] [] 161 (I, J, RF w)) (fun _ => rfl) ?_
  refine z_evF (fun q => z_bo_0.mp q ⟨(mt (show _ ↔ a < 0 from z_ltN rfl rfl (by omega) (by omega)).mp (by omega)), ((show _ ↔ a < n from z_ltN rfl h_n (by omega) (by omega)).mpr (by omega))⟩) ?_
  refine z_evL ?_
  refine z_evG 4 (y := z_ret (z_cl E (d + 2) 8 [.ref 43, .int (nI b)] (161, (I, J, RF w))) 19 [some (.ref 0), some (.int (nI a)), some (.int (nI b))] []) (fun _ => rfl) ?_
  refine z_evK (v := .int (z_bo (¬ (nI b) < 0 ∧ (nI b) < I 43 1))) (z' := 161) (σ' := (I, J, RF w)) (x_lights_has E (d + 1) I J w (nI b)) ?_
  refine z_evG 1 (y := if (z_bo (¬ (nI b) < 0 ∧ (nI b) < I 43 1)) = 0 then z_go 22 [some (.ref 0), some (.int (nI a)), some (.int (nI b))] [] 161 (I, J, RF w) else z_go 25 [some (.ref 0), some (.int (nI a)), some (.int (nI b))] [] 161 (I, J, RF w)) (fun _ => rfl) ?_
  refine z_evF (fun q => z_bo_0.mp q ⟨(mt (show _ ↔ b < 0 from z_ltN rfl rfl (by omega) (by omega)).mp (by omega)), ((show _ ↔ b < n from z_ltN rfl h_n (by omega) (by omega)).mpr (by omega))⟩) ?_
  refine z_evL ?_
  refine z_evG 3 (y := z_ret (z_cl E (d + 2) 10 [.ref 43] (161, (I, J, RF w))) 32 [some (.ref 0), some (.int (nI a)), some (.int (nI b))] []) (fun _ => rfl) ?_
  refine z_evK (v := .int (z_bo (¬ I 43 1 < 20))) (z' := 161) (σ' := (I, J, RF w)) (x_lights_isFull E (d + 1) I J w) ?_
  refine z_evG 1 (y := if (z_bo (¬ I 43 1 < 20)) = 0 then z_go 38 [some (.ref 0), some (.int (nI a)), some (.int (nI b))] [] 161 (I, J, RF w) else z_go 35 [some (.ref 0), some (.int (nI a)), some (.int (nI b))] [] 161 (I, J, RF w)) (fun _ => rfl) ?_
  refine z_evF (fun q => z_bo_0.mp q (mt (show _ ↔ n < 20 from z_ltN h_n rfl (by omega) (by omega)).mp (by omega))) ?_
  refine z_evL ?_
  refine z_evG 2 (y := some (.inr (some (.int (-4)), 161, I, J, RF w))) (fun _ => rfl) ?_
  exact z_evR rfl
set_option maxRecDepth 20000 in
/-- LampHouseModel.both -/
theorem m_both_full (E : zE) (d : Nat) (I : Nat → Nat → Int32) (J : Nat → Nat → Int64) (w : Nat) (a b n : Nat) (h_n : I 127 9 = nI n) (hm_n : n ≤ 20) (hl_a : a < n) (hl_b : b < n) (hf : n = 20) : z_cl E (d + 3) 193 [.ref 127, .int (nI a), .int (nI b)] (161, I, J, RF w) = some (some (.int (-4)), 161, I, J, RF w) := by
  refine z_call (d := d + 2) (M := z_m193) rfl rfl ?_
  refine z_evG 3 (y := z_ret (z_cl E (d + 2) 184 [.ref 127, .int (nI a)] (161, (I, J, RF w))) 5 [some (.ref 127), some (.int (nI a)), some (.int (nI b)), none, none] []) (fun _ => rfl) ?_
  refine z_evK (v := .int (z_bo (¬ (nI a) < 0 ∧ ¬ I 127 9 - 1 < (nI a)))) (z' := 161) (σ' := (I, J, RF w)) (m_isLight E d I J w (nI a)) ?_
  refine z_evG 1 (y := if (z_bo (¬ (nI a) < 0 ∧ ¬ I 127 9 - 1 < (nI a))) = 0 then z_go 16 [some (.ref 127), some (.int (nI a)), some (.int (nI b)), none, none] [] 161 (I, J, RF w) else z_go 8 [some (.ref 127), some (.int (nI a)), some (.int (nI b)), none, none] [] 161 (I, J, RF w)) (fun _ => rfl) ?_
  refine z_evF (fun q => z_bo_0.mp q ⟨(mt (show _ ↔ a < 0 from z_ltN rfl rfl (by omega) (by omega)).mp (by omega)), (z_plt h_n rfl (by omega) (by omega))⟩) ?_
  refine z_evL ?_
  refine z_evG 3 (y := z_ret (z_cl E (d + 2) 184 [.ref 127, .int (nI b)] (161, (I, J, RF w))) 13 [some (.ref 127), some (.int (nI a)), some (.int (nI b)), none, none] []) (fun _ => rfl) ?_
  refine z_evK (v := .int (z_bo (¬ (nI b) < 0 ∧ ¬ I 127 9 - 1 < (nI b)))) (z' := 161) (σ' := (I, J, RF w)) (m_isLight E d I J w (nI b)) ?_
  refine z_evG 1 (y := if (z_bo (¬ (nI b) < 0 ∧ ¬ I 127 9 - 1 < (nI b))) = 0 then z_go 16 [some (.ref 127), some (.int (nI a)), some (.int (nI b)), none, none] [] 161 (I, J, RF w) else z_go 19 [some (.ref 127), some (.int (nI a)), some (.int (nI b)), none, none] [] 161 (I, J, RF w)) (fun _ => rfl) ?_
  refine z_evF (fun q => z_bo_0.mp q ⟨(mt (show _ ↔ b < 0 from z_ltN rfl rfl (by omega) (by omega)).mp (by omega)), (z_plt h_n rfl (by omega) (by omega))⟩) ?_
  refine z_evL ?_
  refine z_evG 4 (y := if (I 127 9) = 20 then z_go 28 [some (.ref 127), some (.int (nI a)), some (.int (nI b)), none, none] [] 161 (I, J, RF w) else z_go 31 [some (.ref 127), some (.int (nI a)), some (.int (nI b)), none, none] [] 161 (I, J, RF w)) (fun _ => rfl) ?_
  refine z_evT (((show _ ↔ n = 20 from z_eqN h_n rfl (by omega) (by omega)).mpr (by omega))) ?_
  refine z_evL ?_
  refine z_evG 2 (y := some (.inr (some (.int (-4)), 161, I, J, RF w))) (fun _ => rfl) ?_
  exact z_evR rfl
set_option maxRecDepth 20000 in
/-- LampHouse.both -/
theorem x_both_ok (E : zE) (d : Nat) (I : Nat → Nat → Int32) (J : Nat → Nat → Int64) (w : Nat) (a b n : Nat) (h_n : I 43 1 = nI n) (hm_n : n ≤ 20) (hl_a : a < n) (hl_b : b < n) (hf : n < 20) : z_cl E (d + 3) 135 [.ref 0, .int (nI a), .int (nI b)] (161, I, J, RF w) = some (some (.int (nI n)), 161, (z_u2 (z_ur (z_ur I 125 (z_fil (I 125) 0 8 (fun c => (if 1000000000 < (I (45 + a) c).toInt64 + (I (45 + b) c).toInt64 then 1000000000 else (I (45 + a) c).toInt64 + (I (45 + b) c).toInt64).toInt32))) (45 + n) (va_cpy ((z_ur I 125 (z_fil (I 125) 0 8 (fun c => (if 1000000000 < (I (45 + a) c).toInt64 + (I (45 + b) c).toInt64 then 1000000000 else (I (45 + a) c).toInt64 + (I (45 + b) c).toInt64).toInt32))) 125) ((z_ur I 125 (z_fil (I 125) 0 8 (fun c => (if 1000000000 < (I (45 + a) c).toInt64 + (I (45 + b) c).toInt64 then 1000000000 else (I (45 + a) c).toInt64 + (I (45 + b) c).toInt64).toInt32))) (45 + n)) 0 0 8)) 43 1 (nI (n + 1))), J, RF w) := by
  refine z_call (d := d + 2) (M := z_m135) rfl rfl ?_
  refine z_evG 4 (y := z_ret (z_cl E (d + 2) 8 [.ref 43, .int (nI a)] (161, (I, J, RF w))) 8 [some (.ref 0), some (.int (nI a)), some (.int (nI b))] []) (fun _ => rfl) ?_
  refine z_evK (v := .int (z_bo (¬ (nI a) < 0 ∧ (nI a) < I 43 1))) (z' := 161) (σ' := (I, J, RF w)) (x_lights_has E (d + 1) I J w (nI a)) ?_
  refine z_evG 1 (y := if (z_bo (¬ (nI a) < 0 ∧ (nI a) < I 43 1)) = 0 then z_go 22 [some (.ref 0), some (.int (nI a)), some (.int (nI b))] [] 161 (I, J, RF w) else z_go 11 [some (.ref 0), some (.int (nI a)), some (.int (nI b))] [] 161 (I, J, RF w)) (fun _ => rfl) ?_
  refine z_evF (fun q => z_bo_0.mp q ⟨(mt (show _ ↔ a < 0 from z_ltN rfl rfl (by omega) (by omega)).mp (by omega)), ((show _ ↔ a < n from z_ltN rfl h_n (by omega) (by omega)).mpr (by omega))⟩) ?_
  refine z_evL ?_
  refine z_evG 4 (y := z_ret (z_cl E (d + 2) 8 [.ref 43, .int (nI b)] (161, (I, J, RF w))) 19 [some (.ref 0), some (.int (nI a)), some (.int (nI b))] []) (fun _ => rfl) ?_
  refine z_evK (v := .int (z_bo (¬ (nI b) < 0 ∧ (nI b) < I 43 1))) (z' := 161) (σ' := (I, J, RF w)) (x_lights_has E (d + 1) I J w (nI b)) ?_
  refine z_evG 1 (y := if (z_bo (¬ (nI b) < 0 ∧ (nI b) < I 43 1)) = 0 then z_go 22 [some (.ref 0), some (.int (nI a)), some (.int (nI b))] [] 161 (I, J, RF w) else z_go 25 [some (.ref 0), some (.int (nI a)), some (.int (nI b))] [] 161 (I, J, RF w)) (fun _ => rfl) ?_
  refine z_evF (fun q => z_bo_0.mp q ⟨(mt (show _ ↔ b < 0 from z_ltN rfl rfl (by omega) (by omega)).mp (by omega)), ((show _ ↔ b < n from z_ltN rfl h_n (by omega) (by omega)).mpr (by omega))⟩) ?_
  refine z_evL ?_
  refine z_evG 3 (y := z_ret (z_cl E (d + 2) 10 [.ref 43] (161, (I, J, RF w))) 32 [some (.ref 0), some (.int (nI a)), some (.int (nI b))] []) (fun _ => rfl) ?_
  refine z_evK (v := .int (z_bo (¬ I 43 1 < 20))) (z' := 161) (σ' := (I, J, RF w)) (x_lights_isFull E (d + 1) I J w) ?_
  refine z_evG 1 (y := if (z_bo (¬ I 43 1 < 20)) = 0 then z_go 38 [some (.ref 0), some (.int (nI a)), some (.int (nI b))] [] 161 (I, J, RF w) else z_go 35 [some (.ref 0), some (.int (nI a)), some (.int (nI b))] [] 161 (I, J, RF w)) (fun _ => rfl) ?_
  refine z_evT (z_bo_0.mpr (fun q => q ((show _ ↔ n < 20 from z_ltN h_n rfl (by omega) (by omega)).mpr (by omega)))) ?_
  refine z_evL ?_
  refine z_evG 4 (y := z_ret (z_cl E (d + 2) 11 [.ref 43, .int (nI a)] (161, (I, J, RF w))) 46 [some (.ref 0), some (.int (nI a)), some (.int (nI b))] []) (fun _ => rfl) ?_
  refine z_evK (v := .ref (45 + a)) (z' := 161) (σ' := (I, J, RF w)) (x_lights_getN E (d + 1) I J w a (by omega)) ?_
  refine z_evG 4 (y := z_ret (z_cl E (d + 2) 11 [.ref 43, .int (nI b)] (161, (I, J, RF w))) 54 [some (.ref 0), some (.int (nI a)), some (.int (nI b))] [.ref (45 + a)]) (fun _ => rfl) ?_
  refine z_evK (v := .ref (45 + b)) (z' := 161) (σ' := (I, J, RF w)) (x_lights_getN E (d + 1) I J w b (by omega)) ?_
  refine z_evG 3 (y := z_ret (z_cl E (d + 2) 171 [.ref (45 + a), .ref (45 + b), .ref 125] (161, (I, J, RF w))) 61 [some (.ref 0), some (.int (nI a)), some (.int (nI b))] []) (fun _ => rfl) ?_
  refine z_evV (z' := 161) (σ' := ((z_ur I 125 (z_fil (I 125) 0 8 (fun c => (if 1000000000 < (I (45 + a) c).toInt64 + (I (45 + b) c).toInt64 then 1000000000 else (I (45 + a) c).toInt64 + (I (45 + b) c).toInt64).toInt32))), J, RF w)) (x_join E d I J w (45 + a) (45 + b) (z_A_lights a (by omega)) (z_A_lights b (by omega)) (by omega) (by omega)) ?_
  refine z_evG 5 (y := z_ret (z_cl E (d + 2) 12 [.ref 43, .ref 125] (161, ((z_ur I 125 (z_fil (I 125) 0 8 (fun c => (if 1000000000 < (I (45 + a) c).toInt64 + (I (45 + b) c).toInt64 then 1000000000 else (I (45 + a) c).toInt64 + (I (45 + b) c).toInt64).toInt32))), J, RF w))) 72 [some (.ref 0), some (.int (nI a)), some (.int (nI b))] []) (fun _ => rfl) ?_
  refine z_evK (v := .int (nI n)) (z' := 161) (σ' := ((z_u2 (z_ur (z_ur I 125 (z_fil (I 125) 0 8 (fun c => (if 1000000000 < (I (45 + a) c).toInt64 + (I (45 + b) c).toInt64 then 1000000000 else (I (45 + a) c).toInt64 + (I (45 + b) c).toInt64).toInt32))) (45 + n) (va_cpy ((z_ur I 125 (z_fil (I 125) 0 8 (fun c => (if 1000000000 < (I (45 + a) c).toInt64 + (I (45 + b) c).toInt64 then 1000000000 else (I (45 + a) c).toInt64 + (I (45 + b) c).toInt64).toInt32))) 125) ((z_ur I 125 (z_fil (I 125) 0 8 (fun c => (if 1000000000 < (I (45 + a) c).toInt64 + (I (45 + b) c).toInt64 then 1000000000 else (I (45 + a) c).toInt64 + (I (45 + b) c).toInt64).toInt32))) (45 + n)) 0 0 8)) 43 1 (nI (n + 1))), J, RF w)) (x_lights_add E (d + 1) (z_ur I 125 (z_fil (I 125) 0 8 (fun c => (if 1000000000 < (I (45 + a) c).toInt64 + (I (45 + b) c).toInt64 then 1000000000 else (I (45 + a) c).toInt64 + (I (45 + b) c).toInt64).toInt32))) J w 125 n z_A_125 h_n (by omega)) ?_
  refine z_evG 1 (y := some (.inr (some (.int (nI n)), 161, (z_u2 (z_ur (z_ur I 125 (z_fil (I 125) 0 8 (fun c => (if 1000000000 < (I (45 + a) c).toInt64 + (I (45 + b) c).toInt64 then 1000000000 else (I (45 + a) c).toInt64 + (I (45 + b) c).toInt64).toInt32))) (45 + n) (va_cpy ((z_ur I 125 (z_fil (I 125) 0 8 (fun c => (if 1000000000 < (I (45 + a) c).toInt64 + (I (45 + b) c).toInt64 then 1000000000 else (I (45 + a) c).toInt64 + (I (45 + b) c).toInt64).toInt32))) 125) ((z_ur I 125 (z_fil (I 125) 0 8 (fun c => (if 1000000000 < (I (45 + a) c).toInt64 + (I (45 + b) c).toInt64 then 1000000000 else (I (45 + a) c).toInt64 + (I (45 + b) c).toInt64).toInt32))) (45 + n)) 0 0 8)) 43 1 (nI (n + 1))), J, RF w))) (fun _ => rfl) ?_
  exact z_evR rfl
