-- ROWS AND LIGHTS, by the class and by the reference
set_option maxRecDepth 20000 in
/-- LampHouse$Eights.add -/
theorem x_rows_add (E : zE) (d : Nat) (I : Nat → Nat → Int32) (J : Nat → Nat → Int64) (w : Nat) (a n : Nat) (ha : z_A a 8) (hs : I 1 1 = nI n) (hn : n < 30) : z_cl E (d + 1) 12 [.ref 1, .ref a] (161, I, J, RF w) = some (some (.int (nI n)), 161, (z_u2 (z_ur I (3 + n) (va_cpy (I a) (I (3 + n)) 0 0 8)) 1 1 (nI (n + 1))), J, RF w) := by
  refine z_call (d := d + 0) (M := z_m12) rfl rfl ?_
  refine z_evG 7 (y := z_ck (z_in (I 1 1) 30) (z_go 11 [some (.ref 1), some (.ref a)] [.ref (3 + (I 1 1).toNatClampNeg), .int 0, .ref a] 161 (I, J, RF w))) (fun _ => rfl) ?_
  refine z_evC (z_inN (k := n) hs (by omega) (by decide)) ?_
  refine z_evL ?_
  rw [show ((I 1 1 : Int32)).toNatClampNeg = n from z_natE hs (by omega)]
  refine z_evG 3 (y := z_copy E 161 (I, J, RF w) a (3 + n) 0 0 8 fun z σ => z_go 17 [some (.ref 1), some (.ref a)] [] z σ) (fun _ => rfl) ?_
  refine z_evY (N := 8) (f := (I a)) (z_iaA ha) (z_cpA (z_A_rows n (by omega)) (by decide)) ?_
  refine z_evL ?_
  refine z_evG 8 (y := some (.inr (some (.int ((z_ur I (3 + n) (va_cpy (I a) (I (3 + n)) 0 0 8)) 1 1)), 161, (z_u2 (z_ur I (3 + n) (va_cpy (I a) (I (3 + n)) 0 0 8)) 1 1 (((z_ur I (3 + n) (va_cpy (I a) (I (3 + n)) 0 0 8)) 1 1) + 1)), J, RF w))) (fun _ => rfl) ?_
  rw [show (z_ur I (3 + n) (va_cpy (I a) (I (3 + n)) 0 0 8)) 1 1 = nI n from (by rw [z_ur_n _ _ (by omega)]; exact hs), nI_1]
  exact z_evR rfl
set_option maxRecDepth 20000 in
/-- LampHouse$Eights.add -/
theorem x_lights_add (E : zE) (d : Nat) (I : Nat → Nat → Int32) (J : Nat → Nat → Int64) (w : Nat) (a n : Nat) (ha : z_A a 8) (hs : I 43 1 = nI n) (hn : n < 20) : z_cl E (d + 1) 12 [.ref 43, .ref a] (161, I, J, RF w) = some (some (.int (nI n)), 161, (z_u2 (z_ur I (45 + n) (va_cpy (I a) (I (45 + n)) 0 0 8)) 43 1 (nI (n + 1))), J, RF w) := by
  refine z_call (d := d + 0) (M := z_m12) rfl rfl ?_
  refine z_evG 7 (y := z_ck (z_in (I 43 1) 20) (z_go 11 [some (.ref 43), some (.ref a)] [.ref (45 + (I 43 1).toNatClampNeg), .int 0, .ref a] 161 (I, J, RF w))) (fun _ => rfl) ?_
  refine z_evC (z_inN (k := n) hs (by omega) (by decide)) ?_
  refine z_evL ?_
  rw [show ((I 43 1 : Int32)).toNatClampNeg = n from z_natE hs (by omega)]
  refine z_evG 3 (y := z_copy E 161 (I, J, RF w) a (45 + n) 0 0 8 fun z σ => z_go 17 [some (.ref 43), some (.ref a)] [] z σ) (fun _ => rfl) ?_
  refine z_evY (N := 8) (f := (I a)) (z_iaA ha) (z_cpA (z_A_lights n (by omega)) (by decide)) ?_
  refine z_evL ?_
  refine z_evG 8 (y := some (.inr (some (.int ((z_ur I (45 + n) (va_cpy (I a) (I (45 + n)) 0 0 8)) 43 1)), 161, (z_u2 (z_ur I (45 + n) (va_cpy (I a) (I (45 + n)) 0 0 8)) 43 1 (((z_ur I (45 + n) (va_cpy (I a) (I (45 + n)) 0 0 8)) 43 1) + 1)), J, RF w))) (fun _ => rfl) ?_
  rw [show (z_ur I (45 + n) (va_cpy (I a) (I (45 + n)) 0 0 8)) 43 1 = nI n from (by rw [z_ur_n _ _ (by omega)]; exact hs), nI_1]
  exact z_evR rfl
set_option maxRecDepth 20000 in
/-- LampHouse.rowTold -/
theorem x_rowTold_bad (E : zE) (d : Nat) (I : Nat → Nat → Int32) (J : Nat → Nat → Int64) (w : Nat) (i c : Int32) (hbad : ¬ ((¬ i < 0 ∧ i < I 1 1) ∧ (¬ c < 0 ∧ c < 8))) : z_cl E (d + 2) 130 [.ref 0, .int i, .int c] (161, I, J, RF w) = some (some (.int (-2)), 161, I, J, RF w) := by
  refine z_call (d := d + 1) (M := z_m130) rfl rfl ?_
  refine z_evG 4 (y := z_ret (z_cl E (d + 1) 8 [.ref 1, .int i] (161, (I, J, RF w))) 8 [some (.ref 0), some (.int i), some (.int c)] []) (fun _ => rfl) ?_
  refine z_evK (v := .int (z_bo (¬ i < 0 ∧ i < I 1 1))) (z' := 161) (σ' := (I, J, RF w)) (x_rows_has E d I J w i) ?_
  refine z_evG 1 (y := if (z_bo (¬ i < 0 ∧ i < I 1 1)) = 0 then z_go 31 [some (.ref 0), some (.int i), some (.int c)] [] 161 (I, J, RF w) else z_go 11 [some (.ref 0), some (.int i), some (.int c)] [] 161 (I, J, RF w)) (fun _ => rfl) ?_
  refine z_evO (fun h1 => ?_) (fun h1 => ?_)
  · refine z_evL ?_
    refine z_evG 2 (y := some (.inr (some (.int (-2)), 161, I, J, RF w))) (fun _ => rfl) ?_
    exact z_evR rfl
  · refine z_evL ?_
    refine z_evG 2 (y := z_ret (z_cl E (d + 1) 172 [.int c] (161, (I, J, RF w))) 15 [some (.ref 0), some (.int i), some (.int c)] []) (fun _ => rfl) ?_
    refine z_evK (v := .int (z_bo (¬ c < 0 ∧ c < 8))) (z' := 161) (σ' := (I, J, RF w)) (x_isColour E d I J w c) ?_
    refine z_evG 1 (y := if (z_bo (¬ c < 0 ∧ c < 8)) = 0 then z_go 31 [some (.ref 0), some (.int i), some (.int c)] [] 161 (I, J, RF w) else z_go 18 [some (.ref 0), some (.int i), some (.int c)] [] 161 (I, J, RF w)) (fun _ => rfl) ?_
    refine z_evO (fun h2 => ?_) (fun h2 => ?_)
    · refine z_evL ?_
      refine z_evG 2 (y := some (.inr (some (.int (-2)), 161, I, J, RF w))) (fun _ => rfl) ?_
      exact z_evR rfl
    · refine z_evL ?_
      exact absurd ⟨h1, h2⟩ hbad
set_option maxRecDepth 20000 in
/-- LampHouse.rowTold -/
theorem x_rowTold_ok (E : zE) (d : Nat) (I : Nat → Nat → Int32) (J : Nat → Nat → Int64) (w : Nat) (i c n : Nat) (hn : I 1 1 = nI n) (hm : n ≤ 30) (hi : i < n) (hc : c < 8) : z_cl E (d + 2) 130 [.ref 0, .int (nI i), .int (nI c)] (161, I, J, RF w) = some (some (.int (I (3 + i) c)), 161, I, J, RF w) := by
  refine z_call (d := d + 1) (M := z_m130) rfl rfl ?_
  refine z_evG 4 (y := z_ret (z_cl E (d + 1) 8 [.ref 1, .int (nI i)] (161, (I, J, RF w))) 8 [some (.ref 0), some (.int (nI i)), some (.int (nI c))] []) (fun _ => rfl) ?_
  refine z_evK (v := .int (z_bo (¬ (nI i) < 0 ∧ (nI i) < I 1 1))) (z' := 161) (σ' := (I, J, RF w)) (x_rows_has E d I J w (nI i)) ?_
  refine z_evG 1 (y := if (z_bo (¬ (nI i) < 0 ∧ (nI i) < I 1 1)) = 0 then z_go 31 [some (.ref 0), some (.int (nI i)), some (.int (nI c))] [] 161 (I, J, RF w) else z_go 11 [some (.ref 0), some (.int (nI i)), some (.int (nI c))] [] 161 (I, J, RF w)) (fun _ => rfl) ?_
  refine z_evF (fun q => z_bo_0.mp q ⟨(mt (show _ ↔ i < 0 from z_ltN rfl rfl (by omega) (by omega)).mp (by omega)), ((show _ ↔ i < n from z_ltN rfl hn (by omega) (by omega)).mpr (by omega))⟩) ?_
  refine z_evL ?_
  refine z_evG 2 (y := z_ret (z_cl E (d + 1) 172 [.int (nI c)] (161, (I, J, RF w))) 15 [some (.ref 0), some (.int (nI i)), some (.int (nI c))] []) (fun _ => rfl) ?_
  refine z_evK (v := .int (z_bo (¬ (nI c) < 0 ∧ (nI c) < 8))) (z' := 161) (σ' := (I, J, RF w)) (x_isColour E d I J w (nI c)) ?_
  refine z_evG 1 (y := if (z_bo (¬ (nI c) < 0 ∧ (nI c) < 8)) = 0 then z_go 31 [some (.ref 0), some (.int (nI i)), some (.int (nI c))] [] 161 (I, J, RF w) else z_go 18 [some (.ref 0), some (.int (nI i)), some (.int (nI c))] [] 161 (I, J, RF w)) (fun _ => rfl) ?_
  refine z_evF (fun q => z_bo_0.mp q ⟨(mt (show _ ↔ c < 0 from z_ltN rfl rfl (by omega) (by omega)).mp (by omega)), ((show _ ↔ c < 8 from z_ltN rfl rfl (by omega) (by omega)).mpr (by omega))⟩) ?_
  refine z_evL ?_
  refine z_evG 4 (y := z_ret (z_cl E (d + 1) 11 [.ref 1, .int (nI i)] (161, (I, J, RF w))) 26 [some (.ref 0), some (.int (nI i)), some (.int (nI c))] []) (fun _ => rfl) ?_
  refine z_evK (v := .ref (3 + i)) (z' := 161) (σ' := (I, J, RF w)) (x_rows_getN E d I J w i (by omega)) ?_
  refine z_evG 2 (y := z_ild (z_ia E 161 (I, J, RF w) (3 + i)) (nI c) fun vv => z_go 28 [some (.ref 0), some (.int (nI i)), some (.int (nI c))] [.int vv] 161 (I, J, RF w)) (fun _ => rfl) ?_
  refine z_evBn (N := 8) (f := (I (3 + i))) (k := c) (z_iaA (z_A_rows i (by omega))) rfl (by omega) ?_
  refine z_evL ?_
  refine z_evG 2 (y := some (.inr (some (.int (I (3 + i) c)), 161, I, J, RF w))) (fun _ => rfl) ?_
  exact z_evR rfl
set_option maxRecDepth 20000 in
/-- LampHouseModel.rowTold -/
theorem m_rowTold_bad (E : zE) (d : Nat) (I : Nat → Nat → Int32) (J : Nat → Nat → Int64) (w : Nat) (i c : Int32) (hbad : ¬ ((¬ i < 0 ∧ ¬ I 127 1 - 1 < i) ∧ (¬ c < 0 ∧ ¬ 7 < c))) : z_cl E (d + 3) 186 [.ref 127, .int i, .int c] (161, I, J, RF w) = some (some (.int (-2)), 161, I, J, RF w) := by
  refine z_call (d := d + 2) (M := z_m186) rfl rfl ?_
  refine z_evG 3 (y := z_ret (z_cl E (d + 2) 182 [.ref 127, .int i] (161, (I, J, RF w))) 5 [some (.ref 127), some (.int i), some (.int c)] []) (fun _ => rfl) ?_
  refine z_evK (v := .int (z_bo (¬ i < 0 ∧ ¬ I 127 1 - 1 < i))) (z' := 161) (σ' := (I, J, RF w)) (m_isRow E d I J w i) ?_
  refine z_evG 1 (y := if (z_bo (¬ i < 0 ∧ ¬ I 127 1 - 1 < i)) = 0 then z_go 32 [some (.ref 127), some (.int i), some (.int c)] [] 161 (I, J, RF w) else z_go 8 [some (.ref 127), some (.int i), some (.int c)] [] 161 (I, J, RF w)) (fun _ => rfl) ?_
  refine z_evO (fun h1 => ?_) (fun h1 => ?_)
  · refine z_evL ?_
    refine z_evG 2 (y := some (.inr (some (.int (-2)), 161, I, J, RF w))) (fun _ => rfl) ?_
    exact z_evR rfl
  · refine z_evL ?_
    refine z_evG 4 (y := z_ret (z_cl E (d + 2) 178 [.int c, .int 0, .int 7] (161, (I, J, RF w))) 15 [some (.ref 127), some (.int i), some (.int c)] []) (fun _ => rfl) ?_
    refine z_evK (v := .int (z_bo (¬ c < 0 ∧ ¬ 7 < c))) (z' := 161) (σ' := (I, J, RF w)) (m_in E (d + 1) I J w c 0 7) ?_
    refine z_evG 1 (y := if (z_bo (¬ c < 0 ∧ ¬ 7 < c)) = 0 then z_go 32 [some (.ref 127), some (.int i), some (.int c)] [] 161 (I, J, RF w) else z_go 18 [some (.ref 127), some (.int i), some (.int c)] [] 161 (I, J, RF w)) (fun _ => rfl) ?_
    refine z_evO (fun h2 => ?_) (fun h2 => ?_)
    · refine z_evL ?_
      refine z_evG 2 (y := some (.inr (some (.int (-2)), 161, I, J, RF w))) (fun _ => rfl) ?_
      exact z_evR rfl
    · refine z_evL ?_
      exact absurd ⟨h1, h2⟩ hbad
set_option maxRecDepth 20000 in
/-- LampHouseModel.rowTold -/
theorem m_rowTold_ok (E : zE) (d : Nat) (I : Nat → Nat → Int32) (J : Nat → Nat → Int64) (w : Nat) (i c n : Nat) (hn : I 127 1 = nI n) (hm : n ≤ 30) (hi : i < n) (hc : c < 8) : z_cl E (d + 3) 186 [.ref 127, .int (nI i), .int (nI c)] (161, I, J, RF w) = some (some (.int (I 128 (8 * i + c))), 161, I, J, RF w) := by
  refine z_call (d := d + 2) (M := z_m186) rfl rfl ?_
  refine z_evG 3 (y := z_ret (z_cl E (d + 2) 182 [.ref 127, .int (nI i)] (161, (I, J, RF w))) 5 [some (.ref 127), some (.int (nI i)), some (.int (nI c))] []) (fun _ => rfl) ?_
  refine z_evK (v := .int (z_bo (¬ (nI i) < 0 ∧ ¬ I 127 1 - 1 < (nI i)))) (z' := 161) (σ' := (I, J, RF w)) (m_isRow E d I J w (nI i)) ?_
  refine z_evG 1 (y := if (z_bo (¬ (nI i) < 0 ∧ ¬ I 127 1 - 1 < (nI i))) = 0 then z_go 32 [some (.ref 127), some (.int (nI i)), some (.int (nI c))] [] 161 (I, J, RF w) else z_go 8 [some (.ref 127), some (.int (nI i)), some (.int (nI c))] [] 161 (I, J, RF w)) (fun _ => rfl) ?_
  refine z_evF (fun q => z_bo_0.mp q ⟨(mt (show _ ↔ i < 0 from z_ltN rfl rfl (by omega) (by omega)).mp (by omega)), (z_plt hn rfl (by omega) (by omega))⟩) ?_
  refine z_evL ?_
  refine z_evG 4 (y := z_ret (z_cl E (d + 2) 178 [.int (nI c), .int 0, .int 7] (161, (I, J, RF w))) 15 [some (.ref 127), some (.int (nI i)), some (.int (nI c))] []) (fun _ => rfl) ?_
  refine z_evK (v := .int (z_bo (¬ (nI c) < 0 ∧ ¬ 7 < (nI c)))) (z' := 161) (σ' := (I, J, RF w)) (m_in E (d + 1) I J w (nI c) 0 7) ?_
  refine z_evG 1 (y := if (z_bo (¬ (nI c) < 0 ∧ ¬ 7 < (nI c))) = 0 then z_go 32 [some (.ref 127), some (.int (nI i)), some (.int (nI c))] [] 161 (I, J, RF w) else z_go 18 [some (.ref 127), some (.int (nI i)), some (.int (nI c))] [] 161 (I, J, RF w)) (fun _ => rfl) ?_
  refine z_evF (fun q => z_bo_0.mp q ⟨(mt (show _ ↔ c < 0 from z_ltN rfl rfl (by omega) (by omega)).mp (by omega)), (mt (show _ ↔ 7 < c from z_ltN rfl rfl (by omega) (by omega)).mp (by omega))⟩) ?_
  refine z_evL ?_
  refine z_evG 8 (y := z_ild (z_ia E 161 (I, J, RF w) 128) ((8 * (nI i)) + (nI c)) fun vv => z_go 29 [some (.ref 127), some (.int (nI i)), some (.int (nI c))] [.int vv] 161 (I, J, RF w)) (fun _ => rfl) ?_
  refine z_evBn (N := 240) (f := (I 128)) (k := (8 * i + c)) rfl (z_addE (z_mulE rfl rfl) rfl) (by omega) ?_
  refine z_evL ?_
  refine z_evG 2 (y := some (.inr (some (.int (I 128 (8 * i + c))), 161, I, J, RF w))) (fun _ => rfl) ?_
  exact z_evR rfl
set_option maxRecDepth 20000 in
/-- LampHouse.lightTold -/
theorem x_lightTold_bad (E : zE) (d : Nat) (I : Nat → Nat → Int32) (J : Nat → Nat → Int64) (w : Nat) (i c : Int32) (hbad : ¬ ((¬ i < 0 ∧ i < I 43 1) ∧ (¬ c < 0 ∧ c < 8))) : z_cl E (d + 2) 136 [.ref 0, .int i, .int c] (161, I, J, RF w) = some (some (.int (-2)), 161, I, J, RF w) := by
  refine z_call (d := d + 1) (M := z_m136) rfl rfl ?_
  refine z_evG 4 (y := z_ret (z_cl E (d + 1) 8 [.ref 43, .int i] (161, (I, J, RF w))) 8 [some (.ref 0), some (.int i), some (.int c)] []) (fun _ => rfl) ?_
  refine z_evK (v := .int (z_bo (¬ i < 0 ∧ i < I 43 1))) (z' := 161) (σ' := (I, J, RF w)) (x_lights_has E d I J w i) ?_
  refine z_evG 1 (y := if (z_bo (¬ i < 0 ∧ i < I 43 1)) = 0 then z_go 31 [some (.ref 0), some (.int i), some (.int c)] [] 161 (I, J, RF w) else z_go 11 [some (.ref 0), some (.int i), some (.int c)] [] 161 (I, J, RF w)) (fun _ => rfl) ?_
  refine z_evO (fun h1 => ?_) (fun h1 => ?_)
  · refine z_evL ?_
    refine z_evG 2 (y := some (.inr (some (.int (-2)), 161, I, J, RF w))) (fun _ => rfl) ?_
    exact z_evR rfl
  · refine z_evL ?_
    refine z_evG 2 (y := z_ret (z_cl E (d + 1) 172 [.int c] (161, (I, J, RF w))) 15 [some (.ref 0), some (.int i), some (.int c)] []) (fun _ => rfl) ?_
    refine z_evK (v := .int (z_bo (¬ c < 0 ∧ c < 8))) (z' := 161) (σ' := (I, J, RF w)) (x_isColour E d I J w c) ?_
    refine z_evG 1 (y := if (z_bo (¬ c < 0 ∧ c < 8)) = 0 then z_go 31 [some (.ref 0), some (.int i), some (.int c)] [] 161 (I, J, RF w) else z_go 18 [some (.ref 0), some (.int i), some (.int c)] [] 161 (I, J, RF w)) (fun _ => rfl) ?_
    refine z_evO (fun h2 => ?_) (fun h2 => ?_)
    · refine z_evL ?_
      refine z_evG 2 (y := some (.inr (some (.int (-2)), 161, I, J, RF w))) (fun _ => rfl) ?_
      exact z_evR rfl
    · refine z_evL ?_
      exact absurd ⟨h1, h2⟩ hbad
set_option maxRecDepth 20000 in
/-- LampHouse.lightTold -/
theorem x_lightTold_ok (E : zE) (d : Nat) (I : Nat → Nat → Int32) (J : Nat → Nat → Int64) (w : Nat) (i c n : Nat) (hn : I 43 1 = nI n) (hm : n ≤ 20) (hi : i < n) (hc : c < 8) : z_cl E (d + 2) 136 [.ref 0, .int (nI i), .int (nI c)] (161, I, J, RF w) = some (some (.int (I (45 + i) c)), 161, I, J, RF w) := by
  refine z_call (d := d + 1) (M := z_m136) rfl rfl ?_
  refine z_evG 4 (y := z_ret (z_cl E (d + 1) 8 [.ref 43, .int (nI i)] (161, (I, J, RF w))) 8 [some (.ref 0), some (.int (nI i)), some (.int (nI c))] []) (fun _ => rfl) ?_
  refine z_evK (v := .int (z_bo (¬ (nI i) < 0 ∧ (nI i) < I 43 1))) (z' := 161) (σ' := (I, J, RF w)) (x_lights_has E d I J w (nI i)) ?_
  refine z_evG 1 (y := if (z_bo (¬ (nI i) < 0 ∧ (nI i) < I 43 1)) = 0 then z_go 31 [some (.ref 0), some (.int (nI i)), some (.int (nI c))] [] 161 (I, J, RF w) else z_go 11 [some (.ref 0), some (.int (nI i)), some (.int (nI c))] [] 161 (I, J, RF w)) (fun _ => rfl) ?_
  refine z_evF (fun q => z_bo_0.mp q ⟨(mt (show _ ↔ i < 0 from z_ltN rfl rfl (by omega) (by omega)).mp (by omega)), ((show _ ↔ i < n from z_ltN rfl hn (by omega) (by omega)).mpr (by omega))⟩) ?_
  refine z_evL ?_
  refine z_evG 2 (y := z_ret (z_cl E (d + 1) 172 [.int (nI c)] (161, (I, J, RF w))) 15 [some (.ref 0), some (.int (nI i)), some (.int (nI c))] []) (fun _ => rfl) ?_
  refine z_evK (v := .int (z_bo (¬ (nI c) < 0 ∧ (nI c) < 8))) (z' := 161) (σ' := (I, J, RF w)) (x_isColour E d I J w (nI c)) ?_
  refine z_evG 1 (y := if (z_bo (¬ (nI c) < 0 ∧ (nI c) < 8)) = 0 then z_go 31 [some (.ref 0), some (.int (nI i)), some (.int (nI c))] [] 161 (I, J, RF w) else z_go 18 [some (.ref 0), some (.int (nI i)), some (.int (nI c))] [] 161 (I, J, RF w)) (fun _ => rfl) ?_
  refine z_evF (fun q => z_bo_0.mp q ⟨(mt (show _ ↔ c < 0 from z_ltN rfl rfl (by omega) (by omega)).mp (by omega)), ((show _ ↔ c < 8 from z_ltN rfl rfl (by omega) (by omega)).mpr (by omega))⟩) ?_
  refine z_evL ?_
  refine z_evG 4 (y := z_ret (z_cl E (d + 1) 11 [.ref 43, .int (nI i)] (161, (I, J, RF w))) 26 [some (.ref 0), some (.int (nI i)), some (.int (nI c))] []) (fun _ => rfl) ?_
  refine z_evK (v := .ref (45 + i)) (z' := 161) (σ' := (I, J, RF w)) (x_lights_getN E d I J w i (by omega)) ?_
  refine z_evG 2 (y := z_ild (z_ia E 161 (I, J, RF w) (45 + i)) (nI c) fun vv => z_go 28 [some (.ref 0), some (.int (nI i)), some (.int (nI c))] [.int vv] 161 (I, J, RF w)) (fun _ => rfl) ?_
  refine z_evBn (N := 8) (f := (I (45 + i))) (k := c) (z_iaA (z_A_lights i (by omega))) rfl (by omega) ?_
  refine z_evL ?_
  refine z_evG 2 (y := some (.inr (some (.int (I (45 + i) c)), 161, I, J, RF w))) (fun _ => rfl) ?_
  exact z_evR rfl
set_option maxRecDepth 20000 in
/-- LampHouseModel.lightTold -/
theorem m_lightTold_bad (E : zE) (d : Nat) (I : Nat → Nat → Int32) (J : Nat → Nat → Int64) (w : Nat) (i c : Int32) (hbad : ¬ ((¬ i < 0 ∧ ¬ I 127 9 - 1 < i) ∧ (¬ c < 0 ∧ ¬ 7 < c))) : z_cl E (d + 3) 194 [.ref 127, .int i, .int c] (161, I, J, RF w) = some (some (.int (-2)), 161, I, J, RF w) := by
  refine z_call (d := d + 2) (M := z_m194) rfl rfl ?_
  refine z_evG 3 (y := z_ret (z_cl E (d + 2) 184 [.ref 127, .int i] (161, (I, J, RF w))) 5 [some (.ref 127), some (.int i), some (.int c)] []) (fun _ => rfl) ?_
  refine z_evK (v := .int (z_bo (¬ i < 0 ∧ ¬ I 127 9 - 1 < i))) (z' := 161) (σ' := (I, J, RF w)) (m_isLight E d I J w i) ?_
  refine z_evG 1 (y := if (z_bo (¬ i < 0 ∧ ¬ I 127 9 - 1 < i)) = 0 then z_go 32 [some (.ref 127), some (.int i), some (.int c)] [] 161 (I, J, RF w) else z_go 8 [some (.ref 127), some (.int i), some (.int c)] [] 161 (I, J, RF w)) (fun _ => rfl) ?_
  refine z_evO (fun h1 => ?_) (fun h1 => ?_)
  · refine z_evL ?_
    refine z_evG 2 (y := some (.inr (some (.int (-2)), 161, I, J, RF w))) (fun _ => rfl) ?_
    exact z_evR rfl
  · refine z_evL ?_
    refine z_evG 4 (y := z_ret (z_cl E (d + 2) 178 [.int c, .int 0, .int 7] (161, (I, J, RF w))) 15 [some (.ref 127), some (.int i), some (.int c)] []) (fun _ => rfl) ?_
    refine z_evK (v := .int (z_bo (¬ c < 0 ∧ ¬ 7 < c))) (z' := 161) (σ' := (I, J, RF w)) (m_in E (d + 1) I J w c 0 7) ?_
    refine z_evG 1 (y := if (z_bo (¬ c < 0 ∧ ¬ 7 < c)) = 0 then z_go 32 [some (.ref 127), some (.int i), some (.int c)] [] 161 (I, J, RF w) else z_go 18 [some (.ref 127), some (.int i), some (.int c)] [] 161 (I, J, RF w)) (fun _ => rfl) ?_
    refine z_evO (fun h2 => ?_) (fun h2 => ?_)
    · refine z_evL ?_
      refine z_evG 2 (y := some (.inr (some (.int (-2)), 161, I, J, RF w))) (fun _ => rfl) ?_
      exact z_evR rfl
    · refine z_evL ?_
      exact absurd ⟨h1, h2⟩ hbad
set_option maxRecDepth 20000 in
/-- LampHouseModel.lightTold -/
theorem m_lightTold_ok (E : zE) (d : Nat) (I : Nat → Nat → Int32) (J : Nat → Nat → Int64) (w : Nat) (i c n : Nat) (hn : I 127 9 = nI n) (hm : n ≤ 20) (hi : i < n) (hc : c < 8) : z_cl E (d + 3) 194 [.ref 127, .int (nI i), .int (nI c)] (161, I, J, RF w) = some (some (.int (I 134 (8 * i + c))), 161, I, J, RF w) := by
  refine z_call (d := d + 2) (M := z_m194) rfl rfl ?_
  refine z_evG 3 (y := z_ret (z_cl E (d + 2) 184 [.ref 127, .int (nI i)] (161, (I, J, RF w))) 5 [some (.ref 127), some (.int (nI i)), some (.int (nI c))] []) (fun _ => rfl) ?_
  refine z_evK (v := .int (z_bo (¬ (nI i) < 0 ∧ ¬ I 127 9 - 1 < (nI i)))) (z' := 161) (σ' := (I, J, RF w)) (m_isLight E d I J w (nI i)) ?_
  refine z_evG 1 (y := if (z_bo (¬ (nI i) < 0 ∧ ¬ I 127 9 - 1 < (nI i))) = 0 then z_go 32 [some (.ref 127), some (.int (nI i)), some (.int (nI c))] [] 161 (I, J, RF w) else z_go 8 [some (.ref 127), some (.int (nI i)), some (.int (nI c))] [] 161 (I, J, RF w)) (fun _ => rfl) ?_
  refine z_evF (fun q => z_bo_0.mp q ⟨(mt (show _ ↔ i < 0 from z_ltN rfl rfl (by omega) (by omega)).mp (by omega)), (z_plt hn rfl (by omega) (by omega))⟩) ?_
  refine z_evL ?_
  refine z_evG 4 (y := z_ret (z_cl E (d + 2) 178 [.int (nI c), .int 0, .int 7] (161, (I, J, RF w))) 15 [some (.ref 127), some (.int (nI i)), some (.int (nI c))] []) (fun _ => rfl) ?_
  refine z_evK (v := .int (z_bo (¬ (nI c) < 0 ∧ ¬ 7 < (nI c)))) (z' := 161) (σ' := (I, J, RF w)) (m_in E (d + 1) I J w (nI c) 0 7) ?_
  refine z_evG 1 (y := if (z_bo (¬ (nI c) < 0 ∧ ¬ 7 < (nI c))) = 0 then z_go 32 [some (.ref 127), some (.int (nI i)), some (.int (nI c))] [] 161 (I, J, RF w) else z_go 18 [some (.ref 127), some (.int (nI i)), some (.int (nI c))] [] 161 (I, J, RF w)) (fun _ => rfl) ?_
  refine z_evF (fun q => z_bo_0.mp q ⟨(mt (show _ ↔ c < 0 from z_ltN rfl rfl (by omega) (by omega)).mp (by omega)), (mt (show _ ↔ 7 < c from z_ltN rfl rfl (by omega) (by omega)).mp (by omega))⟩) ?_
  refine z_evL ?_
  refine z_evG 8 (y := z_ild (z_ia E 161 (I, J, RF w) 134) ((8 * (nI i)) + (nI c)) fun vv => z_go 29 [some (.ref 127), some (.int (nI i)), some (.int (nI c))] [.int vv] 161 (I, J, RF w)) (fun _ => rfl) ?_
  refine z_evBn (N := 192) (f := (I 134)) (k := (8 * i + c)) rfl (z_addE (z_mulE rfl rfl) rfl) (by omega) ?_
  refine z_evL ?_
  refine z_evG 2 (y := some (.inr (some (.int (I 134 (8 * i + c))), 161, I, J, RF w))) (fun _ => rfl) ?_
  exact z_evR rfl
set_option maxRecDepth 20000 in
/-- LampHouse.pass -/
theorem x_pass_bad (E : zE) (d : Nat) (I : Nat → Nat → Int32) (J : Nat → Nat → Int64) (w : Nat) (n : Int32) (hbad : ¬ ((¬ n < 1) ∧ (¬ 1000 < n))) : z_cl E (d + 1) 128 [.ref 0, .int n] (161, I, J, RF w) = some (some (.int (-2)), 161, I, J, RF w) := by
  refine z_call (d := d + 0) (M := z_m128) rfl rfl ?_
  refine z_evG 3 (y := if n < 1 then z_go 12 [some (.ref 0), some (.int n)] [] 161 (I, J, RF w) else z_go 5 [some (.ref 0), some (.int n)] [] 161 (I, J, RF w)) (fun _ => rfl) ?_
  refine z_evI (fun h1 => ?_) (fun h1 => ?_)
  · refine z_evL ?_
    refine z_evG 2 (y := some (.inr (some (.int (-2)), 161, I, J, RF w))) (fun _ => rfl) ?_
    exact z_evR rfl
  · refine z_evL ?_
    refine z_evG 3 (y := if 1000 < n then z_go 12 [some (.ref 0), some (.int n)] [] 161 (I, J, RF w) else z_go 15 [some (.ref 0), some (.int n)] [] 161 (I, J, RF w)) (fun _ => rfl) ?_
    refine z_evI (fun h2 => ?_) (fun h2 => ?_)
    · refine z_evL ?_
      refine z_evG 2 (y := some (.inr (some (.int (-2)), 161, I, J, RF w))) (fun _ => rfl) ?_
      exact z_evR rfl
    · refine z_evL ?_
      exact absurd ⟨h1, h2⟩ hbad
set_option maxRecDepth 20000 in
/-- LampHouseModel.pass -/
theorem m_pass_bad (E : zE) (d : Nat) (I : Nat → Nat → Int32) (J : Nat → Nat → Int64) (w : Nat) (n : Int32) (hbad : ¬ (¬ n < 1 ∧ ¬ 1000 < n)) : z_cl E (d + 2) 179 [.ref 127, .int n] (161, I, J, RF w) = some (some (.int (-2)), 161, I, J, RF w) := by
  refine z_call (d := d + 1) (M := z_m179) rfl rfl ?_
  refine z_evG 4 (y := z_ret (z_cl E (d + 1) 178 [.int n, .int 1, .int 1000] (161, (I, J, RF w))) 8 [some (.ref 127), some (.int n)] []) (fun _ => rfl) ?_
  refine z_evK (v := .int (z_bo (¬ n < 1 ∧ ¬ 1000 < n))) (z' := 161) (σ' := (I, J, RF w)) (m_in E d I J w n 1 1000) ?_
  refine z_evG 1 (y := if (z_bo (¬ n < 1 ∧ ¬ 1000 < n)) = 0 then z_go 11 [some (.ref 127), some (.int n)] [] 161 (I, J, RF w) else z_go 14 [some (.ref 127), some (.int n)] [] 161 (I, J, RF w)) (fun _ => rfl) ?_
  refine z_evO (fun h1 => ?_) (fun h1 => ?_)
  · refine z_evL ?_
    refine z_evG 2 (y := some (.inr (some (.int (-2)), 161, I, J, RF w))) (fun _ => rfl) ?_
    exact z_evR rfl
  · refine z_evL ?_
    exact absurd h1 hbad
set_option maxRecDepth 20000 in
/-- LampHouse.pass -/
theorem x_pass_full (E : zE) (d : Nat) (I : Nat → Nat → Int32) (J : Nat → Nat → Int64) (w : Nat) (n h : Nat) (hh : I 0 13 = nI h) (hm : h ≤ 9999) (h1 : 1 ≤ n) (h2 : n ≤ 1000) (hf : 9999 < h + n) : z_cl E (d + 1) 128 [.ref 0, .int (nI n)] (161, I, J, RF w) = some (some (.int (-4)), 161, I, J, RF w) := by
  refine z_call (d := d + 0) (M := z_m128) rfl rfl ?_
  refine z_evG 3 (y := if (nI n) < 1 then z_go 12 [some (.ref 0), some (.int (nI n))] [] 161 (I, J, RF w) else z_go 5 [some (.ref 0), some (.int (nI n))] [] 161 (I, J, RF w)) (fun _ => rfl) ?_
  refine z_evF ((mt (show _ ↔ n < 1 from z_ltN rfl rfl (by omega) (by omega)).mp (by omega))) ?_
  refine z_evL ?_
  refine z_evG 3 (y := if 1000 < (nI n) then z_go 12 [some (.ref 0), some (.int (nI n))] [] 161 (I, J, RF w) else z_go 15 [some (.ref 0), some (.int (nI n))] [] 161 (I, J, RF w)) (fun _ => rfl) ?_
  refine z_evF ((mt (show _ ↔ 1000 < n from z_ltN rfl rfl (by omega) (by omega)).mp (by omega))) ?_
  refine z_evL ?_
  refine z_evG 6 (y := if 9999 < ((I 0 13) + (nI n)) then z_go 27 [some (.ref 0), some (.int (nI n))] [] 161 (I, J, RF w) else z_go 30 [some (.ref 0), some (.int (nI n))] [] 161 (I, J, RF w)) (fun _ => rfl) ?_
  refine z_evT (((show _ ↔ 9999 < h + n from z_ltN rfl (z_addE hh rfl) (by omega) (by omega)).mpr (by omega))) ?_
  refine z_evL ?_
  refine z_evG 2 (y := some (.inr (some (.int (-4)), 161, I, J, RF w))) (fun _ => rfl) ?_
  exact z_evR rfl
set_option maxRecDepth 20000 in
/-- LampHouse.pass -/
theorem x_pass_ok (E : zE) (d : Nat) (I : Nat → Nat → Int32) (J : Nat → Nat → Int64) (w : Nat) (n h : Nat) (hh : I 0 13 = nI h) (hm : h ≤ 9999) (h1 : 1 ≤ n) (h2 : n ≤ 1000) (hf : h + n ≤ 9999) : z_cl E (d + 1) 128 [.ref 0, .int (nI n)] (161, I, J, RF w) = some (some (.int (nI (h + n))), 161, (z_u2 I 0 13 (nI (h + n))), J, RF w) := by
  refine z_call (d := d + 0) (M := z_m128) rfl rfl ?_
  refine z_evG 3 (y := if (nI n) < 1 then z_go 12 [some (.ref 0), some (.int (nI n))] [] 161 (I, J, RF w) else z_go 5 [some (.ref 0), some (.int (nI n))] [] 161 (I, J, RF w)) (fun _ => rfl) ?_
  refine z_evF ((mt (show _ ↔ n < 1 from z_ltN rfl rfl (by omega) (by omega)).mp (by omega))) ?_
  refine z_evL ?_
  refine z_evG 3 (y := if 1000 < (nI n) then z_go 12 [some (.ref 0), some (.int (nI n))] [] 161 (I, J, RF w) else z_go 15 [some (.ref 0), some (.int (nI n))] [] 161 (I, J, RF w)) (fun _ => rfl) ?_
  refine z_evF ((mt (show _ ↔ 1000 < n from z_ltN rfl rfl (by omega) (by omega)).mp (by omega))) ?_
  refine z_evL ?_
  refine z_evG 6 (y := if 9999 < ((I 0 13) + (nI n)) then z_go 27 [some (.ref 0), some (.int (nI n))] [] 161 (I, J, RF w) else z_go 30 [some (.ref 0), some (.int (nI n))] [] 161 (I, J, RF w)) (fun _ => rfl) ?_
  refine z_evF ((mt (show _ ↔ 9999 < h + n from z_ltN rfl (z_addE hh rfl) (by omega) (by omega)).mp (by omega))) ?_
  refine z_evL ?_
  refine z_evG 9 (y := some (.inr (some (.int ((I 0 13) + (nI n))), 161, (z_u2 I 0 13 ((I 0 13) + (nI n))), J, RF w))) (fun _ => rfl) ?_
  rw [hh, nI_add]
  exact z_evR rfl
set_option maxRecDepth 20000 in
/-- LampHouseModel.pass -/
theorem m_pass_full (E : zE) (d : Nat) (I : Nat → Nat → Int32) (J : Nat → Nat → Int64) (w : Nat) (n h : Nat) (hh : I 127 0 = nI h) (hm : h ≤ 9999) (h1 : 1 ≤ n) (h2 : n ≤ 1000) (hf : 9999 < h + n) : z_cl E (d + 2) 179 [.ref 127, .int (nI n)] (161, I, J, RF w) = some (some (.int (-4)), 161, I, J, RF w) := by
  refine z_call (d := d + 1) (M := z_m179) rfl rfl ?_
  refine z_evG 4 (y := z_ret (z_cl E (d + 1) 178 [.int (nI n), .int 1, .int 1000] (161, (I, J, RF w))) 8 [some (.ref 127), some (.int (nI n))] []) (fun _ => rfl) ?_
  refine z_evK (v := .int (z_bo (¬ (nI n) < 1 ∧ ¬ 1000 < (nI n)))) (z' := 161) (σ' := (I, J, RF w)) (m_in E d I J w (nI n) 1 1000) ?_
  refine z_evG 1 (y := if (z_bo (¬ (nI n) < 1 ∧ ¬ 1000 < (nI n))) = 0 then z_go 11 [some (.ref 127), some (.int (nI n))] [] 161 (I, J, RF w) else z_go 14 [some (.ref 127), some (.int (nI n))] [] 161 (I, J, RF w)) (fun _ => rfl) ?_
  refine z_evF (fun q => z_bo_0.mp q ⟨(mt (show _ ↔ n < 1 from z_ltN rfl rfl (by omega) (by omega)).mp (by omega)), (mt (show _ ↔ 1000 < n from z_ltN rfl rfl (by omega) (by omega)).mp (by omega))⟩) ?_
  refine z_evL ?_
  refine z_evG 6 (y := if 9999 < ((I 127 0) + (nI n)) then z_go 26 [some (.ref 127), some (.int (nI n))] [] 161 (I, J, RF w) else z_go 29 [some (.ref 127), some (.int (nI n))] [] 161 (I, J, RF w)) (fun _ => rfl) ?_
  refine z_evT (((show _ ↔ 9999 < h + n from z_ltN rfl (z_addE hh rfl) (by omega) (by omega)).mpr (by omega))) ?_
  refine z_evL ?_
  refine z_evG 2 (y := some (.inr (some (.int (-4)), 161, I, J, RF w))) (fun _ => rfl) ?_
  exact z_evR rfl
set_option maxRecDepth 20000 in
/-- LampHouseModel.pass -/
theorem m_pass_ok (E : zE) (d : Nat) (I : Nat → Nat → Int32) (J : Nat → Nat → Int64) (w : Nat) (n h : Nat) (hh : I 127 0 = nI h) (hm : h ≤ 9999) (h1 : 1 ≤ n) (h2 : n ≤ 1000) (hf : h + n ≤ 9999) : z_cl E (d + 2) 179 [.ref 127, .int (nI n)] (161, I, J, RF w) = some (some (.int (nI (h + n))), 161, (z_u2 I 127 0 (nI (h + n))), J, RF w) := by
  refine z_call (d := d + 1) (M := z_m179) rfl rfl ?_
  refine z_evG 4 (y := z_ret (z_cl E (d + 1) 178 [.int (nI n), .int 1, .int 1000] (161, (I, J, RF w))) 8 [some (.ref 127), some (.int (nI n))] []) (fun _ => rfl) ?_
  refine z_evK (v := .int (z_bo (¬ (nI n) < 1 ∧ ¬ 1000 < (nI n)))) (z' := 161) (σ' := (I, J, RF w)) (m_in E d I J w (nI n) 1 1000) ?_
  refine z_evG 1 (y := if (z_bo (¬ (nI n) < 1 ∧ ¬ 1000 < (nI n))) = 0 then z_go 11 [some (.ref 127), some (.int (nI n))] [] 161 (I, J, RF w) else z_go 14 [some (.ref 127), some (.int (nI n))] [] 161 (I, J, RF w)) (fun _ => rfl) ?_
  refine z_evF (fun q => z_bo_0.mp q ⟨(mt (show _ ↔ n < 1 from z_ltN rfl rfl (by omega) (by omega)).mp (by omega)), (mt (show _ ↔ 1000 < n from z_ltN rfl rfl (by omega) (by omega)).mp (by omega))⟩) ?_
  refine z_evL ?_
  refine z_evG 6 (y := if 9999 < ((I 127 0) + (nI n)) then z_go 26 [some (.ref 127), some (.int (nI n))] [] 161 (I, J, RF w) else z_go 29 [some (.ref 127), some (.int (nI n))] [] 161 (I, J, RF w)) (fun _ => rfl) ?_
  refine z_evF ((mt (show _ ↔ 9999 < h + n from z_ltN rfl (z_addE hh rfl) (by omega) (by omega)).mp (by omega))) ?_
  refine z_evL ?_
  refine z_evG 9 (y := some (.inr (some (.int ((I 127 0) + (nI n))), 161, (z_u2 I 127 0 ((I 127 0) + (nI n))), J, RF w))) (fun _ => rfl) ?_
  rw [hh, nI_add]
  exact z_evR rfl
set_option maxRecDepth 20000 in
/-- LampHouse.light -/
theorem x_light_bad (E : zE) (d : Nat) (I : Nat → Nat → Int32) (J : Nat → Nat → Int64) (w : Nat) (i : Int32) (hbad : ¬ (¬ i < 0 ∧ i < I 1 1)) : z_cl E (d + 2) 133 [.ref 0, .int i] (161, I, J, RF w) = some (some (.int (-2)), 161, I, J, RF w) := by
  refine z_call (d := d + 1) (M := z_m133) rfl rfl ?_
  refine z_evG 4 (y := z_ret (z_cl E (d + 1) 8 [.ref 1, .int i] (161, (I, J, RF w))) 8 [some (.ref 0), some (.int i)] []) (fun _ => rfl) ?_
  refine z_evK (v := .int (z_bo (¬ i < 0 ∧ i < I 1 1))) (z' := 161) (σ' := (I, J, RF w)) (x_rows_has E d I J w i) ?_
  refine z_evG 1 (y := if (z_bo (¬ i < 0 ∧ i < I 1 1)) = 0 then z_go 11 [some (.ref 0), some (.int i)] [] 161 (I, J, RF w) else z_go 14 [some (.ref 0), some (.int i)] [] 161 (I, J, RF w)) (fun _ => rfl) ?_
  refine z_evO (fun h1 => ?_) (fun h1 => ?_)
  · refine z_evL ?_
    refine z_evG 2 (y := some (.inr (some (.int (-2)), 161, I, J, RF w))) (fun _ => rfl) ?_
    exact z_evR rfl
  · refine z_evL ?_
    exact absurd h1 hbad
set_option maxRecDepth 20000 in
/-- LampHouseModel.light -/
theorem m_light_bad (E : zE) (d : Nat) (I : Nat → Nat → Int32) (J : Nat → Nat → Int64) (w : Nat) (i : Int32) (hbad : ¬ (¬ i < 0 ∧ ¬ I 127 1 - 1 < i)) : z_cl E (d + 3) 191 [.ref 127, .int i] (161, I, J, RF w) = some (some (.int (-2)), 161, I, J, RF w) := by
  refine z_call (d := d + 2) (M := z_m191) rfl rfl ?_
  refine z_evG 3 (y := z_ret (z_cl E (d + 2) 182 [.ref 127, .int i] (161, (I, J, RF w))) 5 [some (.ref 127), some (.int i), none] []) (fun _ => rfl) ?_
  refine z_evK (v := .int (z_bo (¬ i < 0 ∧ ¬ I 127 1 - 1 < i))) (z' := 161) (σ' := (I, J, RF w)) (m_isRow E d I J w i) ?_
  refine z_evG 1 (y := if (z_bo (¬ i < 0 ∧ ¬ I 127 1 - 1 < i)) = 0 then z_go 8 [some (.ref 127), some (.int i), none] [] 161 (I, J, RF w) else z_go 11 [some (.ref 127), some (.int i), none] [] 161 (I, J, RF w)) (fun _ => rfl) ?_
  refine z_evO (fun h1 => ?_) (fun h1 => ?_)
  · refine z_evL ?_
    refine z_evG 2 (y := some (.inr (some (.int (-2)), 161, I, J, RF w))) (fun _ => rfl) ?_
    exact z_evR rfl
  · refine z_evL ?_
    exact absurd h1 hbad
set_option maxRecDepth 20000 in
/-- LampHouse.light -/
theorem x_light_full (E : zE) (d : Nat) (I : Nat → Nat → Int32) (J : Nat → Nat → Int64) (w : Nat) (i n m : Nat) (hR : I 1 1 = nI n) (hn : n ≤ 30) (hL : I 43 1 = nI m) (hi : i < n) (hm : m = 20) : z_cl E (d + 2) 133 [.ref 0, .int (nI i)] (161, I, J, RF w) = some (some (.int (-4)), 161, I, J, RF w) := by
  refine z_call (d := d + 1) (M := z_m133) rfl rfl ?_
  refine z_evG 4 (y := z_ret (z_cl E (d + 1) 8 [.ref 1, .int (nI i)] (161, (I, J, RF w))) 8 [some (.ref 0), some (.int (nI i))] []) (fun _ => rfl) ?_
  refine z_evK (v := .int (z_bo (¬ (nI i) < 0 ∧ (nI i) < I 1 1))) (z' := 161) (σ' := (I, J, RF w)) (x_rows_has E d I J w (nI i)) ?_
  refine z_evG 1 (y := if (z_bo (¬ (nI i) < 0 ∧ (nI i) < I 1 1)) = 0 then z_go 11 [some (.ref 0), some (.int (nI i))] [] 161 (I, J, RF w) else z_go 14 [some (.ref 0), some (.int (nI i))] [] 161 (I, J, RF w)) (fun _ => rfl) ?_
  refine z_evF (fun q => z_bo_0.mp q ⟨(mt (show _ ↔ i < 0 from z_ltN rfl rfl (by omega) (by omega)).mp (by omega)), ((show _ ↔ i < n from z_ltN rfl hR (by omega) (by omega)).mpr (by omega))⟩) ?_
  refine z_evL ?_
  refine z_evG 3 (y := z_ret (z_cl E (d + 1) 10 [.ref 43] (161, (I, J, RF w))) 21 [some (.ref 0), some (.int (nI i))] []) (fun _ => rfl) ?_
  refine z_evK (v := .int (z_bo (¬ I 43 1 < 20))) (z' := 161) (σ' := (I, J, RF w)) (x_lights_isFull E d I J w) ?_
  refine z_evG 1 (y := if (z_bo (¬ I 43 1 < 20)) = 0 then z_go 29 [some (.ref 0), some (.int (nI i))] [] 161 (I, J, RF w) else z_go 24 [some (.ref 0), some (.int (nI i))] [] 161 (I, J, RF w)) (fun _ => rfl) ?_
  refine z_evF (fun q => z_bo_0.mp q (mt (show _ ↔ m < 20 from z_ltN hL rfl (by omega) (by omega)).mp (by omega))) ?_
  refine z_evL ?_
  refine z_evG 3 (y := some (.inr (some (.int (-4)), 161, I, J, RF w))) (fun _ => rfl) ?_
  exact z_evR rfl
set_option maxRecDepth 20000 in
/-- LampHouse.light -/
theorem x_light_ok (E : zE) (d : Nat) (I : Nat → Nat → Int32) (J : Nat → Nat → Int64) (w : Nat) (i n m : Nat) (hR : I 1 1 = nI n) (hn : n ≤ 30) (hL : I 43 1 = nI m) (hi : i < n) (hm : m < 20) : z_cl E (d + 2) 133 [.ref 0, .int (nI i)] (161, I, J, RF w) = some (some (.int (nI m)), 161, (z_u2 (z_ur I (45 + m) (va_cpy (I (3 + i)) (I (45 + m)) 0 0 8)) 43 1 (nI (m + 1))), J, RF w) := by
  refine z_call (d := d + 1) (M := z_m133) rfl rfl ?_
  refine z_evG 4 (y := z_ret (z_cl E (d + 1) 8 [.ref 1, .int (nI i)] (161, (I, J, RF w))) 8 [some (.ref 0), some (.int (nI i))] []) (fun _ => rfl) ?_
  refine z_evK (v := .int (z_bo (¬ (nI i) < 0 ∧ (nI i) < I 1 1))) (z' := 161) (σ' := (I, J, RF w)) (x_rows_has E d I J w (nI i)) ?_
  refine z_evG 1 (y := if (z_bo (¬ (nI i) < 0 ∧ (nI i) < I 1 1)) = 0 then z_go 11 [some (.ref 0), some (.int (nI i))] [] 161 (I, J, RF w) else z_go 14 [some (.ref 0), some (.int (nI i))] [] 161 (I, J, RF w)) (fun _ => rfl) ?_
  refine z_evF (fun q => z_bo_0.mp q ⟨(mt (show _ ↔ i < 0 from z_ltN rfl rfl (by omega) (by omega)).mp (by omega)), ((show _ ↔ i < n from z_ltN rfl hR (by omega) (by omega)).mpr (by omega))⟩) ?_
  refine z_evL ?_
  refine z_evG 3 (y := z_ret (z_cl E (d + 1) 10 [.ref 43] (161, (I, J, RF w))) 21 [some (.ref 0), some (.int (nI i))] []) (fun _ => rfl) ?_
  refine z_evK (v := .int (z_bo (¬ I 43 1 < 20))) (z' := 161) (σ' := (I, J, RF w)) (x_lights_isFull E d I J w) ?_
  refine z_evG 1 (y := if (z_bo (¬ I 43 1 < 20)) = 0 then z_go 29 [some (.ref 0), some (.int (nI i))] [] 161 (I, J, RF w) else z_go 24 [some (.ref 0), some (.int (nI i))] [] 161 (I, J, RF w)) (fun _ => rfl) ?_
  refine z_evT (z_bo_0.mpr (fun q => q ((show _ ↔ m < 20 from z_ltN hL rfl (by omega) (by omega)).mpr (by omega)))) ?_
  refine z_evL ?_
  refine z_evG 6 (y := z_ret (z_cl E (d + 1) 11 [.ref 1, .int (nI i)] (161, (I, J, RF w))) 41 [some (.ref 0), some (.int (nI i))] [.ref 43]) (fun _ => rfl) ?_
  refine z_evK (v := .ref (3 + i)) (z' := 161) (σ' := (I, J, RF w)) (x_rows_getN E d I J w i (by omega)) ?_
  refine z_evG 1 (y := z_ret (z_cl E (d + 1) 12 [.ref 43, .ref (3 + i)] (161, (I, J, RF w))) 44 [some (.ref 0), some (.int (nI i))] []) (fun _ => rfl) ?_
  refine z_evK (v := .int (nI m)) (z' := 161) (σ' := ((z_u2 (z_ur I (45 + m) (va_cpy (I (3 + i)) (I (45 + m)) 0 0 8)) 43 1 (nI (m + 1))), J, RF w)) (x_lights_add E d I J w (3 + i) m (z_A_rows i (by omega)) hL (by omega)) ?_
  refine z_evG 1 (y := some (.inr (some (.int (nI m)), 161, (z_u2 (z_ur I (45 + m) (va_cpy (I (3 + i)) (I (45 + m)) 0 0 8)) 43 1 (nI (m + 1))), J, RF w))) (fun _ => rfl) ?_
  exact z_evR rfl
set_option maxRecDepth 20000 in
/-- LampHouseModel.light -/
theorem m_light_full (E : zE) (d : Nat) (I : Nat → Nat → Int32) (J : Nat → Nat → Int64) (w : Nat) (i n m : Nat) (hR : I 127 1 = nI n) (hn : n ≤ 30) (hL : I 127 9 = nI m) (hi : i < n) (hm : m = 20) : z_cl E (d + 3) 191 [.ref 127, .int (nI i)] (161, I, J, RF w) = some (some (.int (-4)), 161, I, J, RF w) := by
  refine z_call (d := d + 2) (M := z_m191) rfl rfl ?_
  refine z_evG 3 (y := z_ret (z_cl E (d + 2) 182 [.ref 127, .int (nI i)] (161, (I, J, RF w))) 5 [some (.ref 127), some (.int (nI i)), none] []) (fun _ => rfl) ?_
  refine z_evK (v := .int (z_bo (¬ (nI i) < 0 ∧ ¬ I 127 1 - 1 < (nI i)))) (z' := 161) (σ' := (I, J, RF w)) (m_isRow E d I J w (nI i)) ?_
  refine z_evG 1 (y := if (z_bo (¬ (nI i) < 0 ∧ ¬ I 127 1 - 1 < (nI i))) = 0 then z_go 8 [some (.ref 127), some (.int (nI i)), none] [] 161 (I, J, RF w) else z_go 11 [some (.ref 127), some (.int (nI i)), none] [] 161 (I, J, RF w)) (fun _ => rfl) ?_
  refine z_evF (fun q => z_bo_0.mp q ⟨(mt (show _ ↔ i < 0 from z_ltN rfl rfl (by omega) (by omega)).mp (by omega)), (z_plt hR rfl (by omega) (by omega))⟩) ?_
  refine z_evL ?_
  refine z_evG 4 (y := if (I 127 9) = 20 then z_go 20 [some (.ref 127), some (.int (nI i)), none] [] 161 (I, J, RF w) else z_go 23 [some (.ref 127), some (.int (nI i)), none] [] 161 (I, J, RF w)) (fun _ => rfl) ?_
  refine z_evT (((show _ ↔ m = 20 from z_eqN hL rfl (by omega) (by omega)).mpr (by omega))) ?_
  refine z_evL ?_
  refine z_evG 2 (y := some (.inr (some (.int (-4)), 161, I, J, RF w))) (fun _ => rfl) ?_
  exact z_evR rfl
set_option maxRecDepth 20000 in
/-- LampHouseModel.light -/
theorem m_light_ok (E : zE) (d : Nat) (I : Nat → Nat → Int32) (J : Nat → Nat → Int64) (w : Nat) (i n m : Nat) (hR : I 127 1 = nI n) (hn : n ≤ 30) (hL : I 127 9 = nI m) (hi : i < n) (hm : m < 20) : z_cl E (d + 3) 191 [.ref 127, .int (nI i)] (161, I, J, RF w) = some (some (.int (nI m)), 161, (z_u2 (z_ur I 134 (z_fil (I 134) (8 * m) 8 (fun c => I 128 (8 * i + c)))) 127 9 (nI (m + 1))), J, RF w) := by
  refine z_call (d := d + 2) (M := z_m191) rfl rfl ?_
  refine z_evG 3 (y := z_ret (z_cl E (d + 2) 182 [.ref 127, .int (nI i)] (161, (I, J, RF w))) 5 [some (.ref 127), some (.int (nI i)), none] []) (fun _ => rfl) ?_
  refine z_evK (v := .int (z_bo (¬ (nI i) < 0 ∧ ¬ I 127 1 - 1 < (nI i)))) (z' := 161) (σ' := (I, J, RF w)) (m_isRow E d I J w (nI i)) ?_
  refine z_evG 1 (y := if (z_bo (¬ (nI i) < 0 ∧ ¬ I 127 1 - 1 < (nI i))) = 0 then z_go 8 [some (.ref 127), some (.int (nI i)), none] [] 161 (I, J, RF w) else z_go 11 [some (.ref 127), some (.int (nI i)), none] [] 161 (I, J, RF w)) (fun _ => rfl) ?_
  refine z_evF (fun q => z_bo_0.mp q ⟨(mt (show _ ↔ i < 0 from z_ltN rfl rfl (by omega) (by omega)).mp (by omega)), (z_plt hR rfl (by omega) (by omega))⟩) ?_
  refine z_evL ?_
  refine z_evG 4 (y := if (I 127 9) = 20 then z_go 20 [some (.ref 127), some (.int (nI i)), none] [] 161 (I, J, RF w) else z_go 23 [some (.ref 127), some (.int (nI i)), none] [] 161 (I, J, RF w)) (fun _ => rfl) ?_
  refine z_evF ((mt (show _ ↔ m = 20 from z_eqN hL rfl (by omega) (by omega)).mp (by omega))) ?_
  refine z_evL ?_
  refine z_evG 2 (y := z_go 25 [some (.ref 127), some (.int (nI i)), some (.int 0)] [] 161 (I, J, RF w)) (fun _ => rfl) ?_
  refine z_evL ?_
  have st0 : ∀ m0, m0 = 0 → ∀ q, z_Ev E (d + 2) z_m191 25 [some (.ref 127), some (.int (nI i)), some (.int (nI m0))] [] 161 ((z_ur I 134 (z_fil (I 134) (8 * m) m0 (fun c => I 128 (8 * i + c)))), J, RF w) q → z_Ev E (d + 2) z_m191 25 [some (.ref 127), some (.int (nI i)), some (.int 0)] [] 161 (I, J, RF w) q := by intro m0 hm0 q h; rw [hm0, z_fil_0] at h; subst hm0; exact h
  refine st0 0 rfl _ ?_
  refine z_loop (F := fun k => ([some (.ref 127), some (.int (nI i)), some (.int (nI k))], ((z_ur I 134 (z_fil (I 134) (8 * m) k (fun c => I 128 (8 * i + c)))), J, RF w))) (P := fun k => True) 8 trivial (fun hP => ?_) (fun k hk hP next => ?_)
  · show z_Ev E (d + 2) z_m191 25 [some (.ref 127), some (.int (nI i)), some (.int (nI 8))] [] 161 ((z_ur I 134 (z_fil (I 134) (8 * m) 8 (fun c => I 128 (8 * i + c)))), J, RF w) _
    refine z_evG 3 (y := if (nI 8) < 8 then z_go 31 [some (.ref 127), some (.int (nI i)), some (.int (nI 8))] [] 161 ((z_ur I 134 (z_fil (I 134) (8 * m) 8 (fun c => I 128 (8 * i + c)))), J, RF w) else z_go 62 [some (.ref 127), some (.int (nI i)), some (.int (nI 8))] [] 161 ((z_ur I 134 (z_fil (I 134) (8 * m) 8 (fun c => I 128 (8 * i + c)))), J, RF w)) (fun _ => rfl) ?_
    refine z_evF (mt (show _ ↔ 8 < 8 from z_ltN rfl rfl (by omega) (by omega)).mp (by omega)) ?_
    refine z_evL ?_
    refine z_evG 11 (y := some (.inr (some (.int (((I 127 9) + 1) - 1)), 161, (z_u2 (z_ur I 134 (z_fil (I 134) (8 * m) 8 (fun c => I 128 (8 * i + c)))) 127 9 ((I 127 9) + 1)), J, RF w))) (fun _ => rfl) ?_
    rw [hL, nI_1, nI_pred]
    exact z_evR rfl
  · show z_Ev E (d + 2) z_m191 25 [some (.ref 127), some (.int (nI i)), some (.int (nI k))] [] 161 ((z_ur I 134 (z_fil (I 134) (8 * m) k (fun c => I 128 (8 * i + c)))), J, RF w) _
    have nx : (True) → z_Ev E (d + 2) z_m191 25 [some (.ref 127), some (.int (nI i)), some (.int (nI (k + 1)))] [] 161 ((z_ur I 134 (z_fil (I 134) (8 * m) (k + 1) (fun c => I 128 (8 * i + c)))), J, RF w) _ := next
    refine z_evG 3 (y := if (nI k) < 8 then z_go 31 [some (.ref 127), some (.int (nI i)), some (.int (nI k))] [] 161 ((z_ur I 134 (z_fil (I 134) (8 * m) k (fun c => I 128 (8 * i + c)))), J, RF w) else z_go 62 [some (.ref 127), some (.int (nI i)), some (.int (nI k))] [] 161 ((z_ur I 134 (z_fil (I 134) (8 * m) k (fun c => I 128 (8 * i + c)))), J, RF w)) (fun _ => rfl) ?_
    refine z_evT ((show _ ↔ k < 8 from z_ltN rfl rfl (by omega) (by omega)).mpr (by omega)) ?_
    refine z_evL ?_
    refine z_evG 16 (y := z_ild (z_ia E 161 ((z_ur I 134 (z_fil (I 134) (8 * m) k (fun c => I 128 (8 * i + c)))), J, RF w) 128) ((8 * (nI i)) + (nI k)) fun vv => z_go 55 [some (.ref 127), some (.int (nI i)), some (.int (nI k))] [.int vv, .int ((8 * (I 127 9)) + (nI k)), .ref 134] 161 ((z_ur I 134 (z_fil (I 134) (8 * m) k (fun c => I 128 (8 * i + c)))), J, RF w)) (fun _ => rfl) ?_
    refine z_evBn (N := 240) (f := ((z_ur I 134 (z_fil (I 134) (8 * m) k (fun c => I 128 (8 * i + c)))) 128)) (k := (8 * i + k)) rfl (z_addE (z_mulE rfl rfl) rfl) (by omega) ?_
    refine z_evL ?_
    refine z_evG 1 (y := z_ck (z_in ((8 * (I 127 9)) + (nI k)) 192) (z_go 56 [some (.ref 127), some (.int (nI i)), some (.int (nI k))] [] 161 ((z_u2 (z_ur I 134 (z_fil (I 134) (8 * m) k (fun c => I 128 (8 * i + c)))) 134 (((8 * (I 127 9)) + (nI k)).toNatClampNeg) (I 128 (8 * i + k))), J, RF w))) (fun _ => rfl) ?_
    refine z_evC (z_inN (k := 8 * m + k) (z_addE (z_mulE rfl hL) rfl) (by omega) (by decide)) ?_
    refine z_evL ?_
    rw [show (((8 * (I 127 9)) + (nI k) : Int32)).toNatClampNeg = 8 * m + k from z_natE (z_addE (z_mulE rfl hL) rfl) (by omega)]
    refine z_evG 2 (y := z_go 25 [some (.ref 127), some (.int (nI i)), some (.int ((nI k) + 1))] [] 161 ((z_u2 (z_ur I 134 (z_fil (I 134) (8 * m) k (fun c => I 128 (8 * i + c)))) 134 (8 * m + k) (I 128 (8 * i + k))), J, RF w)) (fun _ => rfl) ?_
    refine z_evL ?_
    rw [nI_1 k, z_fil_s]
    exact nx trivial
