-- CELL
set_option maxRecDepth 20000 in
/-- LampHouse.cell -/
theorem x_cell_miss (E : zE) (d : Nat) (I : Nat → Nat → Int32) (J : Nat → Nat → Int64) (w : Nat) (s : Nat) (i v : Int32) (hl_s : s < 4) (hM : I 123 s = (-1)) : z_cl E (d + 2) 162 [.ref 0, .int (nI s), .int i, .int v] (161, I, J, RF w) = some (some (.int (-11)), 161, I, J, RF w) := by
  refine z_call (d := d + 1) (M := z_m162) rfl rfl ?_
  refine z_evG 2 (y := z_ret (z_cl E (d + 1) 95 [.int (nI s)] (161, (I, J, RF w))) 4 [some (.ref 0), some (.int (nI s)), some (.int i), some (.int v)] []) (fun _ => rfl) ?_
  refine z_evK (v := .int (z_bo (¬ (nI s) < 0 ∧ (nI s) < 4))) (z' := 161) (σ' := (I, J, RF w)) (x_isPlace E d I J w (nI s)) ?_
  refine z_evG 1 (y := if (z_bo (¬ (nI s) < 0 ∧ (nI s) < 4)) = 0 then z_go 7 [some (.ref 0), some (.int (nI s)), some (.int i), some (.int v)] [] 161 (I, J, RF w) else z_go 10 [some (.ref 0), some (.int (nI s)), some (.int i), some (.int v)] [] 161 (I, J, RF w)) (fun _ => rfl) ?_
  refine z_evF (fun q0 => z_bo_0.mp q0 ⟨(mt (show _ ↔ s < 0 from z_ltN rfl rfl (by omega) (by omega)).mp (by omega)), ((show _ ↔ s < 4 from z_ltN rfl rfl (by omega) (by omega)).mpr (by omega))⟩) ?_
  refine z_evL ?_
  refine z_evG 4 (y := z_ret (z_cl E (d + 1) 97 [.ref 117, .int (nI s)] (161, (I, J, RF w))) 18 [some (.ref 0), some (.int (nI s)), some (.int i), some (.int v)] []) (fun _ => rfl) ?_
  refine z_evK (v := .int (z_bo (I 123 s = (-1)))) (z' := 161) (σ' := (I, J, RF w)) (x_sheets_isMissingN E d I J w s (by omega)) ?_
  refine z_evG 1 (y := if (z_bo (I 123 s = (-1))) = 0 then z_go 24 [some (.ref 0), some (.int (nI s)), some (.int i), some (.int v)] [] 161 (I, J, RF w) else z_go 21 [some (.ref 0), some (.int (nI s)), some (.int i), some (.int v)] [] 161 (I, J, RF w)) (fun _ => rfl) ?_
  refine z_evF (fun q0 => z_bo_0.mp q0 hM) ?_
  refine z_evL ?_
  refine z_evG 2 (y := some (.inr (some (.int (-11)), 161, I, J, RF w))) (fun _ => rfl) ?_
  exact z_evR rfl
set_option maxRecDepth 20000 in
/-- LampHouseModel.cell -/
theorem m_cell_miss (E : zE) (d : Nat) (I : Nat → Nat → Int32) (J : Nat → Nat → Int64) (w : Nat) (s : Nat) (i v : Int32) (hl_s : s < 4) (hM : I 157 s = (-1)) : z_cl E (d + 3) 249 [.ref 127, .int (nI s), .int i, .int v] (161, I, J, RF w) = some (some (.int (-11)), 161, I, J, RF w) := by
  refine z_call (d := d + 2) (M := z_m249) rfl rfl ?_
  refine z_evG 2 (y := z_ret (z_cl E (d + 2) 247 [.int (nI s)] (161, (I, J, RF w))) 4 [some (.ref 127), some (.int (nI s)), some (.int i), some (.int v)] []) (fun _ => rfl) ?_
  refine z_evK (v := .int (z_bo (¬ (nI s) < 0 ∧ ¬ 3 < (nI s)))) (z' := 161) (σ' := (I, J, RF w)) (m_isSheet E d I J w (nI s)) ?_
  refine z_evG 1 (y := if (z_bo (¬ (nI s) < 0 ∧ ¬ 3 < (nI s))) = 0 then z_go 7 [some (.ref 127), some (.int (nI s)), some (.int i), some (.int v)] [] 161 (I, J, RF w) else z_go 10 [some (.ref 127), some (.int (nI s)), some (.int i), some (.int v)] [] 161 (I, J, RF w)) (fun _ => rfl) ?_
  refine z_evF (fun q0 => z_bo_0.mp q0 ⟨(mt (show _ ↔ s < 0 from z_ltN rfl rfl (by omega) (by omega)).mp (by omega)), (mt (show _ ↔ 3 < s from z_ltN rfl rfl (by omega) (by omega)).mp (by omega))⟩) ?_
  refine z_evL ?_
  refine z_evG 4 (y := z_ild (z_ia E 161 (I, J, RF w) 157) (nI s) fun vv => z_go 16 [some (.ref 127), some (.int (nI s)), some (.int i), some (.int v)] [.int vv] 161 (I, J, RF w)) (fun _ => rfl) ?_
  refine z_evBn (N := 4) (f := (I 157)) (k := s) rfl rfl (by omega) ?_
  refine z_evL ?_
  rw [show I 157 s = (-1) from hM]
  refine z_evG 1 (y := if (-1) < 0 then z_go 19 [some (.ref 127), some (.int (nI s)), some (.int i), some (.int v)] [] 161 (I, J, RF w) else z_go 22 [some (.ref 127), some (.int (nI s)), some (.int i), some (.int v)] [] 161 (I, J, RF w)) (fun _ => rfl) ?_
  refine z_evI (fun _ => ?_) (fun q => absurd (by decide) q)
  refine z_evL ?_
  refine z_evG 2 (y := some (.inr (some (.int (-11)), 161, I, J, RF w))) (fun _ => rfl) ?_
  exact z_evR rfl
set_option maxRecDepth 20000 in
/-- LampHouse.cell -/
theorem x_cell_0 (E : zE) (d : Nat) (I : Nat → Nat → Int32) (J : Nat → Nat → Int64) (w : Nat) (s i n : Nat) (v : Int32) (hl_s : s < 4) (h_n : I 124 s = nI n) (hm_n : n ≤ 40) (hl_i : i < n) (hK : I 123 s = 0) : z_cl E (d + 2) 162 [.ref 0, .int (nI s), .int (nI i), .int v] (161, I, J, RF w) = some (some (.int 1), 161, (z_u2 I (119 + s) i v.toInt8.toInt32), J, RF w) := by
  refine z_call (d := d + 1) (M := z_m162) rfl rfl ?_
  refine z_evG 2 (y := z_ret (z_cl E (d + 1) 95 [.int (nI s)] (161, (I, J, RF w))) 4 [some (.ref 0), some (.int (nI s)), some (.int (nI i)), some (.int v)] []) (fun _ => rfl) ?_
  refine z_evK (v := .int (z_bo (¬ (nI s) < 0 ∧ (nI s) < 4))) (z' := 161) (σ' := (I, J, RF w)) (x_isPlace E d I J w (nI s)) ?_
  refine z_evG 1 (y := if (z_bo (¬ (nI s) < 0 ∧ (nI s) < 4)) = 0 then z_go 7 [some (.ref 0), some (.int (nI s)), some (.int (nI i)), some (.int v)] [] 161 (I, J, RF w) else z_go 10 [some (.ref 0), some (.int (nI s)), some (.int (nI i)), some (.int v)] [] 161 (I, J, RF w)) (fun _ => rfl) ?_
  refine z_evF (fun q0 => z_bo_0.mp q0 ⟨(mt (show _ ↔ s < 0 from z_ltN rfl rfl (by omega) (by omega)).mp (by omega)), ((show _ ↔ s < 4 from z_ltN rfl rfl (by omega) (by omega)).mpr (by omega))⟩) ?_
  refine z_evL ?_
  refine z_evG 4 (y := z_ret (z_cl E (d + 1) 97 [.ref 117, .int (nI s)] (161, (I, J, RF w))) 18 [some (.ref 0), some (.int (nI s)), some (.int (nI i)), some (.int v)] []) (fun _ => rfl) ?_
  refine z_evK (v := .int (z_bo (I 123 s = (-1)))) (z' := 161) (σ' := (I, J, RF w)) (x_sheets_isMissingN E d I J w s (by omega)) ?_
  refine z_evG 1 (y := if (z_bo (I 123 s = (-1))) = 0 then z_go 24 [some (.ref 0), some (.int (nI s)), some (.int (nI i)), some (.int v)] [] 161 (I, J, RF w) else z_go 21 [some (.ref 0), some (.int (nI s)), some (.int (nI i)), some (.int v)] [] 161 (I, J, RF w)) (fun _ => rfl) ?_
  refine z_evT (z_bo_0.mpr (by rw [hK]; decide)) ?_
  refine z_evL ?_
  refine z_evG 6 (y := z_ret (z_cl E (d + 1) 100 [.ref 117, .int (nI s), .int (nI i), .int 1] (161, (I, J, RF w))) 34 [some (.ref 0), some (.int (nI s)), some (.int (nI i)), some (.int v)] []) (fun _ => rfl) ?_
  refine z_evK (v := .int (z_bo (¬ (nI i) < 0 ∧ ¬ 1 < 0 ∧ ¬ I 124 s < (nI i) ∧ ¬ I 124 s - (nI i) < 1))) (z' := 161) (σ' := (I, J, RF w)) (x_sheets_holdsN E d I J w s (nI i) 1 (by omega)) ?_
  refine z_evG 1 (y := if (z_bo (¬ (nI i) < 0 ∧ ¬ 1 < 0 ∧ ¬ I 124 s < (nI i) ∧ ¬ I 124 s - (nI i) < 1)) = 0 then z_go 50 [some (.ref 0), some (.int (nI s)), some (.int (nI i)), some (.int v)] [] 161 (I, J, RF w) else z_go 37 [some (.ref 0), some (.int (nI s)), some (.int (nI i)), some (.int v)] [] 161 (I, J, RF w)) (fun _ => rfl) ?_
  refine z_evF (fun q0 => z_bo_0.mp q0 ⟨nI_pos (by omega), by decide, (mt (show _ ↔ n < i from z_ltN h_n rfl (by omega) (by omega)).mp (by omega)), (mt (show _ ↔ n - i < 1 from z_ltN (z_subE h_n rfl (by omega)) rfl (by omega) (by decide)).mp (by omega))⟩) ?_
  refine z_evL ?_
  refine z_evG 6 (y := z_ret (z_cl E (d + 1) 103 [.ref 117, .int (nI s), .int (nI i), .int v] (161, (I, J, RF w))) 47 [some (.ref 0), some (.int (nI s)), some (.int (nI i)), some (.int v)] []) (fun _ => rfl) ?_
  refine z_evK (v := .int 1) (z' := 161) (σ' := ((z_u2 I (119 + s) i v.toInt8.toInt32), J, RF w)) (x_put_0 E d I J w s i v (by omega) (by omega) hK) ?_
  refine z_evG 2 (y := some (.inr (some (.int 1), 161, (z_u2 I (119 + s) i v.toInt8.toInt32), J, RF w))) (fun _ => rfl) ?_
  exact z_evR rfl
set_option maxRecDepth 20000 in
/-- LampHouseModel.cell -/
theorem m_cell_0 (E : zE) (d : Nat) (I : Nat → Nat → Int32) (J : Nat → Nat → Int64) (w : Nat) (s i n : Nat) (v : Int32) (hl_s : s < 4) (h_n : I 158 s = nI n) (hm_n : n ≤ 40) (hl_i : i < n) (hK : I 157 s = 0) : z_cl E (d + 3) 249 [.ref 127, .int (nI s), .int (nI i), .int v] (161, I, J, RF w) = some (some (.int 1), 161, (z_u2 I 159 (40 * s + i) v.toInt8.toInt32), J, RF w) := by
  refine z_call (d := d + 2) (M := z_m249) rfl rfl ?_
  refine z_evG 2 (y := z_ret (z_cl E (d + 2) 247 [.int (nI s)] (161, (I, J, RF w))) 4 [some (.ref 127), some (.int (nI s)), some (.int (nI i)), some (.int v)] []) (fun _ => rfl) ?_
  refine z_evK (v := .int (z_bo (¬ (nI s) < 0 ∧ ¬ 3 < (nI s)))) (z' := 161) (σ' := (I, J, RF w)) (m_isSheet E d I J w (nI s)) ?_
  refine z_evG 1 (y := if (z_bo (¬ (nI s) < 0 ∧ ¬ 3 < (nI s))) = 0 then z_go 7 [some (.ref 127), some (.int (nI s)), some (.int (nI i)), some (.int v)] [] 161 (I, J, RF w) else z_go 10 [some (.ref 127), some (.int (nI s)), some (.int (nI i)), some (.int v)] [] 161 (I, J, RF w)) (fun _ => rfl) ?_
  refine z_evF (fun q0 => z_bo_0.mp q0 ⟨(mt (show _ ↔ s < 0 from z_ltN rfl rfl (by omega) (by omega)).mp (by omega)), (mt (show _ ↔ 3 < s from z_ltN rfl rfl (by omega) (by omega)).mp (by omega))⟩) ?_
  refine z_evL ?_
  refine z_evG 4 (y := z_ild (z_ia E 161 (I, J, RF w) 157) (nI s) fun vv => z_go 16 [some (.ref 127), some (.int (nI s)), some (.int (nI i)), some (.int v)] [.int vv] 161 (I, J, RF w)) (fun _ => rfl) ?_
  refine z_evBn (N := 4) (f := (I 157)) (k := s) rfl rfl (by omega) ?_
  refine z_evL ?_
  rw [show I 157 s = 0 from hK]
  refine z_evG 1 (y := if 0 < 0 then z_go 19 [some (.ref 127), some (.int (nI s)), some (.int (nI i)), some (.int v)] [] 161 (I, J, RF w) else z_go 22 [some (.ref 127), some (.int (nI s)), some (.int (nI i)), some (.int v)] [] 161 (I, J, RF w)) (fun _ => rfl) ?_
  refine z_evI (fun q => absurd q (by decide)) (fun _ => ?_)
  refine z_evL ?_
  refine z_evG 6 (y := z_ild (z_ia E 161 (I, J, RF w) 158) (nI s) fun vv => z_go 30 [some (.ref 127), some (.int (nI s)), some (.int (nI i)), some (.int v)] [.int vv, .int 0, .int (nI i)] 161 (I, J, RF w)) (fun _ => rfl) ?_
  refine z_evBn (N := 4) (f := (I 158)) (k := s) rfl rfl (by omega) ?_
  refine z_evL ?_
  refine z_evG 3 (y := z_ret (z_cl E (d + 2) 178 [.int (nI i), .int 0, .int ((I 158 s) - 1)] (161, (I, J, RF w))) 35 [some (.ref 127), some (.int (nI s)), some (.int (nI i)), some (.int v)] []) (fun _ => rfl) ?_
  refine z_evK (v := .int (z_bo (¬ (nI i) < 0 ∧ ¬ ((I 158 s) - 1) < (nI i)))) (z' := 161) (σ' := (I, J, RF w)) (m_in E (d + 1) I J w (nI i) 0 ((I 158 s) - 1)) ?_
  refine z_evG 1 (y := if (z_bo (¬ (nI i) < 0 ∧ ¬ ((I 158 s) - 1) < (nI i))) = 0 then z_go 38 [some (.ref 127), some (.int (nI s)), some (.int (nI i)), some (.int v)] [] 161 (I, J, RF w) else z_go 41 [some (.ref 127), some (.int (nI s)), some (.int (nI i)), some (.int v)] [] 161 (I, J, RF w)) (fun _ => rfl) ?_
  refine z_evF (fun q0 => z_bo_0.mp q0 ⟨(mt (show _ ↔ i < 0 from z_ltN rfl rfl (by omega) (by omega)).mp (by omega)), (z_plt h_n rfl (by omega) (by omega))⟩) ?_
  refine z_evL ?_
  refine z_evG 11 (y := z_ild (z_ia E 161 (I, J, RF w) 157) (nI s) fun vv => z_go 57 [some (.ref 127), some (.int (nI s)), some (.int (nI i)), some (.int v)] [.int vv, .int ((40 * (nI s)) + (nI i)), .ref 159] 161 (I, J, RF w)) (fun _ => rfl) ?_
  refine z_evBn (N := 4) (f := (I 157)) (k := s) rfl rfl (by omega) ?_
  refine z_evL ?_
  rw [show I 157 s = 0 from hK]
  refine z_evG 1 (y := if 0 = 0 then z_go 60 [some (.ref 127), some (.int (nI s)), some (.int (nI i)), some (.int v)] [.int ((40 * (nI s)) + (nI i)), .ref 159] 161 (I, J, RF w) else z_go 65 [some (.ref 127), some (.int (nI s)), some (.int (nI i)), some (.int v)] [.int ((40 * (nI s)) + (nI i)), .ref 159] 161 (I, J, RF w)) (fun _ => rfl) ?_
  refine z_evI (fun _ => ?_) (fun q => absurd (by decide) q)
  refine z_evL ?_
  refine z_evG 4 (y := z_ck (z_in ((40 * (nI s)) + (nI i)) 160) (z_go 82 [some (.ref 127), some (.int (nI s)), some (.int (nI i)), some (.int v)] [] 161 ((z_u2 I 159 (((40 * (nI s)) + (nI i)).toNatClampNeg) v.toInt8.toInt32), J, RF w))) (fun _ => rfl) ?_
  refine z_evC (z_inN (k := 40 * s + i) (z_addE (z_mulE rfl rfl) rfl) (by omega) (by decide)) ?_
  refine z_evL ?_
  rw [show (((40 * (nI s)) + (nI i) : Int32)).toNatClampNeg = 40 * s + i from z_natE (z_addE (z_mulE rfl rfl) rfl) (by omega)]
  refine z_evG 2 (y := some (.inr (some (.int 1), 161, (z_u2 I 159 (40 * s + i) v.toInt8.toInt32), J, RF w))) (fun _ => rfl) ?_
  exact z_evR rfl
set_option maxRecDepth 20000 in
/-- LampHouse.cell -/
theorem x_cell_1 (E : zE) (d : Nat) (I : Nat → Nat → Int32) (J : Nat → Nat → Int64) (w : Nat) (s i n : Nat) (v : Int32) (hl_s : s < 4) (h_n : I 124 s = nI n) (hm_n : n ≤ 40) (hl_i : i < n) (hK : I 123 s = 1) : z_cl E (d + 2) 162 [.ref 0, .int (nI s), .int (nI i), .int v] (161, I, J, RF w) = some (some (.int 1), 161, (z_u2 I (119 + s) i v.toInt16.toInt32), J, RF w) := by
  refine z_call (d := d + 1) (M := z_m162) rfl rfl ?_
  refine z_evG 2 (y := z_ret (z_cl E (d + 1) 95 [.int (nI s)] (161, (I, J, RF w))) 4 [some (.ref 0), some (.int (nI s)), some (.int (nI i)), some (.int v)] []) (fun _ => rfl) ?_
  refine z_evK (v := .int (z_bo (¬ (nI s) < 0 ∧ (nI s) < 4))) (z' := 161) (σ' := (I, J, RF w)) (x_isPlace E d I J w (nI s)) ?_
  refine z_evG 1 (y := if (z_bo (¬ (nI s) < 0 ∧ (nI s) < 4)) = 0 then z_go 7 [some (.ref 0), some (.int (nI s)), some (.int (nI i)), some (.int v)] [] 161 (I, J, RF w) else z_go 10 [some (.ref 0), some (.int (nI s)), some (.int (nI i)), some (.int v)] [] 161 (I, J, RF w)) (fun _ => rfl) ?_
  refine z_evF (fun q0 => z_bo_0.mp q0 ⟨(mt (show _ ↔ s < 0 from z_ltN rfl rfl (by omega) (by omega)).mp (by omega)), ((show _ ↔ s < 4 from z_ltN rfl rfl (by omega) (by omega)).mpr (by omega))⟩) ?_
  refine z_evL ?_
  refine z_evG 4 (y := z_ret (z_cl E (d + 1) 97 [.ref 117, .int (nI s)] (161, (I, J, RF w))) 18 [some (.ref 0), some (.int (nI s)), some (.int (nI i)), some (.int v)] []) (fun _ => rfl) ?_
  refine z_evK (v := .int (z_bo (I 123 s = (-1)))) (z' := 161) (σ' := (I, J, RF w)) (x_sheets_isMissingN E d I J w s (by omega)) ?_
  refine z_evG 1 (y := if (z_bo (I 123 s = (-1))) = 0 then z_go 24 [some (.ref 0), some (.int (nI s)), some (.int (nI i)), some (.int v)] [] 161 (I, J, RF w) else z_go 21 [some (.ref 0), some (.int (nI s)), some (.int (nI i)), some (.int v)] [] 161 (I, J, RF w)) (fun _ => rfl) ?_
  refine z_evT (z_bo_0.mpr (by rw [hK]; decide)) ?_
  refine z_evL ?_
  refine z_evG 6 (y := z_ret (z_cl E (d + 1) 100 [.ref 117, .int (nI s), .int (nI i), .int 1] (161, (I, J, RF w))) 34 [some (.ref 0), some (.int (nI s)), some (.int (nI i)), some (.int v)] []) (fun _ => rfl) ?_
  refine z_evK (v := .int (z_bo (¬ (nI i) < 0 ∧ ¬ 1 < 0 ∧ ¬ I 124 s < (nI i) ∧ ¬ I 124 s - (nI i) < 1))) (z' := 161) (σ' := (I, J, RF w)) (x_sheets_holdsN E d I J w s (nI i) 1 (by omega)) ?_
  refine z_evG 1 (y := if (z_bo (¬ (nI i) < 0 ∧ ¬ 1 < 0 ∧ ¬ I 124 s < (nI i) ∧ ¬ I 124 s - (nI i) < 1)) = 0 then z_go 50 [some (.ref 0), some (.int (nI s)), some (.int (nI i)), some (.int v)] [] 161 (I, J, RF w) else z_go 37 [some (.ref 0), some (.int (nI s)), some (.int (nI i)), some (.int v)] [] 161 (I, J, RF w)) (fun _ => rfl) ?_
  refine z_evF (fun q0 => z_bo_0.mp q0 ⟨nI_pos (by omega), by decide, (mt (show _ ↔ n < i from z_ltN h_n rfl (by omega) (by omega)).mp (by omega)), (mt (show _ ↔ n - i < 1 from z_ltN (z_subE h_n rfl (by omega)) rfl (by omega) (by decide)).mp (by omega))⟩) ?_
  refine z_evL ?_
  refine z_evG 6 (y := z_ret (z_cl E (d + 1) 103 [.ref 117, .int (nI s), .int (nI i), .int v] (161, (I, J, RF w))) 47 [some (.ref 0), some (.int (nI s)), some (.int (nI i)), some (.int v)] []) (fun _ => rfl) ?_
  refine z_evK (v := .int 1) (z' := 161) (σ' := ((z_u2 I (119 + s) i v.toInt16.toInt32), J, RF w)) (x_put_1 E d I J w s i v (by omega) (by omega) hK) ?_
  refine z_evG 2 (y := some (.inr (some (.int 1), 161, (z_u2 I (119 + s) i v.toInt16.toInt32), J, RF w))) (fun _ => rfl) ?_
  exact z_evR rfl
set_option maxRecDepth 20000 in
/-- LampHouseModel.cell -/
theorem m_cell_1 (E : zE) (d : Nat) (I : Nat → Nat → Int32) (J : Nat → Nat → Int64) (w : Nat) (s i n : Nat) (v : Int32) (hl_s : s < 4) (h_n : I 158 s = nI n) (hm_n : n ≤ 40) (hl_i : i < n) (hK : I 157 s = 1) : z_cl E (d + 3) 249 [.ref 127, .int (nI s), .int (nI i), .int v] (161, I, J, RF w) = some (some (.int 1), 161, (z_u2 I 159 (40 * s + i) v.toInt16.toInt32), J, RF w) := by
  refine z_call (d := d + 2) (M := z_m249) rfl rfl ?_
  refine z_evG 2 (y := z_ret (z_cl E (d + 2) 247 [.int (nI s)] (161, (I, J, RF w))) 4 [some (.ref 127), some (.int (nI s)), some (.int (nI i)), some (.int v)] []) (fun _ => rfl) ?_
  refine z_evK (v := .int (z_bo (¬ (nI s) < 0 ∧ ¬ 3 < (nI s)))) (z' := 161) (σ' := (I, J, RF w)) (m_isSheet E d I J w (nI s)) ?_
  refine z_evG 1 (y := if (z_bo (¬ (nI s) < 0 ∧ ¬ 3 < (nI s))) = 0 then z_go 7 [some (.ref 127), some (.int (nI s)), some (.int (nI i)), some (.int v)] [] 161 (I, J, RF w) else z_go 10 [some (.ref 127), some (.int (nI s)), some (.int (nI i)), some (.int v)] [] 161 (I, J, RF w)) (fun _ => rfl) ?_
  refine z_evF (fun q0 => z_bo_0.mp q0 ⟨(mt (show _ ↔ s < 0 from z_ltN rfl rfl (by omega) (by omega)).mp (by omega)), (mt (show _ ↔ 3 < s from z_ltN rfl rfl (by omega) (by omega)).mp (by omega))⟩) ?_
  refine z_evL ?_
  refine z_evG 4 (y := z_ild (z_ia E 161 (I, J, RF w) 157) (nI s) fun vv => z_go 16 [some (.ref 127), some (.int (nI s)), some (.int (nI i)), some (.int v)] [.int vv] 161 (I, J, RF w)) (fun _ => rfl) ?_
  refine z_evBn (N := 4) (f := (I 157)) (k := s) rfl rfl (by omega) ?_
  refine z_evL ?_
  rw [show I 157 s = 1 from hK]
  refine z_evG 1 (y := if 1 < 0 then z_go 19 [some (.ref 127), some (.int (nI s)), some (.int (nI i)), some (.int v)] [] 161 (I, J, RF w) else z_go 22 [some (.ref 127), some (.int (nI s)), some (.int (nI i)), some (.int v)] [] 161 (I, J, RF w)) (fun _ => rfl) ?_
  refine z_evI (fun q => absurd q (by decide)) (fun _ => ?_)
  refine z_evL ?_
  refine z_evG 6 (y := z_ild (z_ia E 161 (I, J, RF w) 158) (nI s) fun vv => z_go 30 [some (.ref 127), some (.int (nI s)), some (.int (nI i)), some (.int v)] [.int vv, .int 0, .int (nI i)] 161 (I, J, RF w)) (fun _ => rfl) ?_
  refine z_evBn (N := 4) (f := (I 158)) (k := s) rfl rfl (by omega) ?_
  refine z_evL ?_
  refine z_evG 3 (y := z_ret (z_cl E (d + 2) 178 [.int (nI i), .int 0, .int ((I 158 s) - 1)] (161, (I, J, RF w))) 35 [some (.ref 127), some (.int (nI s)), some (.int (nI i)), some (.int v)] []) (fun _ => rfl) ?_
  refine z_evK (v := .int (z_bo (¬ (nI i) < 0 ∧ ¬ ((I 158 s) - 1) < (nI i)))) (z' := 161) (σ' := (I, J, RF w)) (m_in E (d + 1) I J w (nI i) 0 ((I 158 s) - 1)) ?_
  refine z_evG 1 (y := if (z_bo (¬ (nI i) < 0 ∧ ¬ ((I 158 s) - 1) < (nI i))) = 0 then z_go 38 [some (.ref 127), some (.int (nI s)), some (.int (nI i)), some (.int v)] [] 161 (I, J, RF w) else z_go 41 [some (.ref 127), some (.int (nI s)), some (.int (nI i)), some (.int v)] [] 161 (I, J, RF w)) (fun _ => rfl) ?_
  refine z_evF (fun q0 => z_bo_0.mp q0 ⟨(mt (show _ ↔ i < 0 from z_ltN rfl rfl (by omega) (by omega)).mp (by omega)), (z_plt h_n rfl (by omega) (by omega))⟩) ?_
  refine z_evL ?_
  refine z_evG 11 (y := z_ild (z_ia E 161 (I, J, RF w) 157) (nI s) fun vv => z_go 57 [some (.ref 127), some (.int (nI s)), some (.int (nI i)), some (.int v)] [.int vv, .int ((40 * (nI s)) + (nI i)), .ref 159] 161 (I, J, RF w)) (fun _ => rfl) ?_
  refine z_evBn (N := 4) (f := (I 157)) (k := s) rfl rfl (by omega) ?_
  refine z_evL ?_
  rw [show I 157 s = 1 from hK]
  refine z_evG 1 (y := if 1 = 0 then z_go 60 [some (.ref 127), some (.int (nI s)), some (.int (nI i)), some (.int v)] [.int ((40 * (nI s)) + (nI i)), .ref 159] 161 (I, J, RF w) else z_go 65 [some (.ref 127), some (.int (nI s)), some (.int (nI i)), some (.int v)] [.int ((40 * (nI s)) + (nI i)), .ref 159] 161 (I, J, RF w)) (fun _ => rfl) ?_
  refine z_evI (fun q => absurd q (by decide)) (fun _ => ?_)
  refine z_evL ?_
  refine z_evG 4 (y := z_ild (z_ia E 161 (I, J, RF w) 157) (nI s) fun vv => z_go 71 [some (.ref 127), some (.int (nI s)), some (.int (nI i)), some (.int v)] [.int vv, .int ((40 * (nI s)) + (nI i)), .ref 159] 161 (I, J, RF w)) (fun _ => rfl) ?_
  refine z_evBn (N := 4) (f := (I 157)) (k := s) rfl rfl (by omega) ?_
  refine z_evL ?_
  rw [show I 157 s = 1 from hK]
  refine z_evG 2 (y := if 1 = 1 then z_go 75 [some (.ref 127), some (.int (nI s)), some (.int (nI i)), some (.int v)] [.int ((40 * (nI s)) + (nI i)), .ref 159] 161 (I, J, RF w) else z_go 80 [some (.ref 127), some (.int (nI s)), some (.int (nI i)), some (.int v)] [.int ((40 * (nI s)) + (nI i)), .ref 159] 161 (I, J, RF w)) (fun _ => rfl) ?_
  refine z_evI (fun _ => ?_) (fun q => absurd (by decide) q)
  refine z_evL ?_
  refine z_evG 4 (y := z_ck (z_in ((40 * (nI s)) + (nI i)) 160) (z_go 82 [some (.ref 127), some (.int (nI s)), some (.int (nI i)), some (.int v)] [] 161 ((z_u2 I 159 (((40 * (nI s)) + (nI i)).toNatClampNeg) v.toInt16.toInt32), J, RF w))) (fun _ => rfl) ?_
  refine z_evC (z_inN (k := 40 * s + i) (z_addE (z_mulE rfl rfl) rfl) (by omega) (by decide)) ?_
  refine z_evL ?_
  rw [show (((40 * (nI s)) + (nI i) : Int32)).toNatClampNeg = 40 * s + i from z_natE (z_addE (z_mulE rfl rfl) rfl) (by omega)]
  refine z_evG 2 (y := some (.inr (some (.int 1), 161, (z_u2 I 159 (40 * s + i) v.toInt16.toInt32), J, RF w))) (fun _ => rfl) ?_
  exact z_evR rfl
set_option maxRecDepth 20000 in
/-- LampHouse.cell -/
theorem x_cell_2 (E : zE) (d : Nat) (I : Nat → Nat → Int32) (J : Nat → Nat → Int64) (w : Nat) (s i n : Nat) (v : Int32) (hl_s : s < 4) (h_n : I 124 s = nI n) (hm_n : n ≤ 40) (hl_i : i < n) (hK : I 123 s = 2) : z_cl E (d + 2) 162 [.ref 0, .int (nI s), .int (nI i), .int v] (161, I, J, RF w) = some (some (.int 1), 161, (z_u2 I (119 + s) i v), J, RF w) := by
  refine z_call (d := d + 1) (M := z_m162) rfl rfl ?_
  refine z_evG 2 (y := z_ret (z_cl E (d + 1) 95 [.int (nI s)] (161, (I, J, RF w))) 4 [some (.ref 0), some (.int (nI s)), some (.int (nI i)), some (.int v)] []) (fun _ => rfl) ?_
  refine z_evK (v := .int (z_bo (¬ (nI s) < 0 ∧ (nI s) < 4))) (z' := 161) (σ' := (I, J, RF w)) (x_isPlace E d I J w (nI s)) ?_
  refine z_evG 1 (y := if (z_bo (¬ (nI s) < 0 ∧ (nI s) < 4)) = 0 then z_go 7 [some (.ref 0), some (.int (nI s)), some (.int (nI i)), some (.int v)] [] 161 (I, J, RF w) else z_go 10 [some (.ref 0), some (.int (nI s)), some (.int (nI i)), some (.int v)] [] 161 (I, J, RF w)) (fun _ => rfl) ?_
  refine z_evF (fun q0 => z_bo_0.mp q0 ⟨(mt (show _ ↔ s < 0 from z_ltN rfl rfl (by omega) (by omega)).mp (by omega)), ((show _ ↔ s < 4 from z_ltN rfl rfl (by omega) (by omega)).mpr (by omega))⟩) ?_
  refine z_evL ?_
  refine z_evG 4 (y := z_ret (z_cl E (d + 1) 97 [.ref 117, .int (nI s)] (161, (I, J, RF w))) 18 [some (.ref 0), some (.int (nI s)), some (.int (nI i)), some (.int v)] []) (fun _ => rfl) ?_
  refine z_evK (v := .int (z_bo (I 123 s = (-1)))) (z' := 161) (σ' := (I, J, RF w)) (x_sheets_isMissingN E d I J w s (by omega)) ?_
  refine z_evG 1 (y := if (z_bo (I 123 s = (-1))) = 0 then z_go 24 [some (.ref 0), some (.int (nI s)), some (.int (nI i)), some (.int v)] [] 161 (I, J, RF w) else z_go 21 [some (.ref 0), some (.int (nI s)), some (.int (nI i)), some (.int v)] [] 161 (I, J, RF w)) (fun _ => rfl) ?_
  refine z_evT (z_bo_0.mpr (by rw [hK]; decide)) ?_
  refine z_evL ?_
  refine z_evG 6 (y := z_ret (z_cl E (d + 1) 100 [.ref 117, .int (nI s), .int (nI i), .int 1] (161, (I, J, RF w))) 34 [some (.ref 0), some (.int (nI s)), some (.int (nI i)), some (.int v)] []) (fun _ => rfl) ?_
  refine z_evK (v := .int (z_bo (¬ (nI i) < 0 ∧ ¬ 1 < 0 ∧ ¬ I 124 s < (nI i) ∧ ¬ I 124 s - (nI i) < 1))) (z' := 161) (σ' := (I, J, RF w)) (x_sheets_holdsN E d I J w s (nI i) 1 (by omega)) ?_
  refine z_evG 1 (y := if (z_bo (¬ (nI i) < 0 ∧ ¬ 1 < 0 ∧ ¬ I 124 s < (nI i) ∧ ¬ I 124 s - (nI i) < 1)) = 0 then z_go 50 [some (.ref 0), some (.int (nI s)), some (.int (nI i)), some (.int v)] [] 161 (I, J, RF w) else z_go 37 [some (.ref 0), some (.int (nI s)), some (.int (nI i)), some (.int v)] [] 161 (I, J, RF w)) (fun _ => rfl) ?_
  refine z_evF (fun q0 => z_bo_0.mp q0 ⟨nI_pos (by omega), by decide, (mt (show _ ↔ n < i from z_ltN h_n rfl (by omega) (by omega)).mp (by omega)), (mt (show _ ↔ n - i < 1 from z_ltN (z_subE h_n rfl (by omega)) rfl (by omega) (by decide)).mp (by omega))⟩) ?_
  refine z_evL ?_
  refine z_evG 6 (y := z_ret (z_cl E (d + 1) 103 [.ref 117, .int (nI s), .int (nI i), .int v] (161, (I, J, RF w))) 47 [some (.ref 0), some (.int (nI s)), some (.int (nI i)), some (.int v)] []) (fun _ => rfl) ?_
  refine z_evK (v := .int 1) (z' := 161) (σ' := ((z_u2 I (119 + s) i v), J, RF w)) (x_put_2 E d I J w s i v (by omega) (by omega) hK) ?_
  refine z_evG 2 (y := some (.inr (some (.int 1), 161, (z_u2 I (119 + s) i v), J, RF w))) (fun _ => rfl) ?_
  exact z_evR rfl
set_option maxRecDepth 20000 in
/-- LampHouseModel.cell -/
theorem m_cell_2 (E : zE) (d : Nat) (I : Nat → Nat → Int32) (J : Nat → Nat → Int64) (w : Nat) (s i n : Nat) (v : Int32) (hl_s : s < 4) (h_n : I 158 s = nI n) (hm_n : n ≤ 40) (hl_i : i < n) (hK : I 157 s = 2) : z_cl E (d + 3) 249 [.ref 127, .int (nI s), .int (nI i), .int v] (161, I, J, RF w) = some (some (.int 1), 161, (z_u2 I 159 (40 * s + i) v), J, RF w) := by
  refine z_call (d := d + 2) (M := z_m249) rfl rfl ?_
  refine z_evG 2 (y := z_ret (z_cl E (d + 2) 247 [.int (nI s)] (161, (I, J, RF w))) 4 [some (.ref 127), some (.int (nI s)), some (.int (nI i)), some (.int v)] []) (fun _ => rfl) ?_
  refine z_evK (v := .int (z_bo (¬ (nI s) < 0 ∧ ¬ 3 < (nI s)))) (z' := 161) (σ' := (I, J, RF w)) (m_isSheet E d I J w (nI s)) ?_
  refine z_evG 1 (y := if (z_bo (¬ (nI s) < 0 ∧ ¬ 3 < (nI s))) = 0 then z_go 7 [some (.ref 127), some (.int (nI s)), some (.int (nI i)), some (.int v)] [] 161 (I, J, RF w) else z_go 10 [some (.ref 127), some (.int (nI s)), some (.int (nI i)), some (.int v)] [] 161 (I, J, RF w)) (fun _ => rfl) ?_
  refine z_evF (fun q0 => z_bo_0.mp q0 ⟨(mt (show _ ↔ s < 0 from z_ltN rfl rfl (by omega) (by omega)).mp (by omega)), (mt (show _ ↔ 3 < s from z_ltN rfl rfl (by omega) (by omega)).mp (by omega))⟩) ?_
  refine z_evL ?_
  refine z_evG 4 (y := z_ild (z_ia E 161 (I, J, RF w) 157) (nI s) fun vv => z_go 16 [some (.ref 127), some (.int (nI s)), some (.int (nI i)), some (.int v)] [.int vv] 161 (I, J, RF w)) (fun _ => rfl) ?_
  refine z_evBn (N := 4) (f := (I 157)) (k := s) rfl rfl (by omega) ?_
  refine z_evL ?_
  rw [show I 157 s = 2 from hK]
  refine z_evG 1 (y := if 2 < 0 then z_go 19 [some (.ref 127), some (.int (nI s)), some (.int (nI i)), some (.int v)] [] 161 (I, J, RF w) else z_go 22 [some (.ref 127), some (.int (nI s)), some (.int (nI i)), some (.int v)] [] 161 (I, J, RF w)) (fun _ => rfl) ?_
  refine z_evI (fun q => absurd q (by decide)) (fun _ => ?_)
  refine z_evL ?_
  refine z_evG 6 (y := z_ild (z_ia E 161 (I, J, RF w) 158) (nI s) fun vv => z_go 30 [some (.ref 127), some (.int (nI s)), some (.int (nI i)), some (.int v)] [.int vv, .int 0, .int (nI i)] 161 (I, J, RF w)) (fun _ => rfl) ?_
  refine z_evBn (N := 4) (f := (I 158)) (k := s) rfl rfl (by omega) ?_
  refine z_evL ?_
  refine z_evG 3 (y := z_ret (z_cl E (d + 2) 178 [.int (nI i), .int 0, .int ((I 158 s) - 1)] (161, (I, J, RF w))) 35 [some (.ref 127), some (.int (nI s)), some (.int (nI i)), some (.int v)] []) (fun _ => rfl) ?_
  refine z_evK (v := .int (z_bo (¬ (nI i) < 0 ∧ ¬ ((I 158 s) - 1) < (nI i)))) (z' := 161) (σ' := (I, J, RF w)) (m_in E (d + 1) I J w (nI i) 0 ((I 158 s) - 1)) ?_
  refine z_evG 1 (y := if (z_bo (¬ (nI i) < 0 ∧ ¬ ((I 158 s) - 1) < (nI i))) = 0 then z_go 38 [some (.ref 127), some (.int (nI s)), some (.int (nI i)), some (.int v)] [] 161 (I, J, RF w) else z_go 41 [some (.ref 127), some (.int (nI s)), some (.int (nI i)), some (.int v)] [] 161 (I, J, RF w)) (fun _ => rfl) ?_
  refine z_evF (fun q0 => z_bo_0.mp q0 ⟨(mt (show _ ↔ i < 0 from z_ltN rfl rfl (by omega) (by omega)).mp (by omega)), (z_plt h_n rfl (by omega) (by omega))⟩) ?_
  refine z_evL ?_
  refine z_evG 11 (y := z_ild (z_ia E 161 (I, J, RF w) 157) (nI s) fun vv => z_go 57 [some (.ref 127), some (.int (nI s)), some (.int (nI i)), some (.int v)] [.int vv, .int ((40 * (nI s)) + (nI i)), .ref 159] 161 (I, J, RF w)) (fun _ => rfl) ?_
  refine z_evBn (N := 4) (f := (I 157)) (k := s) rfl rfl (by omega) ?_
  refine z_evL ?_
  rw [show I 157 s = 2 from hK]
  refine z_evG 1 (y := if 2 = 0 then z_go 60 [some (.ref 127), some (.int (nI s)), some (.int (nI i)), some (.int v)] [.int ((40 * (nI s)) + (nI i)), .ref 159] 161 (I, J, RF w) else z_go 65 [some (.ref 127), some (.int (nI s)), some (.int (nI i)), some (.int v)] [.int ((40 * (nI s)) + (nI i)), .ref 159] 161 (I, J, RF w)) (fun _ => rfl) ?_
  refine z_evI (fun q => absurd q (by decide)) (fun _ => ?_)
  refine z_evL ?_
  refine z_evG 4 (y := z_ild (z_ia E 161 (I, J, RF w) 157) (nI s) fun vv => z_go 71 [some (.ref 127), some (.int (nI s)), some (.int (nI i)), some (.int v)] [.int vv, .int ((40 * (nI s)) + (nI i)), .ref 159] 161 (I, J, RF w)) (fun _ => rfl) ?_
  refine z_evBn (N := 4) (f := (I 157)) (k := s) rfl rfl (by omega) ?_
  refine z_evL ?_
  rw [show I 157 s = 2 from hK]
  refine z_evG 2 (y := if 2 = 1 then z_go 75 [some (.ref 127), some (.int (nI s)), some (.int (nI i)), some (.int v)] [.int ((40 * (nI s)) + (nI i)), .ref 159] 161 (I, J, RF w) else z_go 80 [some (.ref 127), some (.int (nI s)), some (.int (nI i)), some (.int v)] [.int ((40 * (nI s)) + (nI i)), .ref 159] 161 (I, J, RF w)) (fun _ => rfl) ?_
  refine z_evI (fun q => absurd q (by decide)) (fun _ => ?_)
  refine z_evL ?_
  refine z_evG 2 (y := z_ck (z_in ((40 * (nI s)) + (nI i)) 160) (z_go 82 [some (.ref 127), some (.int (nI s)), some (.int (nI i)), some (.int v)] [] 161 ((z_u2 I 159 (((40 * (nI s)) + (nI i)).toNatClampNeg) v), J, RF w))) (fun _ => rfl) ?_
  refine z_evC (z_inN (k := 40 * s + i) (z_addE (z_mulE rfl rfl) rfl) (by omega) (by decide)) ?_
  refine z_evL ?_
  rw [show (((40 * (nI s)) + (nI i) : Int32)).toNatClampNeg = 40 * s + i from z_natE (z_addE (z_mulE rfl rfl) rfl) (by omega)]
  refine z_evG 2 (y := some (.inr (some (.int 1), 161, (z_u2 I 159 (40 * s + i) v), J, RF w))) (fun _ => rfl) ?_
  exact z_evR rfl
