-- CELL outside; SHEET
set_option maxRecDepth 20000 in
/-- LampHouse.cell -/
theorem x_cell_out_0 (E : zE) (d : Nat) (I : Nat → Nat → Int32) (J : Nat → Nat → Int64) (w : Nat) (s : Nat) (i v : Int32) (hl_s : s < 4) (hK : I 123 s = 0) (hbad : ¬ (¬ i < 0 ∧ ¬ (1 : Int32) < 0 ∧ ¬ I 124 s < i ∧ ¬ I 124 s - i < 1)) : z_cl E (d + 2) 162 [.ref 0, .int (nI s), .int i, .int v] (161, I, J, RF w) = some (some (.int (-12)), 161, I, J, RF w) := by
  refine z_call (d := d + 1) (M := z_m162) rfl rfl ?_
  refine z_evG 2 (y := z_ret (z_cl E (d + 1) 95 [.int (nI s)] (161, (I, J, RF w))) 4 [some (.ref 0), some (.int (nI s)), some (.int i), some (.int v)] []) (fun _ => rfl) ?_
  refine z_evK (v := .int (z_bo (¬ (nI s) < 0 ∧ (nI s) < 4))) (z' := 161) (σ' := (I, J, RF w)) (x_isPlace E d I J w (nI s)) ?_
  refine z_evG 1 (y := if (z_bo (¬ (nI s) < 0 ∧ (nI s) < 4)) = 0 then z_go 7 [some (.ref 0), some (.int (nI s)), some (.int i), some (.int v)] [] 161 (I, J, RF w) else z_go 10 [some (.ref 0), some (.int (nI s)), some (.int i), some (.int v)] [] 161 (I, J, RF w)) (fun _ => rfl) ?_
  refine z_evF (fun q0 => z_bo_0.mp q0 ⟨nI_pos (by omega), (show _ ↔ s < 4 from z_ltN rfl rfl (by omega) (by decide)).mpr (by omega)⟩) ?_
  refine z_evL ?_
  refine z_evG 4 (y := z_ret (z_cl E (d + 1) 97 [.ref 117, .int (nI s)] (161, (I, J, RF w))) 18 [some (.ref 0), some (.int (nI s)), some (.int i), some (.int v)] []) (fun _ => rfl) ?_
  refine z_evK (v := .int (z_bo (I 123 s = (-1)))) (z' := 161) (σ' := (I, J, RF w)) (x_sheets_isMissingN E d I J w s (by omega)) ?_
  refine z_evG 1 (y := if (z_bo (I 123 s = (-1))) = 0 then z_go 24 [some (.ref 0), some (.int (nI s)), some (.int i), some (.int v)] [] 161 (I, J, RF w) else z_go 21 [some (.ref 0), some (.int (nI s)), some (.int i), some (.int v)] [] 161 (I, J, RF w)) (fun _ => rfl) ?_
  refine z_evT (z_bo_0.mpr (by rw [hK]; decide)) ?_
  refine z_evL ?_
  refine z_evG 6 (y := z_ret (z_cl E (d + 1) 100 [.ref 117, .int (nI s), .int i, .int 1] (161, (I, J, RF w))) 34 [some (.ref 0), some (.int (nI s)), some (.int i), some (.int v)] []) (fun _ => rfl) ?_
  refine z_evK (v := .int (z_bo (¬ i < 0 ∧ ¬ 1 < 0 ∧ ¬ I 124 s < i ∧ ¬ I 124 s - i < 1))) (z' := 161) (σ' := (I, J, RF w)) (x_sheets_holdsN E d I J w s i 1 (by omega)) ?_
  refine z_evG 1 (y := if (z_bo (¬ i < 0 ∧ ¬ 1 < 0 ∧ ¬ I 124 s < i ∧ ¬ I 124 s - i < 1)) = 0 then z_go 50 [some (.ref 0), some (.int (nI s)), some (.int i), some (.int v)] [] 161 (I, J, RF w) else z_go 37 [some (.ref 0), some (.int (nI s)), some (.int i), some (.int v)] [] 161 (I, J, RF w)) (fun _ => rfl) ?_
  refine z_evO (fun h3 => ?_) (fun h3 => ?_)
  · refine z_evL ?_
    refine z_evG 2 (y := some (.inr (some (.int (-12)), 161, I, J, RF w))) (fun _ => rfl) ?_
    exact z_evR rfl
  · refine z_evL ?_
    exact absurd h3 hbad
set_option maxRecDepth 20000 in
/-- LampHouseModel.cell -/
theorem m_cell_out_0 (E : zE) (d : Nat) (I : Nat → Nat → Int32) (J : Nat → Nat → Int64) (w : Nat) (s : Nat) (i v : Int32) (hl_s : s < 4) (hK : I 157 s = 0) (hbad : ¬ (¬ i < 0 ∧ ¬ I 158 s - 1 < i)) : z_cl E (d + 3) 249 [.ref 127, .int (nI s), .int i, .int v] (161, I, J, RF w) = some (some (.int (-12)), 161, I, J, RF w) := by
  refine z_call (d := d + 2) (M := z_m249) rfl rfl ?_
  refine z_evG 2 (y := z_ret (z_cl E (d + 2) 247 [.int (nI s)] (161, (I, J, RF w))) 4 [some (.ref 127), some (.int (nI s)), some (.int i), some (.int v)] []) (fun _ => rfl) ?_
  refine z_evK (v := .int (z_bo (¬ (nI s) < 0 ∧ ¬ 3 < (nI s)))) (z' := 161) (σ' := (I, J, RF w)) (m_isSheet E d I J w (nI s)) ?_
  refine z_evG 1 (y := if (z_bo (¬ (nI s) < 0 ∧ ¬ 3 < (nI s))) = 0 then z_go 7 [some (.ref 127), some (.int (nI s)), some (.int i), some (.int v)] [] 161 (I, J, RF w) else z_go 10 [some (.ref 127), some (.int (nI s)), some (.int i), some (.int v)] [] 161 (I, J, RF w)) (fun _ => rfl) ?_
  refine z_evF (fun q0 => z_bo_0.mp q0 ⟨nI_pos (by omega), mt (show _ ↔ 3 < s from z_ltN rfl rfl (by decide) (by omega)).mp (by omega)⟩) ?_
  refine z_evL ?_
  refine z_evG 4 (y := z_ild (z_ia E 161 (I, J, RF w) 157) (nI s) fun vv => z_go 16 [some (.ref 127), some (.int (nI s)), some (.int i), some (.int v)] [.int vv] 161 (I, J, RF w)) (fun _ => rfl) ?_
  refine z_evBn (N := 4) (f := (I 157)) (k := s) rfl rfl (by omega) ?_
  refine z_evL ?_
  rw [show I 157 s = 0 from hK]
  refine z_evG 1 (y := if 0 < 0 then z_go 19 [some (.ref 127), some (.int (nI s)), some (.int i), some (.int v)] [] 161 (I, J, RF w) else z_go 22 [some (.ref 127), some (.int (nI s)), some (.int i), some (.int v)] [] 161 (I, J, RF w)) (fun _ => rfl) ?_
  refine z_evI (fun q => absurd q (by decide)) (fun _ => ?_)
  refine z_evL ?_
  refine z_evG 6 (y := z_ild (z_ia E 161 (I, J, RF w) 158) (nI s) fun vv => z_go 30 [some (.ref 127), some (.int (nI s)), some (.int i), some (.int v)] [.int vv, .int 0, .int i] 161 (I, J, RF w)) (fun _ => rfl) ?_
  refine z_evBn (N := 4) (f := (I 158)) (k := s) rfl rfl (by omega) ?_
  refine z_evL ?_
  refine z_evG 3 (y := z_ret (z_cl E (d + 2) 178 [.int i, .int 0, .int ((I 158 s) - 1)] (161, (I, J, RF w))) 35 [some (.ref 127), some (.int (nI s)), some (.int i), some (.int v)] []) (fun _ => rfl) ?_
  refine z_evK (v := .int (z_bo (¬ i < 0 ∧ ¬ ((I 158 s) - 1) < i))) (z' := 161) (σ' := (I, J, RF w)) (m_in E (d + 1) I J w i 0 ((I 158 s) - 1)) ?_
  refine z_evG 1 (y := if (z_bo (¬ i < 0 ∧ ¬ ((I 158 s) - 1) < i)) = 0 then z_go 38 [some (.ref 127), some (.int (nI s)), some (.int i), some (.int v)] [] 161 (I, J, RF w) else z_go 41 [some (.ref 127), some (.int (nI s)), some (.int i), some (.int v)] [] 161 (I, J, RF w)) (fun _ => rfl) ?_
  refine z_evO (fun h3 => ?_) (fun h3 => ?_)
  · refine z_evL ?_
    refine z_evG 2 (y := some (.inr (some (.int (-12)), 161, I, J, RF w))) (fun _ => rfl) ?_
    exact z_evR rfl
  · refine z_evL ?_
    exact absurd h3 hbad
set_option maxRecDepth 20000 in
/-- LampHouse.cell -/
theorem x_cell_out_1 (E : zE) (d : Nat) (I : Nat → Nat → Int32) (J : Nat → Nat → Int64) (w : Nat) (s : Nat) (i v : Int32) (hl_s : s < 4) (hK : I 123 s = 1) (hbad : ¬ (¬ i < 0 ∧ ¬ (1 : Int32) < 0 ∧ ¬ I 124 s < i ∧ ¬ I 124 s - i < 1)) : z_cl E (d + 2) 162 [.ref 0, .int (nI s), .int i, .int v] (161, I, J, RF w) = some (some (.int (-12)), 161, I, J, RF w) := by
  refine z_call (d := d + 1) (M := z_m162) rfl rfl ?_
  refine z_evG 2 (y := z_ret (z_cl E (d + 1) 95 [.int (nI s)] (161, (I, J, RF w))) 4 [some (.ref 0), some (.int (nI s)), some (.int i), some (.int v)] []) (fun _ => rfl) ?_
  refine z_evK (v := .int (z_bo (¬ (nI s) < 0 ∧ (nI s) < 4))) (z' := 161) (σ' := (I, J, RF w)) (x_isPlace E d I J w (nI s)) ?_
  refine z_evG 1 (y := if (z_bo (¬ (nI s) < 0 ∧ (nI s) < 4)) = 0 then z_go 7 [some (.ref 0), some (.int (nI s)), some (.int i), some (.int v)] [] 161 (I, J, RF w) else z_go 10 [some (.ref 0), some (.int (nI s)), some (.int i), some (.int v)] [] 161 (I, J, RF w)) (fun _ => rfl) ?_
  refine z_evF (fun q0 => z_bo_0.mp q0 ⟨nI_pos (by omega), (show _ ↔ s < 4 from z_ltN rfl rfl (by omega) (by decide)).mpr (by omega)⟩) ?_
  refine z_evL ?_
  refine z_evG 4 (y := z_ret (z_cl E (d + 1) 97 [.ref 117, .int (nI s)] (161, (I, J, RF w))) 18 [some (.ref 0), some (.int (nI s)), some (.int i), some (.int v)] []) (fun _ => rfl) ?_
  refine z_evK (v := .int (z_bo (I 123 s = (-1)))) (z' := 161) (σ' := (I, J, RF w)) (x_sheets_isMissingN E d I J w s (by omega)) ?_
  refine z_evG 1 (y := if (z_bo (I 123 s = (-1))) = 0 then z_go 24 [some (.ref 0), some (.int (nI s)), some (.int i), some (.int v)] [] 161 (I, J, RF w) else z_go 21 [some (.ref 0), some (.int (nI s)), some (.int i), some (.int v)] [] 161 (I, J, RF w)) (fun _ => rfl) ?_
  refine z_evT (z_bo_0.mpr (by rw [hK]; decide)) ?_
  refine z_evL ?_
  refine z_evG 6 (y := z_ret (z_cl E (d + 1) 100 [.ref 117, .int (nI s), .int i, .int 1] (161, (I, J, RF w))) 34 [some (.ref 0), some (.int (nI s)), some (.int i), some (.int v)] []) (fun _ => rfl) ?_
  refine z_evK (v := .int (z_bo (¬ i < 0 ∧ ¬ 1 < 0 ∧ ¬ I 124 s < i ∧ ¬ I 124 s - i < 1))) (z' := 161) (σ' := (I, J, RF w)) (x_sheets_holdsN E d I J w s i 1 (by omega)) ?_
  refine z_evG 1 (y := if (z_bo (¬ i < 0 ∧ ¬ 1 < 0 ∧ ¬ I 124 s < i ∧ ¬ I 124 s - i < 1)) = 0 then z_go 50 [some (.ref 0), some (.int (nI s)), some (.int i), some (.int v)] [] 161 (I, J, RF w) else z_go 37 [some (.ref 0), some (.int (nI s)), some (.int i), some (.int v)] [] 161 (I, J, RF w)) (fun _ => rfl) ?_
  refine z_evO (fun h3 => ?_) (fun h3 => ?_)
  · refine z_evL ?_
    refine z_evG 2 (y := some (.inr (some (.int (-12)), 161, I, J, RF w))) (fun _ => rfl) ?_
    exact z_evR rfl
  · refine z_evL ?_
    exact absurd h3 hbad
set_option maxRecDepth 20000 in
/-- LampHouseModel.cell -/
theorem m_cell_out_1 (E : zE) (d : Nat) (I : Nat → Nat → Int32) (J : Nat → Nat → Int64) (w : Nat) (s : Nat) (i v : Int32) (hl_s : s < 4) (hK : I 157 s = 1) (hbad : ¬ (¬ i < 0 ∧ ¬ I 158 s - 1 < i)) : z_cl E (d + 3) 249 [.ref 127, .int (nI s), .int i, .int v] (161, I, J, RF w) = some (some (.int (-12)), 161, I, J, RF w) := by
  refine z_call (d := d + 2) (M := z_m249) rfl rfl ?_
  refine z_evG 2 (y := z_ret (z_cl E (d + 2) 247 [.int (nI s)] (161, (I, J, RF w))) 4 [some (.ref 127), some (.int (nI s)), some (.int i), some (.int v)] []) (fun _ => rfl) ?_
  refine z_evK (v := .int (z_bo (¬ (nI s) < 0 ∧ ¬ 3 < (nI s)))) (z' := 161) (σ' := (I, J, RF w)) (m_isSheet E d I J w (nI s)) ?_
  refine z_evG 1 (y := if (z_bo (¬ (nI s) < 0 ∧ ¬ 3 < (nI s))) = 0 then z_go 7 [some (.ref 127), some (.int (nI s)), some (.int i), some (.int v)] [] 161 (I, J, RF w) else z_go 10 [some (.ref 127), some (.int (nI s)), some (.int i), some (.int v)] [] 161 (I, J, RF w)) (fun _ => rfl) ?_
  refine z_evF (fun q0 => z_bo_0.mp q0 ⟨nI_pos (by omega), mt (show _ ↔ 3 < s from z_ltN rfl rfl (by decide) (by omega)).mp (by omega)⟩) ?_
  refine z_evL ?_
  refine z_evG 4 (y := z_ild (z_ia E 161 (I, J, RF w) 157) (nI s) fun vv => z_go 16 [some (.ref 127), some (.int (nI s)), some (.int i), some (.int v)] [.int vv] 161 (I, J, RF w)) (fun _ => rfl) ?_
  refine z_evBn (N := 4) (f := (I 157)) (k := s) rfl rfl (by omega) ?_
  refine z_evL ?_
  rw [show I 157 s = 1 from hK]
  refine z_evG 1 (y := if 1 < 0 then z_go 19 [some (.ref 127), some (.int (nI s)), some (.int i), some (.int v)] [] 161 (I, J, RF w) else z_go 22 [some (.ref 127), some (.int (nI s)), some (.int i), some (.int v)] [] 161 (I, J, RF w)) (fun _ => rfl) ?_
  refine z_evI (fun q => absurd q (by decide)) (fun _ => ?_)
  refine z_evL ?_
  refine z_evG 6 (y := z_ild (z_ia E 161 (I, J, RF w) 158) (nI s) fun vv => z_go 30 [some (.ref 127), some (.int (nI s)), some (.int i), some (.int v)] [.int vv, .int 0, .int i] 161 (I, J, RF w)) (fun _ => rfl) ?_
  refine z_evBn (N := 4) (f := (I 158)) (k := s) rfl rfl (by omega) ?_
  refine z_evL ?_
  refine z_evG 3 (y := z_ret (z_cl E (d + 2) 178 [.int i, .int 0, .int ((I 158 s) - 1)] (161, (I, J, RF w))) 35 [some (.ref 127), some (.int (nI s)), some (.int i), some (.int v)] []) (fun _ => rfl) ?_
  refine z_evK (v := .int (z_bo (¬ i < 0 ∧ ¬ ((I 158 s) - 1) < i))) (z' := 161) (σ' := (I, J, RF w)) (m_in E (d + 1) I J w i 0 ((I 158 s) - 1)) ?_
  refine z_evG 1 (y := if (z_bo (¬ i < 0 ∧ ¬ ((I 158 s) - 1) < i)) = 0 then z_go 38 [some (.ref 127), some (.int (nI s)), some (.int i), some (.int v)] [] 161 (I, J, RF w) else z_go 41 [some (.ref 127), some (.int (nI s)), some (.int i), some (.int v)] [] 161 (I, J, RF w)) (fun _ => rfl) ?_
  refine z_evO (fun h3 => ?_) (fun h3 => ?_)
  · refine z_evL ?_
    refine z_evG 2 (y := some (.inr (some (.int (-12)), 161, I, J, RF w))) (fun _ => rfl) ?_
    exact z_evR rfl
  · refine z_evL ?_
    exact absurd h3 hbad
set_option maxRecDepth 20000 in
/-- LampHouse.cell -/
theorem x_cell_out_2 (E : zE) (d : Nat) (I : Nat → Nat → Int32) (J : Nat → Nat → Int64) (w : Nat) (s : Nat) (i v : Int32) (hl_s : s < 4) (hK : I 123 s = 2) (hbad : ¬ (¬ i < 0 ∧ ¬ (1 : Int32) < 0 ∧ ¬ I 124 s < i ∧ ¬ I 124 s - i < 1)) : z_cl E (d + 2) 162 [.ref 0, .int (nI s), .int i, .int v] (161, I, J, RF w) = some (some (.int (-12)), 161, I, J, RF w) := by
  refine z_call (d := d + 1) (M := z_m162) rfl rfl ?_
  refine z_evG 2 (y := z_ret (z_cl E (d + 1) 95 [.int (nI s)] (161, (I, J, RF w))) 4 [some (.ref 0), some (.int (nI s)), some (.int i), some (.int v)] []) (fun _ => rfl) ?_
  refine z_evK (v := .int (z_bo (¬ (nI s) < 0 ∧ (nI s) < 4))) (z' := 161) (σ' := (I, J, RF w)) (x_isPlace E d I J w (nI s)) ?_
  refine z_evG 1 (y := if (z_bo (¬ (nI s) < 0 ∧ (nI s) < 4)) = 0 then z_go 7 [some (.ref 0), some (.int (nI s)), some (.int i), some (.int v)] [] 161 (I, J, RF w) else z_go 10 [some (.ref 0), some (.int (nI s)), some (.int i), some (.int v)] [] 161 (I, J, RF w)) (fun _ => rfl) ?_
  refine z_evF (fun q0 => z_bo_0.mp q0 ⟨nI_pos (by omega), (show _ ↔ s < 4 from z_ltN rfl rfl (by omega) (by decide)).mpr (by omega)⟩) ?_
  refine z_evL ?_
  refine z_evG 4 (y := z_ret (z_cl E (d + 1) 97 [.ref 117, .int (nI s)] (161, (I, J, RF w))) 18 [some (.ref 0), some (.int (nI s)), some (.int i), some (.int v)] []) (fun _ => rfl) ?_
  refine z_evK (v := .int (z_bo (I 123 s = (-1)))) (z' := 161) (σ' := (I, J, RF w)) (x_sheets_isMissingN E d I J w s (by omega)) ?_
  refine z_evG 1 (y := if (z_bo (I 123 s = (-1))) = 0 then z_go 24 [some (.ref 0), some (.int (nI s)), some (.int i), some (.int v)] [] 161 (I, J, RF w) else z_go 21 [some (.ref 0), some (.int (nI s)), some (.int i), some (.int v)] [] 161 (I, J, RF w)) (fun _ => rfl) ?_
  refine z_evT (z_bo_0.mpr (by rw [hK]; decide)) ?_
  refine z_evL ?_
  refine z_evG 6 (y := z_ret (z_cl E (d + 1) 100 [.ref 117, .int (nI s), .int i, .int 1] (161, (I, J, RF w))) 34 [some (.ref 0), some (.int (nI s)), some (.int i), some (.int v)] []) (fun _ => rfl) ?_
  refine z_evK (v := .int (z_bo (¬ i < 0 ∧ ¬ 1 < 0 ∧ ¬ I 124 s < i ∧ ¬ I 124 s - i < 1))) (z' := 161) (σ' := (I, J, RF w)) (x_sheets_holdsN E d I J w s i 1 (by omega)) ?_
  refine z_evG 1 (y := if (z_bo (¬ i < 0 ∧ ¬ 1 < 0 ∧ ¬ I 124 s < i ∧ ¬ I 124 s - i < 1)) = 0 then z_go 50 [some (.ref 0), some (.int (nI s)), some (.int i), some (.int v)] [] 161 (I, J, RF w) else z_go 37 [some (.ref 0), some (.int (nI s)), some (.int i), some (.int v)] [] 161 (I, J, RF w)) (fun _ => rfl) ?_
  refine z_evO (fun h3 => ?_) (fun h3 => ?_)
  · refine z_evL ?_
    refine z_evG 2 (y := some (.inr (some (.int (-12)), 161, I, J, RF w))) (fun _ => rfl) ?_
    exact z_evR rfl
  · refine z_evL ?_
    exact absurd h3 hbad
set_option maxRecDepth 20000 in
/-- LampHouseModel.cell -/
theorem m_cell_out_2 (E : zE) (d : Nat) (I : Nat → Nat → Int32) (J : Nat → Nat → Int64) (w : Nat) (s : Nat) (i v : Int32) (hl_s : s < 4) (hK : I 157 s = 2) (hbad : ¬ (¬ i < 0 ∧ ¬ I 158 s - 1 < i)) : z_cl E (d + 3) 249 [.ref 127, .int (nI s), .int i, .int v] (161, I, J, RF w) = some (some (.int (-12)), 161, I, J, RF w) := by
  refine z_call (d := d + 2) (M := z_m249) rfl rfl ?_
  refine z_evG 2 (y := z_ret (z_cl E (d + 2) 247 [.int (nI s)] (161, (I, J, RF w))) 4 [some (.ref 127), some (.int (nI s)), some (.int i), some (.int v)] []) (fun _ => rfl) ?_
  refine z_evK (v := .int (z_bo (¬ (nI s) < 0 ∧ ¬ 3 < (nI s)))) (z' := 161) (σ' := (I, J, RF w)) (m_isSheet E d I J w (nI s)) ?_
  refine z_evG 1 (y := if (z_bo (¬ (nI s) < 0 ∧ ¬ 3 < (nI s))) = 0 then z_go 7 [some (.ref 127), some (.int (nI s)), some (.int i), some (.int v)] [] 161 (I, J, RF w) else z_go 10 [some (.ref 127), some (.int (nI s)), some (.int i), some (.int v)] [] 161 (I, J, RF w)) (fun _ => rfl) ?_
  refine z_evF (fun q0 => z_bo_0.mp q0 ⟨nI_pos (by omega), mt (show _ ↔ 3 < s from z_ltN rfl rfl (by decide) (by omega)).mp (by omega)⟩) ?_
  refine z_evL ?_
  refine z_evG 4 (y := z_ild (z_ia E 161 (I, J, RF w) 157) (nI s) fun vv => z_go 16 [some (.ref 127), some (.int (nI s)), some (.int i), some (.int v)] [.int vv] 161 (I, J, RF w)) (fun _ => rfl) ?_
  refine z_evBn (N := 4) (f := (I 157)) (k := s) rfl rfl (by omega) ?_
  refine z_evL ?_
  rw [show I 157 s = 2 from hK]
  refine z_evG 1 (y := if 2 < 0 then z_go 19 [some (.ref 127), some (.int (nI s)), some (.int i), some (.int v)] [] 161 (I, J, RF w) else z_go 22 [some (.ref 127), some (.int (nI s)), some (.int i), some (.int v)] [] 161 (I, J, RF w)) (fun _ => rfl) ?_
  refine z_evI (fun q => absurd q (by decide)) (fun _ => ?_)
  refine z_evL ?_
  refine z_evG 6 (y := z_ild (z_ia E 161 (I, J, RF w) 158) (nI s) fun vv => z_go 30 [some (.ref 127), some (.int (nI s)), some (.int i), some (.int v)] [.int vv, .int 0, .int i] 161 (I, J, RF w)) (fun _ => rfl) ?_
  refine z_evBn (N := 4) (f := (I 158)) (k := s) rfl rfl (by omega) ?_
  refine z_evL ?_
  refine z_evG 3 (y := z_ret (z_cl E (d + 2) 178 [.int i, .int 0, .int ((I 158 s) - 1)] (161, (I, J, RF w))) 35 [some (.ref 127), some (.int (nI s)), some (.int i), some (.int v)] []) (fun _ => rfl) ?_
  refine z_evK (v := .int (z_bo (¬ i < 0 ∧ ¬ ((I 158 s) - 1) < i))) (z' := 161) (σ' := (I, J, RF w)) (m_in E (d + 1) I J w i 0 ((I 158 s) - 1)) ?_
  refine z_evG 1 (y := if (z_bo (¬ i < 0 ∧ ¬ ((I 158 s) - 1) < i)) = 0 then z_go 38 [some (.ref 127), some (.int (nI s)), some (.int i), some (.int v)] [] 161 (I, J, RF w) else z_go 41 [some (.ref 127), some (.int (nI s)), some (.int i), some (.int v)] [] 161 (I, J, RF w)) (fun _ => rfl) ?_
  refine z_evO (fun h3 => ?_) (fun h3 => ?_)
  · refine z_evL ?_
    refine z_evG 2 (y := some (.inr (some (.int (-12)), 161, I, J, RF w))) (fun _ => rfl) ?_
    exact z_evR rfl
  · refine z_evL ?_
    exact absurd h3 hbad
set_option maxRecDepth 20000 in
/-- LampHouse.sheet -/
theorem x_sheet_badA (E : zE) (d : Nat) (I : Nat → Nat → Int32) (J : Nat → Nat → Int64) (w : Nat) (s o n : Int32) (hbad : ¬ (¬ s < 0 ∧ s < 4)) : z_cl E (d + 3) 161 [.ref 0, .int s, .int o, .int n] (161, I, J, RF w) = some (some (.int (-2)), 161, I, J, RF w) := by
  refine z_call (d := d + 2) (M := z_m161) rfl rfl ?_
  refine z_evG 2 (y := z_ret (z_cl E (d + 2) 95 [.int s] (161, (I, J, RF w))) 4 [some (.ref 0), some (.int s), some (.int o), some (.int n)] []) (fun _ => rfl) ?_
  refine z_evK (v := .int (z_bo (¬ s < 0 ∧ s < 4))) (z' := 161) (σ' := (I, J, RF w)) (x_isPlace E (d + 1) I J w s) ?_
  refine z_evG 1 (y := if (z_bo (¬ s < 0 ∧ s < 4)) = 0 then z_go 7 [some (.ref 0), some (.int s), some (.int o), some (.int n)] [] 161 (I, J, RF w) else z_go 10 [some (.ref 0), some (.int s), some (.int o), some (.int n)] [] 161 (I, J, RF w)) (fun _ => rfl) ?_
  refine z_evO (fun h1 => ?_) (fun h1 => ?_)
  · refine z_evL ?_
    refine z_evG 2 (y := some (.inr (some (.int (-2)), 161, I, J, RF w))) (fun _ => rfl) ?_
    exact z_evR rfl
  · refine z_evL ?_
    exact absurd h1 hbad
set_option maxRecDepth 20000 in
/-- LampHouseModel.sheet -/
theorem m_sheet_badA (E : zE) (d : Nat) (I : Nat → Nat → Int32) (J : Nat → Nat → Int64) (w : Nat) (s o n : Int32) (hbad : ¬ (¬ s < 0 ∧ ¬ 3 < s)) : z_cl E (d + 3) 248 [.ref 127, .int s, .int o, .int n] (161, I, J, RF w) = some (some (.int (-2)), 161, I, J, RF w) := by
  refine z_call (d := d + 2) (M := z_m248) rfl rfl ?_
  refine z_evG 2 (y := z_ret (z_cl E (d + 2) 247 [.int s] (161, (I, J, RF w))) 4 [some (.ref 127), some (.int s), some (.int o), some (.int n), none] []) (fun _ => rfl) ?_
  refine z_evK (v := .int (z_bo (¬ s < 0 ∧ ¬ 3 < s))) (z' := 161) (σ' := (I, J, RF w)) (m_isSheet E d I J w s) ?_
  refine z_evG 1 (y := if (z_bo (¬ s < 0 ∧ ¬ 3 < s)) = 0 then z_go 26 [some (.ref 127), some (.int s), some (.int o), some (.int n), none] [] 161 (I, J, RF w) else z_go 7 [some (.ref 127), some (.int s), some (.int o), some (.int n), none] [] 161 (I, J, RF w)) (fun _ => rfl) ?_
  refine z_evO (fun h1 => ?_) (fun h1 => ?_)
  · refine z_evL ?_
    refine z_evG 2 (y := some (.inr (some (.int (-2)), 161, I, J, RF w))) (fun _ => rfl) ?_
    exact z_evR rfl
  · refine z_evL ?_
    exact absurd h1 hbad
set_option maxRecDepth 20000 in
/-- LampHouse.sheet -/
theorem x_sheet_remove (E : zE) (d : Nat) (I : Nat → Nat → Int32) (J : Nat → Nat → Int64) (w : Nat) (s : Nat) (n : Int32) (hl_s : s < 4) : z_cl E (d + 3) 161 [.ref 0, .int (nI s), .int (-1), .int n] (161, I, J, RF w) = some (some (.int 1), 161, (z_u2 I 123 s (-1)), J, RF w) := by
  refine z_call (d := d + 2) (M := z_m161) rfl rfl ?_
  refine z_evG 2 (y := z_ret (z_cl E (d + 2) 95 [.int (nI s)] (161, (I, J, RF w))) 4 [some (.ref 0), some (.int (nI s)), some (.int (-1)), some (.int n)] []) (fun _ => rfl) ?_
  refine z_evK (v := .int (z_bo (¬ (nI s) < 0 ∧ (nI s) < 4))) (z' := 161) (σ' := (I, J, RF w)) (x_isPlace E (d + 1) I J w (nI s)) ?_
  refine z_evG 1 (y := if (z_bo (¬ (nI s) < 0 ∧ (nI s) < 4)) = 0 then z_go 7 [some (.ref 0), some (.int (nI s)), some (.int (-1)), some (.int n)] [] 161 (I, J, RF w) else z_go 10 [some (.ref 0), some (.int (nI s)), some (.int (-1)), some (.int n)] [] 161 (I, J, RF w)) (fun _ => rfl) ?_
  refine z_evF (fun q0 => z_bo_0.mp q0 ⟨(mt (show _ ↔ s < 0 from z_ltN rfl rfl (by omega) (by omega)).mp (by omega)), ((show _ ↔ s < 4 from z_ltN rfl rfl (by omega) (by omega)).mpr (by omega))⟩) ?_
  refine z_evL ?_
  refine z_evG 3 (y := if (-1) = (-1) then z_go 15 [some (.ref 0), some (.int (nI s)), some (.int (-1)), some (.int n)] [] 161 (I, J, RF w) else z_go 24 [some (.ref 0), some (.int (nI s)), some (.int (-1)), some (.int n)] [] 161 (I, J, RF w)) (fun _ => rfl) ?_
  refine z_evI (fun _ => ?_) (fun q => absurd (by decide) q)
  refine z_evL ?_
  refine z_evG 4 (y := z_ret (z_cl E (d + 2) 101 [.ref 117, .int (nI s)] (161, (I, J, RF w))) 23 [some (.ref 0), some (.int (nI s)), some (.int (-1)), some (.int n)] []) (fun _ => rfl) ?_
  refine z_evK (v := .int 1) (z' := 161) (σ' := ((z_u2 I 123 s (-1)), J, RF w)) (x_sheets_removeN E (d + 1) I J w s (by omega)) ?_
  refine z_evG 1 (y := some (.inr (some (.int 1), 161, (z_u2 I 123 s (-1)), J, RF w))) (fun _ => rfl) ?_
  exact z_evR rfl
set_option maxRecDepth 20000 in
/-- LampHouse.sheet -/
theorem x_sheet_neg_0 (E : zE) (d : Nat) (I : Nat → Nat → Int32) (J : Nat → Nat → Int64) (w : Nat) (s : Nat) (n : Int32) (hl_s : s < 4) (hn : n < 0) (hn2 : ¬ 40 < n) : z_cl E (d + 3) 161 [.ref 0, .int (nI s), .int 0, .int n] (161, I, J, RF w) = some (some (.int (-14)), 161, I, J, RF w) := by
  refine z_call (d := d + 2) (M := z_m161) rfl rfl ?_
  refine z_evG 2 (y := z_ret (z_cl E (d + 2) 95 [.int (nI s)] (161, (I, J, RF w))) 4 [some (.ref 0), some (.int (nI s)), some (.int 0), some (.int n)] []) (fun _ => rfl) ?_
  refine z_evK (v := .int (z_bo (¬ (nI s) < 0 ∧ (nI s) < 4))) (z' := 161) (σ' := (I, J, RF w)) (x_isPlace E (d + 1) I J w (nI s)) ?_
  refine z_evG 1 (y := if (z_bo (¬ (nI s) < 0 ∧ (nI s) < 4)) = 0 then z_go 7 [some (.ref 0), some (.int (nI s)), some (.int 0), some (.int n)] [] 161 (I, J, RF w) else z_go 10 [some (.ref 0), some (.int (nI s)), some (.int 0), some (.int n)] [] 161 (I, J, RF w)) (fun _ => rfl) ?_
  refine z_evF (fun q0 => z_bo_0.mp q0 ⟨(mt (show _ ↔ s < 0 from z_ltN rfl rfl (by omega) (by omega)).mp (by omega)), ((show _ ↔ s < 4 from z_ltN rfl rfl (by omega) (by omega)).mpr (by omega))⟩) ?_
  refine z_evL ?_
  refine z_evG 3 (y := if 0 = (-1) then z_go 15 [some (.ref 0), some (.int (nI s)), some (.int 0), some (.int n)] [] 161 (I, J, RF w) else z_go 24 [some (.ref 0), some (.int (nI s)), some (.int 0), some (.int n)] [] 161 (I, J, RF w)) (fun _ => rfl) ?_
  refine z_evI (fun q => absurd q (by decide)) (fun _ => ?_)
  refine z_evL ?_
  refine z_evG 2 (y := z_ret (z_cl E (d + 2) 96 [.int 0] (161, (I, J, RF w))) 28 [some (.ref 0), some (.int (nI s)), some (.int 0), some (.int n)] []) (fun _ => rfl) ?_
  refine z_evK (v := .int (z_bo (¬ 0 < 0 ∧ ¬ 2 < 0))) (z' := 161) (σ' := (I, J, RF w)) (x_isSort E (d + 1) I J w 0) ?_
  refine z_evG 1 (y := if (z_bo (¬ 0 < 0 ∧ ¬ 2 < 0)) = 0 then z_go 37 [some (.ref 0), some (.int (nI s)), some (.int 0), some (.int n)] [] 161 (I, J, RF w) else z_go 31 [some (.ref 0), some (.int (nI s)), some (.int 0), some (.int n)] [] 161 (I, J, RF w)) (fun _ => rfl) ?_
  refine z_evF (fun q0 => z_bo_0.mp q0 ⟨(by decide), (by decide)⟩) ?_
  refine z_evL ?_
  refine z_evG 3 (y := if 40 < n then z_go 37 [some (.ref 0), some (.int (nI s)), some (.int 0), some (.int n)] [] 161 (I, J, RF w) else z_go 40 [some (.ref 0), some (.int (nI s)), some (.int 0), some (.int n)] [] 161 (I, J, RF w)) (fun _ => rfl) ?_
  refine z_evF (hn2) ?_
  refine z_evL ?_
  refine z_evG 2 (y := if n < 0 then z_go 44 [some (.ref 0), some (.int (nI s)), some (.int 0), some (.int n)] [] 161 (I, J, RF w) else z_go 49 [some (.ref 0), some (.int (nI s)), some (.int 0), some (.int n)] [] 161 (I, J, RF w)) (fun _ => rfl) ?_
  refine z_evT (hn) ?_
  refine z_evL ?_
  refine z_evG 3 (y := some (.inr (some (.int (-14)), 161, I, J, RF w))) (fun _ => rfl) ?_
  exact z_evR rfl
set_option maxRecDepth 20000 in
/-- LampHouse.sheet -/
theorem x_sheet_make_0 (E : zE) (d : Nat) (I : Nat → Nat → Int32) (J : Nat → Nat → Int64) (w : Nat) (s n : Nat) (hl_s : s < 4) (hl_n : n < 41) : z_cl E (d + 3) 161 [.ref 0, .int (nI s), .int 0, .int (nI n)] (161, I, J, RF w) = some (some (.int 1), 161, (z_u2 (z_u2 (z_ur I (119 + s) (z_fil (I (119 + s)) 0 40 (fun _ => 0))) 123 s 0) 124 s (nI n)), J, RF w) := by
  refine z_call (d := d + 2) (M := z_m161) rfl rfl ?_
  refine z_evG 2 (y := z_ret (z_cl E (d + 2) 95 [.int (nI s)] (161, (I, J, RF w))) 4 [some (.ref 0), some (.int (nI s)), some (.int 0), some (.int (nI n))] []) (fun _ => rfl) ?_
  refine z_evK (v := .int (z_bo (¬ (nI s) < 0 ∧ (nI s) < 4))) (z' := 161) (σ' := (I, J, RF w)) (x_isPlace E (d + 1) I J w (nI s)) ?_
  refine z_evG 1 (y := if (z_bo (¬ (nI s) < 0 ∧ (nI s) < 4)) = 0 then z_go 7 [some (.ref 0), some (.int (nI s)), some (.int 0), some (.int (nI n))] [] 161 (I, J, RF w) else z_go 10 [some (.ref 0), some (.int (nI s)), some (.int 0), some (.int (nI n))] [] 161 (I, J, RF w)) (fun _ => rfl) ?_
  refine z_evF (fun q0 => z_bo_0.mp q0 ⟨(mt (show _ ↔ s < 0 from z_ltN rfl rfl (by omega) (by omega)).mp (by omega)), ((show _ ↔ s < 4 from z_ltN rfl rfl (by omega) (by omega)).mpr (by omega))⟩) ?_
  refine z_evL ?_
  refine z_evG 3 (y := if 0 = (-1) then z_go 15 [some (.ref 0), some (.int (nI s)), some (.int 0), some (.int (nI n))] [] 161 (I, J, RF w) else z_go 24 [some (.ref 0), some (.int (nI s)), some (.int 0), some (.int (nI n))] [] 161 (I, J, RF w)) (fun _ => rfl) ?_
  refine z_evI (fun q => absurd q (by decide)) (fun _ => ?_)
  refine z_evL ?_
  refine z_evG 2 (y := z_ret (z_cl E (d + 2) 96 [.int 0] (161, (I, J, RF w))) 28 [some (.ref 0), some (.int (nI s)), some (.int 0), some (.int (nI n))] []) (fun _ => rfl) ?_
  refine z_evK (v := .int (z_bo (¬ 0 < 0 ∧ ¬ 2 < 0))) (z' := 161) (σ' := (I, J, RF w)) (x_isSort E (d + 1) I J w 0) ?_
  refine z_evG 1 (y := if (z_bo (¬ 0 < 0 ∧ ¬ 2 < 0)) = 0 then z_go 37 [some (.ref 0), some (.int (nI s)), some (.int 0), some (.int (nI n))] [] 161 (I, J, RF w) else z_go 31 [some (.ref 0), some (.int (nI s)), some (.int 0), some (.int (nI n))] [] 161 (I, J, RF w)) (fun _ => rfl) ?_
  refine z_evF (fun q0 => z_bo_0.mp q0 ⟨(by decide), (by decide)⟩) ?_
  refine z_evL ?_
  refine z_evG 3 (y := if 40 < (nI n) then z_go 37 [some (.ref 0), some (.int (nI s)), some (.int 0), some (.int (nI n))] [] 161 (I, J, RF w) else z_go 40 [some (.ref 0), some (.int (nI s)), some (.int 0), some (.int (nI n))] [] 161 (I, J, RF w)) (fun _ => rfl) ?_
  refine z_evF ((mt (show _ ↔ 40 < n from z_ltN rfl rfl (by omega) (by omega)).mp (by omega))) ?_
  refine z_evL ?_
  refine z_evG 2 (y := if (nI n) < 0 then z_go 44 [some (.ref 0), some (.int (nI s)), some (.int 0), some (.int (nI n))] [] 161 (I, J, RF w) else z_go 49 [some (.ref 0), some (.int (nI s)), some (.int 0), some (.int (nI n))] [] 161 (I, J, RF w)) (fun _ => rfl) ?_
  refine z_evF ((mt (show _ ↔ n < 0 from z_ltN rfl rfl (by omega) (by omega)).mp (by omega))) ?_
  refine z_evL ?_
  refine z_evG 6 (y := z_ret (z_cl E (d + 2) 102 [.ref 117, .int (nI s), .int 0, .int (nI n)] (161, (I, J, RF w))) 59 [some (.ref 0), some (.int (nI s)), some (.int 0), some (.int (nI n))] []) (fun _ => rfl) ?_
  refine z_evK (v := .int 1) (z' := 161) (σ' := ((z_u2 (z_u2 (z_ur I (119 + s) (z_fil (I (119 + s)) 0 40 (fun _ => 0))) 123 s 0) 124 s (nI n)), J, RF w)) (x_make E d I J w s 0 (nI n) (by omega)) ?_
  refine z_evG 1 (y := some (.inr (some (.int 1), 161, (z_u2 (z_u2 (z_ur I (119 + s) (z_fil (I (119 + s)) 0 40 (fun _ => 0))) 123 s 0) 124 s (nI n)), J, RF w))) (fun _ => rfl) ?_
  exact z_evR rfl
set_option maxRecDepth 20000 in
/-- LampHouse.sheet -/
theorem x_sheet_neg_1 (E : zE) (d : Nat) (I : Nat → Nat → Int32) (J : Nat → Nat → Int64) (w : Nat) (s : Nat) (n : Int32) (hl_s : s < 4) (hn : n < 0) (hn2 : ¬ 40 < n) : z_cl E (d + 3) 161 [.ref 0, .int (nI s), .int 1, .int n] (161, I, J, RF w) = some (some (.int (-14)), 161, I, J, RF w) := by
  refine z_call (d := d + 2) (M := z_m161) rfl rfl ?_
  refine z_evG 2 (y := z_ret (z_cl E (d + 2) 95 [.int (nI s)] (161, (I, J, RF w))) 4 [some (.ref 0), some (.int (nI s)), some (.int 1), some (.int n)] []) (fun _ => rfl) ?_
  refine z_evK (v := .int (z_bo (¬ (nI s) < 0 ∧ (nI s) < 4))) (z' := 161) (σ' := (I, J, RF w)) (x_isPlace E (d + 1) I J w (nI s)) ?_
  refine z_evG 1 (y := if (z_bo (¬ (nI s) < 0 ∧ (nI s) < 4)) = 0 then z_go 7 [some (.ref 0), some (.int (nI s)), some (.int 1), some (.int n)] [] 161 (I, J, RF w) else z_go 10 [some (.ref 0), some (.int (nI s)), some (.int 1), some (.int n)] [] 161 (I, J, RF w)) (fun _ => rfl) ?_
  refine z_evF (fun q0 => z_bo_0.mp q0 ⟨(mt (show _ ↔ s < 0 from z_ltN rfl rfl (by omega) (by omega)).mp (by omega)), ((show _ ↔ s < 4 from z_ltN rfl rfl (by omega) (by omega)).mpr (by omega))⟩) ?_
  refine z_evL ?_
  refine z_evG 3 (y := if 1 = (-1) then z_go 15 [some (.ref 0), some (.int (nI s)), some (.int 1), some (.int n)] [] 161 (I, J, RF w) else z_go 24 [some (.ref 0), some (.int (nI s)), some (.int 1), some (.int n)] [] 161 (I, J, RF w)) (fun _ => rfl) ?_
  refine z_evI (fun q => absurd q (by decide)) (fun _ => ?_)
  refine z_evL ?_
  refine z_evG 2 (y := z_ret (z_cl E (d + 2) 96 [.int 1] (161, (I, J, RF w))) 28 [some (.ref 0), some (.int (nI s)), some (.int 1), some (.int n)] []) (fun _ => rfl) ?_
  refine z_evK (v := .int (z_bo (¬ 1 < 0 ∧ ¬ 2 < 1))) (z' := 161) (σ' := (I, J, RF w)) (x_isSort E (d + 1) I J w 1) ?_
  refine z_evG 1 (y := if (z_bo (¬ 1 < 0 ∧ ¬ 2 < 1)) = 0 then z_go 37 [some (.ref 0), some (.int (nI s)), some (.int 1), some (.int n)] [] 161 (I, J, RF w) else z_go 31 [some (.ref 0), some (.int (nI s)), some (.int 1), some (.int n)] [] 161 (I, J, RF w)) (fun _ => rfl) ?_
  refine z_evF (fun q0 => z_bo_0.mp q0 ⟨(by decide), (by decide)⟩) ?_
  refine z_evL ?_
  refine z_evG 3 (y := if 40 < n then z_go 37 [some (.ref 0), some (.int (nI s)), some (.int 1), some (.int n)] [] 161 (I, J, RF w) else z_go 40 [some (.ref 0), some (.int (nI s)), some (.int 1), some (.int n)] [] 161 (I, J, RF w)) (fun _ => rfl) ?_
  refine z_evF (hn2) ?_
  refine z_evL ?_
  refine z_evG 2 (y := if n < 0 then z_go 44 [some (.ref 0), some (.int (nI s)), some (.int 1), some (.int n)] [] 161 (I, J, RF w) else z_go 49 [some (.ref 0), some (.int (nI s)), some (.int 1), some (.int n)] [] 161 (I, J, RF w)) (fun _ => rfl) ?_
  refine z_evT (hn) ?_
  refine z_evL ?_
  refine z_evG 3 (y := some (.inr (some (.int (-14)), 161, I, J, RF w))) (fun _ => rfl) ?_
  exact z_evR rfl
set_option maxRecDepth 20000 in
/-- LampHouse.sheet -/
theorem x_sheet_make_1 (E : zE) (d : Nat) (I : Nat → Nat → Int32) (J : Nat → Nat → Int64) (w : Nat) (s n : Nat) (hl_s : s < 4) (hl_n : n < 41) : z_cl E (d + 3) 161 [.ref 0, .int (nI s), .int 1, .int (nI n)] (161, I, J, RF w) = some (some (.int 1), 161, (z_u2 (z_u2 (z_ur I (119 + s) (z_fil (I (119 + s)) 0 40 (fun _ => 0))) 123 s 1) 124 s (nI n)), J, RF w) := by
  refine z_call (d := d + 2) (M := z_m161) rfl rfl ?_
  refine z_evG 2 (y := z_ret (z_cl E (d + 2) 95 [.int (nI s)] (161, (I, J, RF w))) 4 [some (.ref 0), some (.int (nI s)), some (.int 1), some (.int (nI n))] []) (fun _ => rfl) ?_
  refine z_evK (v := .int (z_bo (¬ (nI s) < 0 ∧ (nI s) < 4))) (z' := 161) (σ' := (I, J, RF w)) (x_isPlace E (d + 1) I J w (nI s)) ?_
  refine z_evG 1 (y := if (z_bo (¬ (nI s) < 0 ∧ (nI s) < 4)) = 0 then z_go 7 [some (.ref 0), some (.int (nI s)), some (.int 1), some (.int (nI n))] [] 161 (I, J, RF w) else z_go 10 [some (.ref 0), some (.int (nI s)), some (.int 1), some (.int (nI n))] [] 161 (I, J, RF w)) (fun _ => rfl) ?_
  refine z_evF (fun q0 => z_bo_0.mp q0 ⟨(mt (show _ ↔ s < 0 from z_ltN rfl rfl (by omega) (by omega)).mp (by omega)), ((show _ ↔ s < 4 from z_ltN rfl rfl (by omega) (by omega)).mpr (by omega))⟩) ?_
  refine z_evL ?_
  refine z_evG 3 (y := if 1 = (-1) then z_go 15 [some (.ref 0), some (.int (nI s)), some (.int 1), some (.int (nI n))] [] 161 (I, J, RF w) else z_go 24 [some (.ref 0), some (.int (nI s)), some (.int 1), some (.int (nI n))] [] 161 (I, J, RF w)) (fun _ => rfl) ?_
  refine z_evI (fun q => absurd q (by decide)) (fun _ => ?_)
  refine z_evL ?_
  refine z_evG 2 (y := z_ret (z_cl E (d + 2) 96 [.int 1] (161, (I, J, RF w))) 28 [some (.ref 0), some (.int (nI s)), some (.int 1), some (.int (nI n))] []) (fun _ => rfl) ?_
  refine z_evK (v := .int (z_bo (¬ 1 < 0 ∧ ¬ 2 < 1))) (z' := 161) (σ' := (I, J, RF w)) (x_isSort E (d + 1) I J w 1) ?_
  refine z_evG 1 (y := if (z_bo (¬ 1 < 0 ∧ ¬ 2 < 1)) = 0 then z_go 37 [some (.ref 0), some (.int (nI s)), some (.int 1), some (.int (nI n))] [] 161 (I, J, RF w) else z_go 31 [some (.ref 0), some (.int (nI s)), some (.int 1), some (.int (nI n))] [] 161 (I, J, RF w)) (fun _ => rfl) ?_
  refine z_evF (fun q0 => z_bo_0.mp q0 ⟨(by decide), (by decide)⟩) ?_
  refine z_evL ?_
  refine z_evG 3 (y := if 40 < (nI n) then z_go 37 [some (.ref 0), some (.int (nI s)), some (.int 1), some (.int (nI n))] [] 161 (I, J, RF w) else z_go 40 [some (.ref 0), some (.int (nI s)), some (.int 1), some (.int (nI n))] [] 161 (I, J, RF w)) (fun _ => rfl) ?_
  refine z_evF ((mt (show _ ↔ 40 < n from z_ltN rfl rfl (by omega) (by omega)).mp (by omega))) ?_
  refine z_evL ?_
  refine z_evG 2 (y := if (nI n) < 0 then z_go 44 [some (.ref 0), some (.int (nI s)), some (.int 1), some (.int (nI n))] [] 161 (I, J, RF w) else z_go 49 [some (.ref 0), some (.int (nI s)), some (.int 1), some (.int (nI n))] [] 161 (I, J, RF w)) (fun _ => rfl) ?_
  refine z_evF ((mt (show _ ↔ n < 0 from z_ltN rfl rfl (by omega) (by omega)).mp (by omega))) ?_
  refine z_evL ?_
  refine z_evG 6 (y := z_ret (z_cl E (d + 2) 102 [.ref 117, .int (nI s), .int 1, .int (nI n)] (161, (I, J, RF w))) 59 [some (.ref 0), some (.int (nI s)), some (.int 1), some (.int (nI n))] []) (fun _ => rfl) ?_
  refine z_evK (v := .int 1) (z' := 161) (σ' := ((z_u2 (z_u2 (z_ur I (119 + s) (z_fil (I (119 + s)) 0 40 (fun _ => 0))) 123 s 1) 124 s (nI n)), J, RF w)) (x_make E d I J w s 1 (nI n) (by omega)) ?_
  refine z_evG 1 (y := some (.inr (some (.int 1), 161, (z_u2 (z_u2 (z_ur I (119 + s) (z_fil (I (119 + s)) 0 40 (fun _ => 0))) 123 s 1) 124 s (nI n)), J, RF w))) (fun _ => rfl) ?_
  exact z_evR rfl
set_option maxRecDepth 20000 in
/-- LampHouse.sheet -/
theorem x_sheet_neg_2 (E : zE) (d : Nat) (I : Nat → Nat → Int32) (J : Nat → Nat → Int64) (w : Nat) (s : Nat) (n : Int32) (hl_s : s < 4) (hn : n < 0) (hn2 : ¬ 40 < n) : z_cl E (d + 3) 161 [.ref 0, .int (nI s), .int 2, .int n] (161, I, J, RF w) = some (some (.int (-14)), 161, I, J, RF w) := by
  refine z_call (d := d + 2) (M := z_m161) rfl rfl ?_
  refine z_evG 2 (y := z_ret (z_cl E (d + 2) 95 [.int (nI s)] (161, (I, J, RF w))) 4 [some (.ref 0), some (.int (nI s)), some (.int 2), some (.int n)] []) (fun _ => rfl) ?_
  refine z_evK (v := .int (z_bo (¬ (nI s) < 0 ∧ (nI s) < 4))) (z' := 161) (σ' := (I, J, RF w)) (x_isPlace E (d + 1) I J w (nI s)) ?_
  refine z_evG 1 (y := if (z_bo (¬ (nI s) < 0 ∧ (nI s) < 4)) = 0 then z_go 7 [some (.ref 0), some (.int (nI s)), some (.int 2), some (.int n)] [] 161 (I, J, RF w) else z_go 10 [some (.ref 0), some (.int (nI s)), some (.int 2), some (.int n)] [] 161 (I, J, RF w)) (fun _ => rfl) ?_
  refine z_evF (fun q0 => z_bo_0.mp q0 ⟨(mt (show _ ↔ s < 0 from z_ltN rfl rfl (by omega) (by omega)).mp (by omega)), ((show _ ↔ s < 4 from z_ltN rfl rfl (by omega) (by omega)).mpr (by omega))⟩) ?_
  refine z_evL ?_
  refine z_evG 3 (y := if 2 = (-1) then z_go 15 [some (.ref 0), some (.int (nI s)), some (.int 2), some (.int n)] [] 161 (I, J, RF w) else z_go 24 [some (.ref 0), some (.int (nI s)), some (.int 2), some (.int n)] [] 161 (I, J, RF w)) (fun _ => rfl) ?_
  refine z_evI (fun q => absurd q (by decide)) (fun _ => ?_)
  refine z_evL ?_
  refine z_evG 2 (y := z_ret (z_cl E (d + 2) 96 [.int 2] (161, (I, J, RF w))) 28 [some (.ref 0), some (.int (nI s)), some (.int 2), some (.int n)] []) (fun _ => rfl) ?_
  refine z_evK (v := .int (z_bo (¬ 2 < 0 ∧ ¬ 2 < 2))) (z' := 161) (σ' := (I, J, RF w)) (x_isSort E (d + 1) I J w 2) ?_
  refine z_evG 1 (y := if (z_bo (¬ 2 < 0 ∧ ¬ 2 < 2)) = 0 then z_go 37 [some (.ref 0), some (.int (nI s)), some (.int 2), some (.int n)] [] 161 (I, J, RF w) else z_go 31 [some (.ref 0), some (.int (nI s)), some (.int 2), some (.int n)] [] 161 (I, J, RF w)) (fun _ => rfl) ?_
  refine z_evF (fun q0 => z_bo_0.mp q0 ⟨(by decide), (by decide)⟩) ?_
  refine z_evL ?_
  refine z_evG 3 (y := if 40 < n then z_go 37 [some (.ref 0), some (.int (nI s)), some (.int 2), some (.int n)] [] 161 (I, J, RF w) else z_go 40 [some (.ref 0), some (.int (nI s)), some (.int 2), some (.int n)] [] 161 (I, J, RF w)) (fun _ => rfl) ?_
  refine z_evF (hn2) ?_
  refine z_evL ?_
  refine z_evG 2 (y := if n < 0 then z_go 44 [some (.ref 0), some (.int (nI s)), some (.int 2), some (.int n)] [] 161 (I, J, RF w) else z_go 49 [some (.ref 0), some (.int (nI s)), some (.int 2), some (.int n)] [] 161 (I, J, RF w)) (fun _ => rfl) ?_
  refine z_evT (hn) ?_
  refine z_evL ?_
  refine z_evG 3 (y := some (.inr (some (.int (-14)), 161, I, J, RF w))) (fun _ => rfl) ?_
  exact z_evR rfl
set_option maxRecDepth 20000 in
/-- LampHouse.sheet -/
theorem x_sheet_make_2 (E : zE) (d : Nat) (I : Nat → Nat → Int32) (J : Nat → Nat → Int64) (w : Nat) (s n : Nat) (hl_s : s < 4) (hl_n : n < 41) : z_cl E (d + 3) 161 [.ref 0, .int (nI s), .int 2, .int (nI n)] (161, I, J, RF w) = some (some (.int 1), 161, (z_u2 (z_u2 (z_ur I (119 + s) (z_fil (I (119 + s)) 0 40 (fun _ => 0))) 123 s 2) 124 s (nI n)), J, RF w) := by
  refine z_call (d := d + 2) (M := z_m161) rfl rfl ?_
  refine z_evG 2 (y := z_ret (z_cl E (d + 2) 95 [.int (nI s)] (161, (I, J, RF w))) 4 [some (.ref 0), some (.int (nI s)), some (.int 2), some (.int (nI n))] []) (fun _ => rfl) ?_
  refine z_evK (v := .int (z_bo (¬ (nI s) < 0 ∧ (nI s) < 4))) (z' := 161) (σ' := (I, J, RF w)) (x_isPlace E (d + 1) I J w (nI s)) ?_
  refine z_evG 1 (y := if (z_bo (¬ (nI s) < 0 ∧ (nI s) < 4)) = 0 then z_go 7 [some (.ref 0), some (.int (nI s)), some (.int 2), some (.int (nI n))] [] 161 (I, J, RF w) else z_go 10 [some (.ref 0), some (.int (nI s)), some (.int 2), some (.int (nI n))] [] 161 (I, J, RF w)) (fun _ => rfl) ?_
  refine z_evF (fun q0 => z_bo_0.mp q0 ⟨(mt (show _ ↔ s < 0 from z_ltN rfl rfl (by omega) (by omega)).mp (by omega)), ((show _ ↔ s < 4 from z_ltN rfl rfl (by omega) (by omega)).mpr (by omega))⟩) ?_
  refine z_evL ?_
  refine z_evG 3 (y := if 2 = (-1) then z_go 15 [some (.ref 0), some (.int (nI s)), some (.int 2), some (.int (nI n))] [] 161 (I, J, RF w) else z_go 24 [some (.ref 0), some (.int (nI s)), some (.int 2), some (.int (nI n))] [] 161 (I, J, RF w)) (fun _ => rfl) ?_
  refine z_evI (fun q => absurd q (by decide)) (fun _ => ?_)
  refine z_evL ?_
  refine z_evG 2 (y := z_ret (z_cl E (d + 2) 96 [.int 2] (161, (I, J, RF w))) 28 [some (.ref 0), some (.int (nI s)), some (.int 2), some (.int (nI n))] []) (fun _ => rfl) ?_
  refine z_evK (v := .int (z_bo (¬ 2 < 0 ∧ ¬ 2 < 2))) (z' := 161) (σ' := (I, J, RF w)) (x_isSort E (d + 1) I J w 2) ?_
  refine z_evG 1 (y := if (z_bo (¬ 2 < 0 ∧ ¬ 2 < 2)) = 0 then z_go 37 [some (.ref 0), some (.int (nI s)), some (.int 2), some (.int (nI n))] [] 161 (I, J, RF w) else z_go 31 [some (.ref 0), some (.int (nI s)), some (.int 2), some (.int (nI n))] [] 161 (I, J, RF w)) (fun _ => rfl) ?_
  refine z_evF (fun q0 => z_bo_0.mp q0 ⟨(by decide), (by decide)⟩) ?_
  refine z_evL ?_
  refine z_evG 3 (y := if 40 < (nI n) then z_go 37 [some (.ref 0), some (.int (nI s)), some (.int 2), some (.int (nI n))] [] 161 (I, J, RF w) else z_go 40 [some (.ref 0), some (.int (nI s)), some (.int 2), some (.int (nI n))] [] 161 (I, J, RF w)) (fun _ => rfl) ?_
  refine z_evF ((mt (show _ ↔ 40 < n from z_ltN rfl rfl (by omega) (by omega)).mp (by omega))) ?_
  refine z_evL ?_
  refine z_evG 2 (y := if (nI n) < 0 then z_go 44 [some (.ref 0), some (.int (nI s)), some (.int 2), some (.int (nI n))] [] 161 (I, J, RF w) else z_go 49 [some (.ref 0), some (.int (nI s)), some (.int 2), some (.int (nI n))] [] 161 (I, J, RF w)) (fun _ => rfl) ?_
  refine z_evF ((mt (show _ ↔ n < 0 from z_ltN rfl rfl (by omega) (by omega)).mp (by omega))) ?_
  refine z_evL ?_
  refine z_evG 6 (y := z_ret (z_cl E (d + 2) 102 [.ref 117, .int (nI s), .int 2, .int (nI n)] (161, (I, J, RF w))) 59 [some (.ref 0), some (.int (nI s)), some (.int 2), some (.int (nI n))] []) (fun _ => rfl) ?_
  refine z_evK (v := .int 1) (z' := 161) (σ' := ((z_u2 (z_u2 (z_ur I (119 + s) (z_fil (I (119 + s)) 0 40 (fun _ => 0))) 123 s 2) 124 s (nI n)), J, RF w)) (x_make E d I J w s 2 (nI n) (by omega)) ?_
  refine z_evG 1 (y := some (.inr (some (.int 1), 161, (z_u2 (z_u2 (z_ur I (119 + s) (z_fil (I (119 + s)) 0 40 (fun _ => 0))) 123 s 2) 124 s (nI n)), J, RF w))) (fun _ => rfl) ?_
  exact z_evR rfl
