-- ROW OF
set_option maxRecDepth 20000 in
/-- LampHouse.rowOf -/
theorem x_rowOf_badA (E : zE) (d : Nat) (I : Nat → Nat → Int32) (J : Nat → Nat → Int64) (w : Nat) (s o f : Int32) (hbad : ¬ ((¬ s < 0 ∧ s < 4) ∧ (¬ o < 0 ∧ ¬ 2 < o))) : z_cl E (d + 2) 164 [.ref 0, .int s, .int o, .int f] (161, I, J, RF w) = some (some (.int (-2)), 161, I, J, RF w) := by
  refine z_call (d := d + 1) (M := z_m164) rfl rfl ?_
  refine z_evG 2 (y := z_ret (z_cl E (d + 1) 95 [.int s] (161, (I, J, RF w))) 4 [some (.ref 0), some (.int s), some (.int o), some (.int f)] []) (fun _ => rfl) ?_
  refine z_evK (v := .int (z_bo (¬ s < 0 ∧ s < 4))) (z' := 161) (σ' := (I, J, RF w)) (x_isPlace E d I J w s) ?_
  refine z_evG 1 (y := if (z_bo (¬ s < 0 ∧ s < 4)) = 0 then z_go 14 [some (.ref 0), some (.int s), some (.int o), some (.int f)] [] 161 (I, J, RF w) else z_go 7 [some (.ref 0), some (.int s), some (.int o), some (.int f)] [] 161 (I, J, RF w)) (fun _ => rfl) ?_
  refine z_evO (fun h1 => ?_) (fun h1 => ?_)
  · refine z_evL ?_
    refine z_evG 2 (y := some (.inr (some (.int (-2)), 161, I, J, RF w))) (fun _ => rfl) ?_
    exact z_evR rfl
  · refine z_evL ?_
    refine z_evG 2 (y := z_ret (z_cl E (d + 1) 96 [.int o] (161, (I, J, RF w))) 11 [some (.ref 0), some (.int s), some (.int o), some (.int f)] []) (fun _ => rfl) ?_
    refine z_evK (v := .int (z_bo (¬ o < 0 ∧ ¬ 2 < o))) (z' := 161) (σ' := (I, J, RF w)) (x_isSort E d I J w o) ?_
    refine z_evG 1 (y := if (z_bo (¬ o < 0 ∧ ¬ 2 < o)) = 0 then z_go 14 [some (.ref 0), some (.int s), some (.int o), some (.int f)] [] 161 (I, J, RF w) else z_go 17 [some (.ref 0), some (.int s), some (.int o), some (.int f)] [] 161 (I, J, RF w)) (fun _ => rfl) ?_
    refine z_evO (fun h2 => ?_) (fun h2 => ?_)
    · refine z_evL ?_
      refine z_evG 2 (y := some (.inr (some (.int (-2)), 161, I, J, RF w))) (fun _ => rfl) ?_
      exact z_evR rfl
    · refine z_evL ?_
      exact absurd ⟨h1, h2⟩ hbad
set_option maxRecDepth 20000 in
/-- LampHouseModel.rowOf -/
theorem m_rowOf_badA (E : zE) (d : Nat) (I : Nat → Nat → Int32) (J : Nat → Nat → Int64) (w : Nat) (s o f : Int32) (hbad : ¬ ((¬ s < 0 ∧ ¬ 3 < s) ∧ (¬ o < 0 ∧ ¬ 2 < o))) : z_cl E (d + 3) 251 [.ref 127, .int s, .int o, .int f] (161, I, J, RF w) = some (some (.int (-2)), 161, I, J, RF w) := by
  refine z_call (d := d + 2) (M := z_m251) rfl rfl ?_
  refine z_evG 2 (y := z_ret (z_cl E (d + 2) 247 [.int s] (161, (I, J, RF w))) 4 [some (.ref 127), some (.int s), some (.int o), some (.int f), none] []) (fun _ => rfl) ?_
  refine z_evK (v := .int (z_bo (¬ s < 0 ∧ ¬ 3 < s))) (z' := 161) (σ' := (I, J, RF w)) (m_isSheet E d I J w s) ?_
  refine z_evG 1 (y := if (z_bo (¬ s < 0 ∧ ¬ 3 < s)) = 0 then z_go 16 [some (.ref 127), some (.int s), some (.int o), some (.int f), none] [] 161 (I, J, RF w) else z_go 7 [some (.ref 127), some (.int s), some (.int o), some (.int f), none] [] 161 (I, J, RF w)) (fun _ => rfl) ?_
  refine z_evO (fun h1 => ?_) (fun h1 => ?_)
  · refine z_evL ?_
    refine z_evG 2 (y := some (.inr (some (.int (-2)), 161, I, J, RF w))) (fun _ => rfl) ?_
    exact z_evR rfl
  · refine z_evL ?_
    refine z_evG 4 (y := z_ret (z_cl E (d + 2) 178 [.int o, .int 0, .int 2] (161, (I, J, RF w))) 13 [some (.ref 127), some (.int s), some (.int o), some (.int f), none] []) (fun _ => rfl) ?_
    refine z_evK (v := .int (z_bo (¬ o < 0 ∧ ¬ 2 < o))) (z' := 161) (σ' := (I, J, RF w)) (m_in E (d + 1) I J w o 0 2) ?_
    refine z_evG 1 (y := if (z_bo (¬ o < 0 ∧ ¬ 2 < o)) = 0 then z_go 16 [some (.ref 127), some (.int s), some (.int o), some (.int f), none] [] 161 (I, J, RF w) else z_go 19 [some (.ref 127), some (.int s), some (.int o), some (.int f), none] [] 161 (I, J, RF w)) (fun _ => rfl) ?_
    refine z_evO (fun h2 => ?_) (fun h2 => ?_)
    · refine z_evL ?_
      refine z_evG 2 (y := some (.inr (some (.int (-2)), 161, I, J, RF w))) (fun _ => rfl) ?_
      exact z_evR rfl
    · refine z_evL ?_
      exact absurd ⟨h1, h2⟩ hbad
set_option maxRecDepth 20000 in
/-- LampHouse.rowOf -/
theorem x_rowOf_miss (E : zE) (d : Nat) (I : Nat → Nat → Int32) (J : Nat → Nat → Int64) (w : Nat) (s o : Nat) (f : Int32) (hl_s : s < 4) (hl_o : o < 3) (hM : I 123 s = (-1)) : z_cl E (d + 2) 164 [.ref 0, .int (nI s), .int (nI o), .int f] (161, I, J, RF w) = some (some (.int (-11)), 161, I, J, RF w) := by
  refine z_call (d := d + 1) (M := z_m164) rfl rfl ?_
  refine z_evG 2 (y := z_ret (z_cl E (d + 1) 95 [.int (nI s)] (161, (I, J, RF w))) 4 [some (.ref 0), some (.int (nI s)), some (.int (nI o)), some (.int f)] []) (fun _ => rfl) ?_
  refine z_evK (v := .int (z_bo (¬ (nI s) < 0 ∧ (nI s) < 4))) (z' := 161) (σ' := (I, J, RF w)) (x_isPlace E d I J w (nI s)) ?_
  refine z_evG 1 (y := if (z_bo (¬ (nI s) < 0 ∧ (nI s) < 4)) = 0 then z_go 14 [some (.ref 0), some (.int (nI s)), some (.int (nI o)), some (.int f)] [] 161 (I, J, RF w) else z_go 7 [some (.ref 0), some (.int (nI s)), some (.int (nI o)), some (.int f)] [] 161 (I, J, RF w)) (fun _ => rfl) ?_
  refine z_evF (fun q0 => z_bo_0.mp q0 ⟨nI_pos (by omega), (show _ ↔ s < 4 from z_ltN rfl rfl (by omega) (by decide)).mpr (by omega)⟩) ?_
  refine z_evL ?_
  refine z_evG 2 (y := z_ret (z_cl E (d + 1) 96 [.int (nI o)] (161, (I, J, RF w))) 11 [some (.ref 0), some (.int (nI s)), some (.int (nI o)), some (.int f)] []) (fun _ => rfl) ?_
  refine z_evK (v := .int (z_bo (¬ (nI o) < 0 ∧ ¬ 2 < (nI o)))) (z' := 161) (σ' := (I, J, RF w)) (x_isSort E d I J w (nI o)) ?_
  refine z_evG 1 (y := if (z_bo (¬ (nI o) < 0 ∧ ¬ 2 < (nI o))) = 0 then z_go 14 [some (.ref 0), some (.int (nI s)), some (.int (nI o)), some (.int f)] [] 161 (I, J, RF w) else z_go 17 [some (.ref 0), some (.int (nI s)), some (.int (nI o)), some (.int f)] [] 161 (I, J, RF w)) (fun _ => rfl) ?_
  refine z_evF (fun q0 => z_bo_0.mp q0 ⟨nI_pos (by omega), mt (show _ ↔ 2 < o from z_ltN rfl rfl (by decide) (by omega)).mp (by omega)⟩) ?_
  refine z_evL ?_
  refine z_evG 4 (y := z_ret (z_cl E (d + 1) 97 [.ref 117, .int (nI s)] (161, (I, J, RF w))) 25 [some (.ref 0), some (.int (nI s)), some (.int (nI o)), some (.int f)] []) (fun _ => rfl) ?_
  refine z_evK (v := .int (z_bo (I 123 s = (-1)))) (z' := 161) (σ' := (I, J, RF w)) (x_sheets_isMissingN E d I J w s (by omega)) ?_
  refine z_evG 1 (y := if (z_bo (I 123 s = (-1))) = 0 then z_go 28 [some (.ref 0), some (.int (nI s)), some (.int (nI o)), some (.int f)] [] 161 (I, J, RF w) else z_go 43 [some (.ref 0), some (.int (nI s)), some (.int (nI o)), some (.int f)] [] 161 (I, J, RF w)) (fun _ => rfl) ?_
  refine z_evF (fun q0 => z_bo_0.mp q0 hM) ?_
  refine z_evL ?_
  refine z_evG 4 (y := z_ret (z_cl E (d + 1) 97 [.ref 117, .int (nI s)] (161, (I, J, RF w))) 51 [some (.ref 0), some (.int (nI s)), some (.int (nI o)), some (.int f)] []) (fun _ => rfl) ?_
  refine z_evK (v := .int (z_bo (I 123 s = (-1)))) (z' := 161) (σ' := (I, J, RF w)) (x_sheets_isMissingN E d I J w s (by omega)) ?_
  refine z_evG 1 (y := if (z_bo (I 123 s = (-1))) = 0 then z_go 57 [some (.ref 0), some (.int (nI s)), some (.int (nI o)), some (.int f)] [] 161 (I, J, RF w) else z_go 54 [some (.ref 0), some (.int (nI s)), some (.int (nI o)), some (.int f)] [] 161 (I, J, RF w)) (fun _ => rfl) ?_
  refine z_evF (fun q0 => z_bo_0.mp q0 hM) ?_
  refine z_evL ?_
  refine z_evG 2 (y := some (.inr (some (.int (-11)), 161, I, J, RF w))) (fun _ => rfl) ?_
  exact z_evR rfl
set_option maxRecDepth 20000 in
/-- LampHouseModel.rowOf -/
theorem m_rowOf_miss (E : zE) (d : Nat) (I : Nat → Nat → Int32) (J : Nat → Nat → Int64) (w : Nat) (s o : Nat) (f : Int32) (hl_s : s < 4) (hl_o : o < 3) (hM : I 157 s = (-1)) : z_cl E (d + 3) 251 [.ref 127, .int (nI s), .int (nI o), .int f] (161, I, J, RF w) = some (some (.int (-11)), 161, I, J, RF w) := by
  refine z_call (d := d + 2) (M := z_m251) rfl rfl ?_
  refine z_evG 2 (y := z_ret (z_cl E (d + 2) 247 [.int (nI s)] (161, (I, J, RF w))) 4 [some (.ref 127), some (.int (nI s)), some (.int (nI o)), some (.int f), none] []) (fun _ => rfl) ?_
  refine z_evK (v := .int (z_bo (¬ (nI s) < 0 ∧ ¬ 3 < (nI s)))) (z' := 161) (σ' := (I, J, RF w)) (m_isSheet E d I J w (nI s)) ?_
  refine z_evG 1 (y := if (z_bo (¬ (nI s) < 0 ∧ ¬ 3 < (nI s))) = 0 then z_go 16 [some (.ref 127), some (.int (nI s)), some (.int (nI o)), some (.int f), none] [] 161 (I, J, RF w) else z_go 7 [some (.ref 127), some (.int (nI s)), some (.int (nI o)), some (.int f), none] [] 161 (I, J, RF w)) (fun _ => rfl) ?_
  refine z_evF (fun q0 => z_bo_0.mp q0 ⟨nI_pos (by omega), mt (show _ ↔ 3 < s from z_ltN rfl rfl (by decide) (by omega)).mp (by omega)⟩) ?_
  refine z_evL ?_
  refine z_evG 4 (y := z_ret (z_cl E (d + 2) 178 [.int (nI o), .int 0, .int 2] (161, (I, J, RF w))) 13 [some (.ref 127), some (.int (nI s)), some (.int (nI o)), some (.int f), none] []) (fun _ => rfl) ?_
  refine z_evK (v := .int (z_bo (¬ (nI o) < 0 ∧ ¬ 2 < (nI o)))) (z' := 161) (σ' := (I, J, RF w)) (m_in E (d + 1) I J w (nI o) 0 2) ?_
  refine z_evG 1 (y := if (z_bo (¬ (nI o) < 0 ∧ ¬ 2 < (nI o))) = 0 then z_go 16 [some (.ref 127), some (.int (nI s)), some (.int (nI o)), some (.int f), none] [] 161 (I, J, RF w) else z_go 19 [some (.ref 127), some (.int (nI s)), some (.int (nI o)), some (.int f), none] [] 161 (I, J, RF w)) (fun _ => rfl) ?_
  refine z_evF (fun q0 => z_bo_0.mp q0 ⟨nI_pos (by omega), mt (show _ ↔ 2 < o from z_ltN rfl rfl (by decide) (by omega)).mp (by omega)⟩) ?_
  refine z_evL ?_
  refine z_evG 4 (y := z_ild (z_ia E 161 (I, J, RF w) 157) (nI s) fun vv => z_go 25 [some (.ref 127), some (.int (nI s)), some (.int (nI o)), some (.int f), none] [.int vv] 161 (I, J, RF w)) (fun _ => rfl) ?_
  refine z_evBn (N := 4) (f := (I 157)) (k := s) rfl rfl (by omega) ?_
  refine z_evL ?_
  rw [show I 157 s = (-1) from hM]
  refine z_evG 1 (y := if (-1) < 0 then z_go 41 [some (.ref 127), some (.int (nI s)), some (.int (nI o)), some (.int f), none] [] 161 (I, J, RF w) else z_go 28 [some (.ref 127), some (.int (nI s)), some (.int (nI o)), some (.int f), none] [] 161 (I, J, RF w)) (fun _ => rfl) ?_
  refine z_evI (fun _ => ?_) (fun q => absurd (by decide) q)
  refine z_evL ?_
  refine z_evG 4 (y := z_ild (z_ia E 161 (I, J, RF w) 157) (nI s) fun vv => z_go 47 [some (.ref 127), some (.int (nI s)), some (.int (nI o)), some (.int f), none] [.int vv] 161 (I, J, RF w)) (fun _ => rfl) ?_
  refine z_evBn (N := 4) (f := (I 157)) (k := s) rfl rfl (by omega) ?_
  refine z_evL ?_
  rw [show I 157 s = (-1) from hM]
  refine z_evG 1 (y := if (-1) < 0 then z_go 50 [some (.ref 127), some (.int (nI s)), some (.int (nI o)), some (.int f), none] [] 161 (I, J, RF w) else z_go 53 [some (.ref 127), some (.int (nI s)), some (.int (nI o)), some (.int f), none] [] 161 (I, J, RF w)) (fun _ => rfl) ?_
  refine z_evI (fun _ => ?_) (fun q => absurd (by decide) q)
  refine z_evL ?_
  refine z_evG 2 (y := some (.inr (some (.int (-11)), 161, I, J, RF w))) (fun _ => rfl) ?_
  exact z_evR rfl
set_option maxRecDepth 20000 in
/-- LampHouse.rowOf -/
theorem x_rowOf_badB (E : zE) (d : Nat) (I : Nat → Nat → Int32) (J : Nat → Nat → Int64) (w : Nat) (s o : Nat) (f : Int32) (hl_s : s < 4) (hl_o : o < 3) (hs : ¬ I 123 s = (-1)) (hbad : ¬ (I 123 s = nI o)) : z_cl E (d + 2) 164 [.ref 0, .int (nI s), .int (nI o), .int f] (161, I, J, RF w) = some (some (.int (-13)), 161, I, J, RF w) := by
  refine z_call (d := d + 1) (M := z_m164) rfl rfl ?_
  refine z_evG 2 (y := z_ret (z_cl E (d + 1) 95 [.int (nI s)] (161, (I, J, RF w))) 4 [some (.ref 0), some (.int (nI s)), some (.int (nI o)), some (.int f)] []) (fun _ => rfl) ?_
  refine z_evK (v := .int (z_bo (¬ (nI s) < 0 ∧ (nI s) < 4))) (z' := 161) (σ' := (I, J, RF w)) (x_isPlace E d I J w (nI s)) ?_
  refine z_evG 1 (y := if (z_bo (¬ (nI s) < 0 ∧ (nI s) < 4)) = 0 then z_go 14 [some (.ref 0), some (.int (nI s)), some (.int (nI o)), some (.int f)] [] 161 (I, J, RF w) else z_go 7 [some (.ref 0), some (.int (nI s)), some (.int (nI o)), some (.int f)] [] 161 (I, J, RF w)) (fun _ => rfl) ?_
  refine z_evF (fun q0 => z_bo_0.mp q0 ⟨nI_pos (by omega), (show _ ↔ s < 4 from z_ltN rfl rfl (by omega) (by decide)).mpr (by omega)⟩) ?_
  refine z_evL ?_
  refine z_evG 2 (y := z_ret (z_cl E (d + 1) 96 [.int (nI o)] (161, (I, J, RF w))) 11 [some (.ref 0), some (.int (nI s)), some (.int (nI o)), some (.int f)] []) (fun _ => rfl) ?_
  refine z_evK (v := .int (z_bo (¬ (nI o) < 0 ∧ ¬ 2 < (nI o)))) (z' := 161) (σ' := (I, J, RF w)) (x_isSort E d I J w (nI o)) ?_
  refine z_evG 1 (y := if (z_bo (¬ (nI o) < 0 ∧ ¬ 2 < (nI o))) = 0 then z_go 14 [some (.ref 0), some (.int (nI s)), some (.int (nI o)), some (.int f)] [] 161 (I, J, RF w) else z_go 17 [some (.ref 0), some (.int (nI s)), some (.int (nI o)), some (.int f)] [] 161 (I, J, RF w)) (fun _ => rfl) ?_
  refine z_evF (fun q0 => z_bo_0.mp q0 ⟨nI_pos (by omega), mt (show _ ↔ 2 < o from z_ltN rfl rfl (by decide) (by omega)).mp (by omega)⟩) ?_
  refine z_evL ?_
  refine z_evG 4 (y := z_ret (z_cl E (d + 1) 97 [.ref 117, .int (nI s)] (161, (I, J, RF w))) 25 [some (.ref 0), some (.int (nI s)), some (.int (nI o)), some (.int f)] []) (fun _ => rfl) ?_
  refine z_evK (v := .int (z_bo (I 123 s = (-1)))) (z' := 161) (σ' := (I, J, RF w)) (x_sheets_isMissingN E d I J w s (by omega)) ?_
  refine z_evG 1 (y := if (z_bo (I 123 s = (-1))) = 0 then z_go 28 [some (.ref 0), some (.int (nI s)), some (.int (nI o)), some (.int f)] [] 161 (I, J, RF w) else z_go 43 [some (.ref 0), some (.int (nI s)), some (.int (nI o)), some (.int f)] [] 161 (I, J, RF w)) (fun _ => rfl) ?_
  refine z_evT (z_bo_0.mpr hs) ?_
  refine z_evL ?_
  refine z_evG 4 (y := z_ret (z_cl E (d + 1) 98 [.ref 117, .int (nI s)] (161, (I, J, RF w))) 36 [some (.ref 0), some (.int (nI s)), some (.int (nI o)), some (.int f)] []) (fun _ => rfl) ?_
  refine z_evK (v := .int (I 123 s)) (z' := 161) (σ' := (I, J, RF w)) (x_sheets_sortOfN E d I J w s (by omega)) ?_
  refine z_evG 2 (y := if (I 123 s) = (nI o) then z_go 43 [some (.ref 0), some (.int (nI s)), some (.int (nI o)), some (.int f)] [] 161 (I, J, RF w) else z_go 40 [some (.ref 0), some (.int (nI s)), some (.int (nI o)), some (.int f)] [] 161 (I, J, RF w)) (fun _ => rfl) ?_
  refine z_evI (fun h4 => ?_) (fun h4 => ?_)
  · refine z_evL ?_
    exact absurd h4 hbad
  · refine z_evL ?_
    refine z_evG 2 (y := some (.inr (some (.int (-13)), 161, I, J, RF w))) (fun _ => rfl) ?_
    exact z_evR rfl
set_option maxRecDepth 20000 in
/-- LampHouseModel.rowOf -/
theorem m_rowOf_badB (E : zE) (d : Nat) (I : Nat → Nat → Int32) (J : Nat → Nat → Int64) (w : Nat) (s o : Nat) (f : Int32) (hl_s : s < 4) (hl_o : o < 3) (hs : ¬ I 157 s < 0) (hbad : ¬ (I 157 s = nI o)) : z_cl E (d + 3) 251 [.ref 127, .int (nI s), .int (nI o), .int f] (161, I, J, RF w) = some (some (.int (-13)), 161, I, J, RF w) := by
  refine z_call (d := d + 2) (M := z_m251) rfl rfl ?_
  refine z_evG 2 (y := z_ret (z_cl E (d + 2) 247 [.int (nI s)] (161, (I, J, RF w))) 4 [some (.ref 127), some (.int (nI s)), some (.int (nI o)), some (.int f), none] []) (fun _ => rfl) ?_
  refine z_evK (v := .int (z_bo (¬ (nI s) < 0 ∧ ¬ 3 < (nI s)))) (z' := 161) (σ' := (I, J, RF w)) (m_isSheet E d I J w (nI s)) ?_
  refine z_evG 1 (y := if (z_bo (¬ (nI s) < 0 ∧ ¬ 3 < (nI s))) = 0 then z_go 16 [some (.ref 127), some (.int (nI s)), some (.int (nI o)), some (.int f), none] [] 161 (I, J, RF w) else z_go 7 [some (.ref 127), some (.int (nI s)), some (.int (nI o)), some (.int f), none] [] 161 (I, J, RF w)) (fun _ => rfl) ?_
  refine z_evF (fun q0 => z_bo_0.mp q0 ⟨nI_pos (by omega), mt (show _ ↔ 3 < s from z_ltN rfl rfl (by decide) (by omega)).mp (by omega)⟩) ?_
  refine z_evL ?_
  refine z_evG 4 (y := z_ret (z_cl E (d + 2) 178 [.int (nI o), .int 0, .int 2] (161, (I, J, RF w))) 13 [some (.ref 127), some (.int (nI s)), some (.int (nI o)), some (.int f), none] []) (fun _ => rfl) ?_
  refine z_evK (v := .int (z_bo (¬ (nI o) < 0 ∧ ¬ 2 < (nI o)))) (z' := 161) (σ' := (I, J, RF w)) (m_in E (d + 1) I J w (nI o) 0 2) ?_
  refine z_evG 1 (y := if (z_bo (¬ (nI o) < 0 ∧ ¬ 2 < (nI o))) = 0 then z_go 16 [some (.ref 127), some (.int (nI s)), some (.int (nI o)), some (.int f), none] [] 161 (I, J, RF w) else z_go 19 [some (.ref 127), some (.int (nI s)), some (.int (nI o)), some (.int f), none] [] 161 (I, J, RF w)) (fun _ => rfl) ?_
  refine z_evF (fun q0 => z_bo_0.mp q0 ⟨nI_pos (by omega), mt (show _ ↔ 2 < o from z_ltN rfl rfl (by decide) (by omega)).mp (by omega)⟩) ?_
  refine z_evL ?_
  refine z_evG 4 (y := z_ild (z_ia E 161 (I, J, RF w) 157) (nI s) fun vv => z_go 25 [some (.ref 127), some (.int (nI s)), some (.int (nI o)), some (.int f), none] [.int vv] 161 (I, J, RF w)) (fun _ => rfl) ?_
  refine z_evBn (N := 4) (f := (I 157)) (k := s) rfl rfl (by omega) ?_
  refine z_evL ?_
  refine z_evG 1 (y := if (I 157 s) < 0 then z_go 41 [some (.ref 127), some (.int (nI s)), some (.int (nI o)), some (.int f), none] [] 161 (I, J, RF w) else z_go 28 [some (.ref 127), some (.int (nI s)), some (.int (nI o)), some (.int f), none] [] 161 (I, J, RF w)) (fun _ => rfl) ?_
  refine z_evF hs ?_
  refine z_evL ?_
  refine z_evG 4 (y := z_ild (z_ia E 161 (I, J, RF w) 157) (nI s) fun vv => z_go 34 [some (.ref 127), some (.int (nI s)), some (.int (nI o)), some (.int f), none] [.int vv] 161 (I, J, RF w)) (fun _ => rfl) ?_
  refine z_evBn (N := 4) (f := (I 157)) (k := s) rfl rfl (by omega) ?_
  refine z_evL ?_
  refine z_evG 2 (y := if (I 157 s) = (nI o) then z_go 41 [some (.ref 127), some (.int (nI s)), some (.int (nI o)), some (.int f), none] [] 161 (I, J, RF w) else z_go 38 [some (.ref 127), some (.int (nI s)), some (.int (nI o)), some (.int f), none] [] 161 (I, J, RF w)) (fun _ => rfl) ?_
  refine z_evI (fun h4 => ?_) (fun h4 => ?_)
  · refine z_evL ?_
    exact absurd h4 hbad
  · refine z_evL ?_
    refine z_evG 2 (y := some (.inr (some (.int (-13)), 161, I, J, RF w))) (fun _ => rfl) ?_
    exact z_evR rfl
set_option maxRecDepth 20000 in
/-- LampHouse.rowOf -/
theorem x_rowOf_badC (E : zE) (d : Nat) (I : Nat → Nat → Int32) (J : Nat → Nat → Int64) (w : Nat) (s o : Nat) (f : Int32) (hl_s : s < 4) (hl_o : o < 3) (hs : ¬ I 123 s = (-1)) (he : I 123 s = nI o) (hbad : ¬ (¬ f < 0 ∧ ¬ (8 : Int32) < 0 ∧ ¬ I 124 s < f ∧ ¬ I 124 s - f < 8)) : z_cl E (d + 2) 164 [.ref 0, .int (nI s), .int (nI o), .int f] (161, I, J, RF w) = some (some (.int (-12)), 161, I, J, RF w) := by
  refine z_call (d := d + 1) (M := z_m164) rfl rfl ?_
  refine z_evG 2 (y := z_ret (z_cl E (d + 1) 95 [.int (nI s)] (161, (I, J, RF w))) 4 [some (.ref 0), some (.int (nI s)), some (.int (nI o)), some (.int f)] []) (fun _ => rfl) ?_
  refine z_evK (v := .int (z_bo (¬ (nI s) < 0 ∧ (nI s) < 4))) (z' := 161) (σ' := (I, J, RF w)) (x_isPlace E d I J w (nI s)) ?_
  refine z_evG 1 (y := if (z_bo (¬ (nI s) < 0 ∧ (nI s) < 4)) = 0 then z_go 14 [some (.ref 0), some (.int (nI s)), some (.int (nI o)), some (.int f)] [] 161 (I, J, RF w) else z_go 7 [some (.ref 0), some (.int (nI s)), some (.int (nI o)), some (.int f)] [] 161 (I, J, RF w)) (fun _ => rfl) ?_
  refine z_evF (fun q0 => z_bo_0.mp q0 ⟨nI_pos (by omega), (show _ ↔ s < 4 from z_ltN rfl rfl (by omega) (by decide)).mpr (by omega)⟩) ?_
  refine z_evL ?_
  refine z_evG 2 (y := z_ret (z_cl E (d + 1) 96 [.int (nI o)] (161, (I, J, RF w))) 11 [some (.ref 0), some (.int (nI s)), some (.int (nI o)), some (.int f)] []) (fun _ => rfl) ?_
  refine z_evK (v := .int (z_bo (¬ (nI o) < 0 ∧ ¬ 2 < (nI o)))) (z' := 161) (σ' := (I, J, RF w)) (x_isSort E d I J w (nI o)) ?_
  refine z_evG 1 (y := if (z_bo (¬ (nI o) < 0 ∧ ¬ 2 < (nI o))) = 0 then z_go 14 [some (.ref 0), some (.int (nI s)), some (.int (nI o)), some (.int f)] [] 161 (I, J, RF w) else z_go 17 [some (.ref 0), some (.int (nI s)), some (.int (nI o)), some (.int f)] [] 161 (I, J, RF w)) (fun _ => rfl) ?_
  refine z_evF (fun q0 => z_bo_0.mp q0 ⟨nI_pos (by omega), mt (show _ ↔ 2 < o from z_ltN rfl rfl (by decide) (by omega)).mp (by omega)⟩) ?_
  refine z_evL ?_
  refine z_evG 4 (y := z_ret (z_cl E (d + 1) 97 [.ref 117, .int (nI s)] (161, (I, J, RF w))) 25 [some (.ref 0), some (.int (nI s)), some (.int (nI o)), some (.int f)] []) (fun _ => rfl) ?_
  refine z_evK (v := .int (z_bo (I 123 s = (-1)))) (z' := 161) (σ' := (I, J, RF w)) (x_sheets_isMissingN E d I J w s (by omega)) ?_
  refine z_evG 1 (y := if (z_bo (I 123 s = (-1))) = 0 then z_go 28 [some (.ref 0), some (.int (nI s)), some (.int (nI o)), some (.int f)] [] 161 (I, J, RF w) else z_go 43 [some (.ref 0), some (.int (nI s)), some (.int (nI o)), some (.int f)] [] 161 (I, J, RF w)) (fun _ => rfl) ?_
  refine z_evT (z_bo_0.mpr hs) ?_
  refine z_evL ?_
  refine z_evG 4 (y := z_ret (z_cl E (d + 1) 98 [.ref 117, .int (nI s)] (161, (I, J, RF w))) 36 [some (.ref 0), some (.int (nI s)), some (.int (nI o)), some (.int f)] []) (fun _ => rfl) ?_
  refine z_evK (v := .int (I 123 s)) (z' := 161) (σ' := (I, J, RF w)) (x_sheets_sortOfN E d I J w s (by omega)) ?_
  refine z_evG 2 (y := if (I 123 s) = (nI o) then z_go 43 [some (.ref 0), some (.int (nI s)), some (.int (nI o)), some (.int f)] [] 161 (I, J, RF w) else z_go 40 [some (.ref 0), some (.int (nI s)), some (.int (nI o)), some (.int f)] [] 161 (I, J, RF w)) (fun _ => rfl) ?_
  refine z_evT he ?_
  refine z_evL ?_
  refine z_evG 4 (y := z_ret (z_cl E (d + 1) 97 [.ref 117, .int (nI s)] (161, (I, J, RF w))) 51 [some (.ref 0), some (.int (nI s)), some (.int (nI o)), some (.int f)] []) (fun _ => rfl) ?_
  refine z_evK (v := .int (z_bo (I 123 s = (-1)))) (z' := 161) (σ' := (I, J, RF w)) (x_sheets_isMissingN E d I J w s (by omega)) ?_
  refine z_evG 1 (y := if (z_bo (I 123 s = (-1))) = 0 then z_go 57 [some (.ref 0), some (.int (nI s)), some (.int (nI o)), some (.int f)] [] 161 (I, J, RF w) else z_go 54 [some (.ref 0), some (.int (nI s)), some (.int (nI o)), some (.int f)] [] 161 (I, J, RF w)) (fun _ => rfl) ?_
  refine z_evT (z_bo_0.mpr hs) ?_
  refine z_evL ?_
  refine z_evG 6 (y := z_ret (z_cl E (d + 1) 100 [.ref 117, .int (nI s), .int f, .int 8] (161, (I, J, RF w))) 68 [some (.ref 0), some (.int (nI s)), some (.int (nI o)), some (.int f)] []) (fun _ => rfl) ?_
  refine z_evK (v := .int (z_bo (¬ f < 0 ∧ ¬ 8 < 0 ∧ ¬ I 124 s < f ∧ ¬ I 124 s - f < 8))) (z' := 161) (σ' := (I, J, RF w)) (x_sheets_holdsN E d I J w s f 8 (by omega)) ?_
  refine z_evG 1 (y := if (z_bo (¬ f < 0 ∧ ¬ 8 < 0 ∧ ¬ I 124 s < f ∧ ¬ I 124 s - f < 8)) = 0 then z_go 71 [some (.ref 0), some (.int (nI s)), some (.int (nI o)), some (.int f)] [] 161 (I, J, RF w) else z_go 74 [some (.ref 0), some (.int (nI s)), some (.int (nI o)), some (.int f)] [] 161 (I, J, RF w)) (fun _ => rfl) ?_
  refine z_evO (fun h6 => ?_) (fun h6 => ?_)
  · refine z_evL ?_
    refine z_evG 2 (y := some (.inr (some (.int (-12)), 161, I, J, RF w))) (fun _ => rfl) ?_
    exact z_evR rfl
  · refine z_evL ?_
    exact absurd h6 hbad
set_option maxRecDepth 20000 in
/-- LampHouseModel.rowOf -/
theorem m_rowOf_badC (E : zE) (d : Nat) (I : Nat → Nat → Int32) (J : Nat → Nat → Int64) (w : Nat) (s o : Nat) (f : Int32) (hl_s : s < 4) (hl_o : o < 3) (hs : ¬ I 157 s < 0) (he : I 157 s = nI o) (hbad : ¬ ((¬ f < 0) ∧ (¬ I 158 s - 8 < f))) : z_cl E (d + 3) 251 [.ref 127, .int (nI s), .int (nI o), .int f] (161, I, J, RF w) = some (some (.int (-12)), 161, I, J, RF w) := by
  refine z_call (d := d + 2) (M := z_m251) rfl rfl ?_
  refine z_evG 2 (y := z_ret (z_cl E (d + 2) 247 [.int (nI s)] (161, (I, J, RF w))) 4 [some (.ref 127), some (.int (nI s)), some (.int (nI o)), some (.int f), none] []) (fun _ => rfl) ?_
  refine z_evK (v := .int (z_bo (¬ (nI s) < 0 ∧ ¬ 3 < (nI s)))) (z' := 161) (σ' := (I, J, RF w)) (m_isSheet E d I J w (nI s)) ?_
  refine z_evG 1 (y := if (z_bo (¬ (nI s) < 0 ∧ ¬ 3 < (nI s))) = 0 then z_go 16 [some (.ref 127), some (.int (nI s)), some (.int (nI o)), some (.int f), none] [] 161 (I, J, RF w) else z_go 7 [some (.ref 127), some (.int (nI s)), some (.int (nI o)), some (.int f), none] [] 161 (I, J, RF w)) (fun _ => rfl) ?_
  refine z_evF (fun q0 => z_bo_0.mp q0 ⟨nI_pos (by omega), mt (show _ ↔ 3 < s from z_ltN rfl rfl (by decide) (by omega)).mp (by omega)⟩) ?_
  refine z_evL ?_
  refine z_evG 4 (y := z_ret (z_cl E (d + 2) 178 [.int (nI o), .int 0, .int 2] (161, (I, J, RF w))) 13 [some (.ref 127), some (.int (nI s)), some (.int (nI o)), some (.int f), none] []) (fun _ => rfl) ?_
  refine z_evK (v := .int (z_bo (¬ (nI o) < 0 ∧ ¬ 2 < (nI o)))) (z' := 161) (σ' := (I, J, RF w)) (m_in E (d + 1) I J w (nI o) 0 2) ?_
  refine z_evG 1 (y := if (z_bo (¬ (nI o) < 0 ∧ ¬ 2 < (nI o))) = 0 then z_go 16 [some (.ref 127), some (.int (nI s)), some (.int (nI o)), some (.int f), none] [] 161 (I, J, RF w) else z_go 19 [some (.ref 127), some (.int (nI s)), some (.int (nI o)), some (.int f), none] [] 161 (I, J, RF w)) (fun _ => rfl) ?_
  refine z_evF (fun q0 => z_bo_0.mp q0 ⟨nI_pos (by omega), mt (show _ ↔ 2 < o from z_ltN rfl rfl (by decide) (by omega)).mp (by omega)⟩) ?_
  refine z_evL ?_
  refine z_evG 4 (y := z_ild (z_ia E 161 (I, J, RF w) 157) (nI s) fun vv => z_go 25 [some (.ref 127), some (.int (nI s)), some (.int (nI o)), some (.int f), none] [.int vv] 161 (I, J, RF w)) (fun _ => rfl) ?_
  refine z_evBn (N := 4) (f := (I 157)) (k := s) rfl rfl (by omega) ?_
  refine z_evL ?_
  refine z_evG 1 (y := if (I 157 s) < 0 then z_go 41 [some (.ref 127), some (.int (nI s)), some (.int (nI o)), some (.int f), none] [] 161 (I, J, RF w) else z_go 28 [some (.ref 127), some (.int (nI s)), some (.int (nI o)), some (.int f), none] [] 161 (I, J, RF w)) (fun _ => rfl) ?_
  refine z_evF hs ?_
  refine z_evL ?_
  refine z_evG 4 (y := z_ild (z_ia E 161 (I, J, RF w) 157) (nI s) fun vv => z_go 34 [some (.ref 127), some (.int (nI s)), some (.int (nI o)), some (.int f), none] [.int vv] 161 (I, J, RF w)) (fun _ => rfl) ?_
  refine z_evBn (N := 4) (f := (I 157)) (k := s) rfl rfl (by omega) ?_
  refine z_evL ?_
  refine z_evG 2 (y := if (I 157 s) = (nI o) then z_go 41 [some (.ref 127), some (.int (nI s)), some (.int (nI o)), some (.int f), none] [] 161 (I, J, RF w) else z_go 38 [some (.ref 127), some (.int (nI s)), some (.int (nI o)), some (.int f), none] [] 161 (I, J, RF w)) (fun _ => rfl) ?_
  refine z_evT he ?_
  refine z_evL ?_
  refine z_evG 4 (y := z_ild (z_ia E 161 (I, J, RF w) 157) (nI s) fun vv => z_go 47 [some (.ref 127), some (.int (nI s)), some (.int (nI o)), some (.int f), none] [.int vv] 161 (I, J, RF w)) (fun _ => rfl) ?_
  refine z_evBn (N := 4) (f := (I 157)) (k := s) rfl rfl (by omega) ?_
  refine z_evL ?_
  refine z_evG 1 (y := if (I 157 s) < 0 then z_go 50 [some (.ref 127), some (.int (nI s)), some (.int (nI o)), some (.int f), none] [] 161 (I, J, RF w) else z_go 53 [some (.ref 127), some (.int (nI s)), some (.int (nI o)), some (.int f), none] [] 161 (I, J, RF w)) (fun _ => rfl) ?_
  refine z_evF hs ?_
  refine z_evL ?_
  refine z_evG 2 (y := if f < 0 then z_go 70 [some (.ref 127), some (.int (nI s)), some (.int (nI o)), some (.int f), none] [] 161 (I, J, RF w) else z_go 57 [some (.ref 127), some (.int (nI s)), some (.int (nI o)), some (.int f), none] [] 161 (I, J, RF w)) (fun _ => rfl) ?_
  refine z_evI (fun h6 => ?_) (fun h6 => ?_)
  · refine z_evL ?_
    refine z_evG 2 (y := some (.inr (some (.int (-12)), 161, I, J, RF w))) (fun _ => rfl) ?_
    exact z_evR rfl
  · refine z_evL ?_
    refine z_evG 5 (y := z_ild (z_ia E 161 (I, J, RF w) 158) (nI s) fun vv => z_go 64 [some (.ref 127), some (.int (nI s)), some (.int (nI o)), some (.int f), none] [.int vv, .int f] 161 (I, J, RF w)) (fun _ => rfl) ?_
    refine z_evBn (N := 4) (f := (I 158)) (k := s) rfl rfl (by omega) ?_
    refine z_evL ?_
    refine z_evG 3 (y := if ((I 158 s) - 8) < f then z_go 70 [some (.ref 127), some (.int (nI s)), some (.int (nI o)), some (.int f), none] [] 161 (I, J, RF w) else z_go 73 [some (.ref 127), some (.int (nI s)), some (.int (nI o)), some (.int f), none] [] 161 (I, J, RF w)) (fun _ => rfl) ?_
    refine z_evI (fun h7 => ?_) (fun h7 => ?_)
    · refine z_evL ?_
      refine z_evG 2 (y := some (.inr (some (.int (-12)), 161, I, J, RF w))) (fun _ => rfl) ?_
      exact z_evR rfl
    · refine z_evL ?_
      exact absurd ⟨h6, h7⟩ hbad
set_option maxRecDepth 20000 in
/-- LampHouse.rowOf -/
theorem x_rowOf_state (E : zE) (d : Nat) (I : Nat → Nat → Int32) (J : Nat → Nat → Int64) (w : Nat) (s o f a e : Nat) (hl_s : s < 4) (hl_o : o < 3) (hs : ¬ I 123 s = (-1)) (he : I 123 s = nI o) (h_a : I 124 s = nI a) (hm_a : a ≤ 40) (h1 : f + 8 ≤ a) (hE : e = 8) (hS : ¬ ∀ t, t < e → (¬ va_cpy (I (119 + s)) (I 125) f 0 8 t < 0 ∧ ¬ 999 < va_cpy (I (119 + s)) (I 125) f 0 8 t)) : z_cl E (d + 2) 164 [.ref 0, .int (nI s), .int (nI o), .int (nI f)] (161, I, J, RF w) = some (some (.int (-3)), 161, (z_ur I 125 (va_cpy (I (119 + s)) (I 125) f 0 8)), J, RF w) := by
  refine z_call (d := d + 1) (M := z_m164) rfl rfl ?_
  refine z_evG 2 (y := z_ret (z_cl E (d + 1) 95 [.int (nI s)] (161, (I, J, RF w))) 4 [some (.ref 0), some (.int (nI s)), some (.int (nI o)), some (.int (nI f))] []) (fun _ => rfl) ?_
  refine z_evK (v := .int (z_bo (¬ (nI s) < 0 ∧ (nI s) < 4))) (z' := 161) (σ' := (I, J, RF w)) (x_isPlace E d I J w (nI s)) ?_
  refine z_evG 1 (y := if (z_bo (¬ (nI s) < 0 ∧ (nI s) < 4)) = 0 then z_go 14 [some (.ref 0), some (.int (nI s)), some (.int (nI o)), some (.int (nI f))] [] 161 (I, J, RF w) else z_go 7 [some (.ref 0), some (.int (nI s)), some (.int (nI o)), some (.int (nI f))] [] 161 (I, J, RF w)) (fun _ => rfl) ?_
  refine z_evF (fun q0 => z_bo_0.mp q0 ⟨nI_pos (by omega), (show _ ↔ s < 4 from z_ltN rfl rfl (by omega) (by decide)).mpr (by omega)⟩) ?_
  refine z_evL ?_
  refine z_evG 2 (y := z_ret (z_cl E (d + 1) 96 [.int (nI o)] (161, (I, J, RF w))) 11 [some (.ref 0), some (.int (nI s)), some (.int (nI o)), some (.int (nI f))] []) (fun _ => rfl) ?_
  refine z_evK (v := .int (z_bo (¬ (nI o) < 0 ∧ ¬ 2 < (nI o)))) (z' := 161) (σ' := (I, J, RF w)) (x_isSort E d I J w (nI o)) ?_
  refine z_evG 1 (y := if (z_bo (¬ (nI o) < 0 ∧ ¬ 2 < (nI o))) = 0 then z_go 14 [some (.ref 0), some (.int (nI s)), some (.int (nI o)), some (.int (nI f))] [] 161 (I, J, RF w) else z_go 17 [some (.ref 0), some (.int (nI s)), some (.int (nI o)), some (.int (nI f))] [] 161 (I, J, RF w)) (fun _ => rfl) ?_
  refine z_evF (fun q0 => z_bo_0.mp q0 ⟨nI_pos (by omega), mt (show _ ↔ 2 < o from z_ltN rfl rfl (by decide) (by omega)).mp (by omega)⟩) ?_
  refine z_evL ?_
  refine z_evG 4 (y := z_ret (z_cl E (d + 1) 97 [.ref 117, .int (nI s)] (161, (I, J, RF w))) 25 [some (.ref 0), some (.int (nI s)), some (.int (nI o)), some (.int (nI f))] []) (fun _ => rfl) ?_
  refine z_evK (v := .int (z_bo (I 123 s = (-1)))) (z' := 161) (σ' := (I, J, RF w)) (x_sheets_isMissingN E d I J w s (by omega)) ?_
  refine z_evG 1 (y := if (z_bo (I 123 s = (-1))) = 0 then z_go 28 [some (.ref 0), some (.int (nI s)), some (.int (nI o)), some (.int (nI f))] [] 161 (I, J, RF w) else z_go 43 [some (.ref 0), some (.int (nI s)), some (.int (nI o)), some (.int (nI f))] [] 161 (I, J, RF w)) (fun _ => rfl) ?_
  refine z_evT (z_bo_0.mpr hs) ?_
  refine z_evL ?_
  refine z_evG 4 (y := z_ret (z_cl E (d + 1) 98 [.ref 117, .int (nI s)] (161, (I, J, RF w))) 36 [some (.ref 0), some (.int (nI s)), some (.int (nI o)), some (.int (nI f))] []) (fun _ => rfl) ?_
  refine z_evK (v := .int (I 123 s)) (z' := 161) (σ' := (I, J, RF w)) (x_sheets_sortOfN E d I J w s (by omega)) ?_
  refine z_evG 2 (y := if (I 123 s) = (nI o) then z_go 43 [some (.ref 0), some (.int (nI s)), some (.int (nI o)), some (.int (nI f))] [] 161 (I, J, RF w) else z_go 40 [some (.ref 0), some (.int (nI s)), some (.int (nI o)), some (.int (nI f))] [] 161 (I, J, RF w)) (fun _ => rfl) ?_
  refine z_evT he ?_
  refine z_evL ?_
  refine z_evG 4 (y := z_ret (z_cl E (d + 1) 97 [.ref 117, .int (nI s)] (161, (I, J, RF w))) 51 [some (.ref 0), some (.int (nI s)), some (.int (nI o)), some (.int (nI f))] []) (fun _ => rfl) ?_
  refine z_evK (v := .int (z_bo (I 123 s = (-1)))) (z' := 161) (σ' := (I, J, RF w)) (x_sheets_isMissingN E d I J w s (by omega)) ?_
  refine z_evG 1 (y := if (z_bo (I 123 s = (-1))) = 0 then z_go 57 [some (.ref 0), some (.int (nI s)), some (.int (nI o)), some (.int (nI f))] [] 161 (I, J, RF w) else z_go 54 [some (.ref 0), some (.int (nI s)), some (.int (nI o)), some (.int (nI f))] [] 161 (I, J, RF w)) (fun _ => rfl) ?_
  refine z_evT (z_bo_0.mpr hs) ?_
  refine z_evL ?_
  refine z_evG 6 (y := z_ret (z_cl E (d + 1) 100 [.ref 117, .int (nI s), .int (nI f), .int 8] (161, (I, J, RF w))) 68 [some (.ref 0), some (.int (nI s)), some (.int (nI o)), some (.int (nI f))] []) (fun _ => rfl) ?_
  refine z_evK (v := .int (z_bo (¬ (nI f) < 0 ∧ ¬ 8 < 0 ∧ ¬ I 124 s < (nI f) ∧ ¬ I 124 s - (nI f) < 8))) (z' := 161) (σ' := (I, J, RF w)) (x_sheets_holdsN E d I J w s (nI f) 8 (by omega)) ?_
  refine z_evG 1 (y := if (z_bo (¬ (nI f) < 0 ∧ ¬ 8 < 0 ∧ ¬ I 124 s < (nI f) ∧ ¬ I 124 s - (nI f) < 8)) = 0 then z_go 71 [some (.ref 0), some (.int (nI s)), some (.int (nI o)), some (.int (nI f))] [] 161 (I, J, RF w) else z_go 74 [some (.ref 0), some (.int (nI s)), some (.int (nI o)), some (.int (nI f))] [] 161 (I, J, RF w)) (fun _ => rfl) ?_
  refine z_evF (fun q0 => z_bo_0.mp q0 ⟨nI_pos (by omega), by decide, (mt (show _ ↔ a < f from z_ltN h_a rfl (by omega) (by omega)).mp (by omega)), (mt (show _ ↔ a - f < 8 from z_ltN (z_subE h_a rfl (by omega)) rfl (by omega) (by decide)).mp (by omega))⟩) ?_
  refine z_evL ?_
  refine z_evG 4 (y := z_ret (z_cl E (d + 1) 99 [.ref 117, .int (nI s)] (161, (I, J, RF w))) 82 [some (.ref 0), some (.int (nI s)), some (.int (nI o)), some (.int (nI f))] []) (fun _ => rfl) ?_
  refine z_evK (v := .ref (119 + s)) (z' := 161) (σ' := (I, J, RF w)) (x_sheets_getN E d I J w s (by omega)) ?_
  refine z_evG 6 (y := z_copy E 161 (I, J, RF w) (119 + s) 125 (nI f) 0 8 fun z σ => z_go 93 [some (.ref 0), some (.int (nI s)), some (.int (nI o)), some (.int (nI f))] [] z σ) (fun _ => rfl) ?_
  refine z_evYn (N := 40) (m := 8) (f := I (119 + s)) (a := f) (b := 0) (c := 8) (z_iaA (z_A_sheets s (by omega))) z_A_125 rfl rfl rfl (by omega) (by omega) (by decide) (by decide) ?_
  refine z_evL ?_
  refine z_evG 3 (y := z_ret (z_cl E (d + 1) 169 [.ref 125] (161, ((z_ur I 125 (va_cpy (I (119 + s)) (I 125) f 0 8)), J, RF w))) 100 [some (.ref 0), some (.int (nI s)), some (.int (nI o)), some (.int (nI f))] []) (fun _ => rfl) ?_
  refine z_evK (v := .int (z_bo (∀ t, t < e → ¬ (z_ur I 125 (va_cpy (I (119 + s)) (I 125) f 0 8)) 125 t < 0 ∧ ¬ 999 < (z_ur I 125 (va_cpy (I (119 + s)) (I 125) f 0 8)) 125 t))) (z' := 161) (σ' := ((z_ur I 125 (va_cpy (I (119 + s)) (I 125) f 0 8)), J, RF w)) (x_areNumbers E d (z_ur I 125 (va_cpy (I (119 + s)) (I 125) f 0 8)) J w e hE) ?_
  refine z_evG 1 (y := if (z_bo (∀ t, t < e → ¬ (z_ur I 125 (va_cpy (I (119 + s)) (I 125) f 0 8)) 125 t < 0 ∧ ¬ 999 < (z_ur I 125 (va_cpy (I (119 + s)) (I 125) f 0 8)) 125 t)) = 0 then z_go 103 [some (.ref 0), some (.int (nI s)), some (.int (nI o)), some (.int (nI f))] [] 161 ((z_ur I 125 (va_cpy (I (119 + s)) (I 125) f 0 8)), J, RF w) else z_go 106 [some (.ref 0), some (.int (nI s)), some (.int (nI o)), some (.int (nI f))] [] 161 ((z_ur I 125 (va_cpy (I (119 + s)) (I 125) f 0 8)), J, RF w)) (fun _ => rfl) ?_
  refine z_evT (z_bo_0.mpr hS) ?_
  refine z_evL ?_
  refine z_evG 2 (y := some (.inr (some (.int (-3)), 161, (z_ur I 125 (va_cpy (I (119 + s)) (I 125) f 0 8)), J, RF w))) (fun _ => rfl) ?_
  exact z_evR rfl
set_option maxRecDepth 20000 in
/-- LampHouse.rowOf -/
theorem x_rowOf_full (E : zE) (d : Nat) (I : Nat → Nat → Int32) (J : Nat → Nat → Int64) (w : Nat) (s o f a e n : Nat) (hl_s : s < 4) (hl_o : o < 3) (hs : ¬ I 123 s = (-1)) (he : I 123 s = nI o) (h_a : I 124 s = nI a) (hm_a : a ≤ 40) (h1 : f + 8 ≤ a) (hE : e = 8) (hS : ∀ t, t < e → (¬ va_cpy (I (119 + s)) (I 125) f 0 8 t < 0 ∧ ¬ 999 < va_cpy (I (119 + s)) (I 125) f 0 8 t)) (h_n : I 1 1 = nI n) (hm_n : n ≤ 30) (hf : n = 30) : z_cl E (d + 2) 164 [.ref 0, .int (nI s), .int (nI o), .int (nI f)] (161, I, J, RF w) = some (some (.int (-4)), 161, (z_ur I 125 (va_cpy (I (119 + s)) (I 125) f 0 8)), J, RF w) := by
  refine z_call (d := d + 1) (M := z_m164) rfl rfl ?_
  refine z_evG 2 (y := z_ret (z_cl E (d + 1) 95 [.int (nI s)] (161, (I, J, RF w))) 4 [some (.ref 0), some (.int (nI s)), some (.int (nI o)), some (.int (nI f))] []) (fun _ => rfl) ?_
  refine z_evK (v := .int (z_bo (¬ (nI s) < 0 ∧ (nI s) < 4))) (z' := 161) (σ' := (I, J, RF w)) (x_isPlace E d I J w (nI s)) ?_
  refine z_evG 1 (y := if (z_bo (¬ (nI s) < 0 ∧ (nI s) < 4)) = 0 then z_go 14 [some (.ref 0), some (.int (nI s)), some (.int (nI o)), some (.int (nI f))] [] 161 (I, J, RF w) else z_go 7 [some (.ref 0), some (.int (nI s)), some (.int (nI o)), some (.int (nI f))] [] 161 (I, J, RF w)) (fun _ => rfl) ?_
  refine z_evF (fun q0 => z_bo_0.mp q0 ⟨nI_pos (by omega), (show _ ↔ s < 4 from z_ltN rfl rfl (by omega) (by decide)).mpr (by omega)⟩) ?_
  refine z_evL ?_
  refine z_evG 2 (y := z_ret (z_cl E (d + 1) 96 [.int (nI o)] (161, (I, J, RF w))) 11 [some (.ref 0), some (.int (nI s)), some (.int (nI o)), some (.int (nI f))] []) (fun _ => rfl) ?_
  refine z_evK (v := .int (z_bo (¬ (nI o) < 0 ∧ ¬ 2 < (nI o)))) (z' := 161) (σ' := (I, J, RF w)) (x_isSort E d I J w (nI o)) ?_
  refine z_evG 1 (y := if (z_bo (¬ (nI o) < 0 ∧ ¬ 2 < (nI o))) = 0 then z_go 14 [some (.ref 0), some (.int (nI s)), some (.int (nI o)), some (.int (nI f))] [] 161 (I, J, RF w) else z_go 17 [some (.ref 0), some (.int (nI s)), some (.int (nI o)), some (.int (nI f))] [] 161 (I, J, RF w)) (fun _ => rfl) ?_
  refine z_evF (fun q0 => z_bo_0.mp q0 ⟨nI_pos (by omega), mt (show _ ↔ 2 < o from z_ltN rfl rfl (by decide) (by omega)).mp (by omega)⟩) ?_
  refine z_evL ?_
  refine z_evG 4 (y := z_ret (z_cl E (d + 1) 97 [.ref 117, .int (nI s)] (161, (I, J, RF w))) 25 [some (.ref 0), some (.int (nI s)), some (.int (nI o)), some (.int (nI f))] []) (fun _ => rfl) ?_
  refine z_evK (v := .int (z_bo (I 123 s = (-1)))) (z' := 161) (σ' := (I, J, RF w)) (x_sheets_isMissingN E d I J w s (by omega)) ?_
  refine z_evG 1 (y := if (z_bo (I 123 s = (-1))) = 0 then z_go 28 [some (.ref 0), some (.int (nI s)), some (.int (nI o)), some (.int (nI f))] [] 161 (I, J, RF w) else z_go 43 [some (.ref 0), some (.int (nI s)), some (.int (nI o)), some (.int (nI f))] [] 161 (I, J, RF w)) (fun _ => rfl) ?_
  refine z_evT (z_bo_0.mpr hs) ?_
  refine z_evL ?_
  refine z_evG 4 (y := z_ret (z_cl E (d + 1) 98 [.ref 117, .int (nI s)] (161, (I, J, RF w))) 36 [some (.ref 0), some (.int (nI s)), some (.int (nI o)), some (.int (nI f))] []) (fun _ => rfl) ?_
  refine z_evK (v := .int (I 123 s)) (z' := 161) (σ' := (I, J, RF w)) (x_sheets_sortOfN E d I J w s (by omega)) ?_
  refine z_evG 2 (y := if (I 123 s) = (nI o) then z_go 43 [some (.ref 0), some (.int (nI s)), some (.int (nI o)), some (.int (nI f))] [] 161 (I, J, RF w) else z_go 40 [some (.ref 0), some (.int (nI s)), some (.int (nI o)), some (.int (nI f))] [] 161 (I, J, RF w)) (fun _ => rfl) ?_
  refine z_evT he ?_
  refine z_evL ?_
  refine z_evG 4 (y := z_ret (z_cl E (d + 1) 97 [.ref 117, .int (nI s)] (161, (I, J, RF w))) 51 [some (.ref 0), some (.int (nI s)), some (.int (nI o)), some (.int (nI f))] []) (fun _ => rfl) ?_
  refine z_evK (v := .int (z_bo (I 123 s = (-1)))) (z' := 161) (σ' := (I, J, RF w)) (x_sheets_isMissingN E d I J w s (by omega)) ?_
  refine z_evG 1 (y := if (z_bo (I 123 s = (-1))) = 0 then z_go 57 [some (.ref 0), some (.int (nI s)), some (.int (nI o)), some (.int (nI f))] [] 161 (I, J, RF w) else z_go 54 [some (.ref 0), some (.int (nI s)), some (.int (nI o)), some (.int (nI f))] [] 161 (I, J, RF w)) (fun _ => rfl) ?_
  refine z_evT (z_bo_0.mpr hs) ?_
  refine z_evL ?_
  refine z_evG 6 (y := z_ret (z_cl E (d + 1) 100 [.ref 117, .int (nI s), .int (nI f), .int 8] (161, (I, J, RF w))) 68 [some (.ref 0), some (.int (nI s)), some (.int (nI o)), some (.int (nI f))] []) (fun _ => rfl) ?_
  refine z_evK (v := .int (z_bo (¬ (nI f) < 0 ∧ ¬ 8 < 0 ∧ ¬ I 124 s < (nI f) ∧ ¬ I 124 s - (nI f) < 8))) (z' := 161) (σ' := (I, J, RF w)) (x_sheets_holdsN E d I J w s (nI f) 8 (by omega)) ?_
  refine z_evG 1 (y := if (z_bo (¬ (nI f) < 0 ∧ ¬ 8 < 0 ∧ ¬ I 124 s < (nI f) ∧ ¬ I 124 s - (nI f) < 8)) = 0 then z_go 71 [some (.ref 0), some (.int (nI s)), some (.int (nI o)), some (.int (nI f))] [] 161 (I, J, RF w) else z_go 74 [some (.ref 0), some (.int (nI s)), some (.int (nI o)), some (.int (nI f))] [] 161 (I, J, RF w)) (fun _ => rfl) ?_
  refine z_evF (fun q0 => z_bo_0.mp q0 ⟨nI_pos (by omega), by decide, (mt (show _ ↔ a < f from z_ltN h_a rfl (by omega) (by omega)).mp (by omega)), (mt (show _ ↔ a - f < 8 from z_ltN (z_subE h_a rfl (by omega)) rfl (by omega) (by decide)).mp (by omega))⟩) ?_
  refine z_evL ?_
  refine z_evG 4 (y := z_ret (z_cl E (d + 1) 99 [.ref 117, .int (nI s)] (161, (I, J, RF w))) 82 [some (.ref 0), some (.int (nI s)), some (.int (nI o)), some (.int (nI f))] []) (fun _ => rfl) ?_
  refine z_evK (v := .ref (119 + s)) (z' := 161) (σ' := (I, J, RF w)) (x_sheets_getN E d I J w s (by omega)) ?_
  refine z_evG 6 (y := z_copy E 161 (I, J, RF w) (119 + s) 125 (nI f) 0 8 fun z σ => z_go 93 [some (.ref 0), some (.int (nI s)), some (.int (nI o)), some (.int (nI f))] [] z σ) (fun _ => rfl) ?_
  refine z_evYn (N := 40) (m := 8) (f := I (119 + s)) (a := f) (b := 0) (c := 8) (z_iaA (z_A_sheets s (by omega))) z_A_125 rfl rfl rfl (by omega) (by omega) (by decide) (by decide) ?_
  refine z_evL ?_
  refine z_evG 3 (y := z_ret (z_cl E (d + 1) 169 [.ref 125] (161, ((z_ur I 125 (va_cpy (I (119 + s)) (I 125) f 0 8)), J, RF w))) 100 [some (.ref 0), some (.int (nI s)), some (.int (nI o)), some (.int (nI f))] []) (fun _ => rfl) ?_
  refine z_evK (v := .int (z_bo (∀ t, t < e → ¬ (z_ur I 125 (va_cpy (I (119 + s)) (I 125) f 0 8)) 125 t < 0 ∧ ¬ 999 < (z_ur I 125 (va_cpy (I (119 + s)) (I 125) f 0 8)) 125 t))) (z' := 161) (σ' := ((z_ur I 125 (va_cpy (I (119 + s)) (I 125) f 0 8)), J, RF w)) (x_areNumbers E d (z_ur I 125 (va_cpy (I (119 + s)) (I 125) f 0 8)) J w e hE) ?_
  refine z_evG 1 (y := if (z_bo (∀ t, t < e → ¬ (z_ur I 125 (va_cpy (I (119 + s)) (I 125) f 0 8)) 125 t < 0 ∧ ¬ 999 < (z_ur I 125 (va_cpy (I (119 + s)) (I 125) f 0 8)) 125 t)) = 0 then z_go 103 [some (.ref 0), some (.int (nI s)), some (.int (nI o)), some (.int (nI f))] [] 161 ((z_ur I 125 (va_cpy (I (119 + s)) (I 125) f 0 8)), J, RF w) else z_go 106 [some (.ref 0), some (.int (nI s)), some (.int (nI o)), some (.int (nI f))] [] 161 ((z_ur I 125 (va_cpy (I (119 + s)) (I 125) f 0 8)), J, RF w)) (fun _ => rfl) ?_
  refine z_evF (fun q0 => z_bo_0.mp q0 hS) ?_
  refine z_evL ?_
  refine z_evG 3 (y := z_ret (z_cl E (d + 1) 10 [.ref 1] (161, ((z_ur I 125 (va_cpy (I (119 + s)) (I 125) f 0 8)), J, RF w))) 113 [some (.ref 0), some (.int (nI s)), some (.int (nI o)), some (.int (nI f))] []) (fun _ => rfl) ?_
  refine z_evK (v := .int (z_bo (¬ (z_ur I 125 (va_cpy (I (119 + s)) (I 125) f 0 8)) 1 1 < 30))) (z' := 161) (σ' := ((z_ur I 125 (va_cpy (I (119 + s)) (I 125) f 0 8)), J, RF w)) (x_rows_isFull E d (z_ur I 125 (va_cpy (I (119 + s)) (I 125) f 0 8)) J w) ?_
  refine z_evG 1 (y := if (z_bo (¬ (z_ur I 125 (va_cpy (I (119 + s)) (I 125) f 0 8)) 1 1 < 30)) = 0 then z_go 121 [some (.ref 0), some (.int (nI s)), some (.int (nI o)), some (.int (nI f))] [] 161 ((z_ur I 125 (va_cpy (I (119 + s)) (I 125) f 0 8)), J, RF w) else z_go 116 [some (.ref 0), some (.int (nI s)), some (.int (nI o)), some (.int (nI f))] [] 161 ((z_ur I 125 (va_cpy (I (119 + s)) (I 125) f 0 8)), J, RF w)) (fun _ => rfl) ?_
  refine z_evF (fun q0 => z_bo_0.mp q0 (mt (show _ ↔ n < 30 from z_ltN h_n rfl (by omega) (by omega)).mp (by omega))) ?_
  refine z_evL ?_
  refine z_evG 3 (y := some (.inr (some (.int (-4)), 161, (z_ur I 125 (va_cpy (I (119 + s)) (I 125) f 0 8)), J, RF w))) (fun _ => rfl) ?_
  exact z_evR rfl
set_option maxRecDepth 20000 in
/-- LampHouse.rowOf -/
theorem x_rowOf_ok (E : zE) (d : Nat) (I : Nat → Nat → Int32) (J : Nat → Nat → Int64) (w : Nat) (s o f a e n : Nat) (hl_s : s < 4) (hl_o : o < 3) (hs : ¬ I 123 s = (-1)) (he : I 123 s = nI o) (h_a : I 124 s = nI a) (hm_a : a ≤ 40) (h1 : f + 8 ≤ a) (hE : e = 8) (hS : ∀ t, t < e → (¬ va_cpy (I (119 + s)) (I 125) f 0 8 t < 0 ∧ ¬ 999 < va_cpy (I (119 + s)) (I 125) f 0 8 t)) (h_n : I 1 1 = nI n) (hm_n : n ≤ 30) (hf : n < 30) : z_cl E (d + 2) 164 [.ref 0, .int (nI s), .int (nI o), .int (nI f)] (161, I, J, RF w) = some (some (.int (nI n)), 161, (z_u2 (z_ur (z_ur I 125 (va_cpy (I (119 + s)) (I 125) f 0 8)) (3 + n) (va_cpy ((z_ur I 125 (va_cpy (I (119 + s)) (I 125) f 0 8)) 125) ((z_ur I 125 (va_cpy (I (119 + s)) (I 125) f 0 8)) (3 + n)) 0 0 8)) 1 1 (nI (n + 1))), J, RF w) := by
  refine z_call (d := d + 1) (M := z_m164) rfl rfl ?_
  refine z_evG 2 (y := z_ret (z_cl E (d + 1) 95 [.int (nI s)] (161, (I, J, RF w))) 4 [some (.ref 0), some (.int (nI s)), some (.int (nI o)), some (.int (nI f))] []) (fun _ => rfl) ?_
  refine z_evK (v := .int (z_bo (¬ (nI s) < 0 ∧ (nI s) < 4))) (z' := 161) (σ' := (I, J, RF w)) (x_isPlace E d I J w (nI s)) ?_
  refine z_evG 1 (y := if (z_bo (¬ (nI s) < 0 ∧ (nI s) < 4)) = 0 then z_go 14 [some (.ref 0), some (.int (nI s)), some (.int (nI o)), some (.int (nI f))] [] 161 (I, J, RF w) else z_go 7 [some (.ref 0), some (.int (nI s)), some (.int (nI o)), some (.int (nI f))] [] 161 (I, J, RF w)) (fun _ => rfl) ?_
  refine z_evF (fun q0 => z_bo_0.mp q0 ⟨nI_pos (by omega), (show _ ↔ s < 4 from z_ltN rfl rfl (by omega) (by decide)).mpr (by omega)⟩) ?_
  refine z_evL ?_
  refine z_evG 2 (y := z_ret (z_cl E (d + 1) 96 [.int (nI o)] (161, (I, J, RF w))) 11 [some (.ref 0), some (.int (nI s)), some (.int (nI o)), some (.int (nI f))] []) (fun _ => rfl) ?_
  refine z_evK (v := .int (z_bo (¬ (nI o) < 0 ∧ ¬ 2 < (nI o)))) (z' := 161) (σ' := (I, J, RF w)) (x_isSort E d I J w (nI o)) ?_
  refine z_evG 1 (y := if (z_bo (¬ (nI o) < 0 ∧ ¬ 2 < (nI o))) = 0 then z_go 14 [some (.ref 0), some (.int (nI s)), some (.int (nI o)), some (.int (nI f))] [] 161 (I, J, RF w) else z_go 17 [some (.ref 0), some (.int (nI s)), some (.int (nI o)), some (.int (nI f))] [] 161 (I, J, RF w)) (fun _ => rfl) ?_
  refine z_evF (fun q0 => z_bo_0.mp q0 ⟨nI_pos (by omega), mt (show _ ↔ 2 < o from z_ltN rfl rfl (by decide) (by omega)).mp (by omega)⟩) ?_
  refine z_evL ?_
  refine z_evG 4 (y := z_ret (z_cl E (d + 1) 97 [.ref 117, .int (nI s)] (161, (I, J, RF w))) 25 [some (.ref 0), some (.int (nI s)), some (.int (nI o)), some (.int (nI f))] []) (fun _ => rfl) ?_
  refine z_evK (v := .int (z_bo (I 123 s = (-1)))) (z' := 161) (σ' := (I, J, RF w)) (x_sheets_isMissingN E d I J w s (by omega)) ?_
  refine z_evG 1 (y := if (z_bo (I 123 s = (-1))) = 0 then z_go 28 [some (.ref 0), some (.int (nI s)), some (.int (nI o)), some (.int (nI f))] [] 161 (I, J, RF w) else z_go 43 [some (.ref 0), some (.int (nI s)), some (.int (nI o)), some (.int (nI f))] [] 161 (I, J, RF w)) (fun _ => rfl) ?_
  refine z_evT (z_bo_0.mpr hs) ?_
  refine z_evL ?_
  refine z_evG 4 (y := z_ret (z_cl E (d + 1) 98 [.ref 117, .int (nI s)] (161, (I, J, RF w))) 36 [some (.ref 0), some (.int (nI s)), some (.int (nI o)), some (.int (nI f))] []) (fun _ => rfl) ?_
  refine z_evK (v := .int (I 123 s)) (z' := 161) (σ' := (I, J, RF w)) (x_sheets_sortOfN E d I J w s (by omega)) ?_
  refine z_evG 2 (y := if (I 123 s) = (nI o) then z_go 43 [some (.ref 0), some (.int (nI s)), some (.int (nI o)), some (.int (nI f))] [] 161 (I, J, RF w) else z_go 40 [some (.ref 0), some (.int (nI s)), some (.int (nI o)), some (.int (nI f))] [] 161 (I, J, RF w)) (fun _ => rfl) ?_
  refine z_evT he ?_
  refine z_evL ?_
  refine z_evG 4 (y := z_ret (z_cl E (d + 1) 97 [.ref 117, .int (nI s)] (161, (I, J, RF w))) 51 [some (.ref 0), some (.int (nI s)), some (.int (nI o)), some (.int (nI f))] []) (fun _ => rfl) ?_
  refine z_evK (v := .int (z_bo (I 123 s = (-1)))) (z' := 161) (σ' := (I, J, RF w)) (x_sheets_isMissingN E d I J w s (by omega)) ?_
  refine z_evG 1 (y := if (z_bo (I 123 s = (-1))) = 0 then z_go 57 [some (.ref 0), some (.int (nI s)), some (.int (nI o)), some (.int (nI f))] [] 161 (I, J, RF w) else z_go 54 [some (.ref 0), some (.int (nI s)), some (.int (nI o)), some (.int (nI f))] [] 161 (I, J, RF w)) (fun _ => rfl) ?_
  refine z_evT (z_bo_0.mpr hs) ?_
  refine z_evL ?_
  refine z_evG 6 (y := z_ret (z_cl E (d + 1) 100 [.ref 117, .int (nI s), .int (nI f), .int 8] (161, (I, J, RF w))) 68 [some (.ref 0), some (.int (nI s)), some (.int (nI o)), some (.int (nI f))] []) (fun _ => rfl) ?_
  refine z_evK (v := .int (z_bo (¬ (nI f) < 0 ∧ ¬ 8 < 0 ∧ ¬ I 124 s < (nI f) ∧ ¬ I 124 s - (nI f) < 8))) (z' := 161) (σ' := (I, J, RF w)) (x_sheets_holdsN E d I J w s (nI f) 8 (by omega)) ?_
  refine z_evG 1 (y := if (z_bo (¬ (nI f) < 0 ∧ ¬ 8 < 0 ∧ ¬ I 124 s < (nI f) ∧ ¬ I 124 s - (nI f) < 8)) = 0 then z_go 71 [some (.ref 0), some (.int (nI s)), some (.int (nI o)), some (.int (nI f))] [] 161 (I, J, RF w) else z_go 74 [some (.ref 0), some (.int (nI s)), some (.int (nI o)), some (.int (nI f))] [] 161 (I, J, RF w)) (fun _ => rfl) ?_
  refine z_evF (fun q0 => z_bo_0.mp q0 ⟨nI_pos (by omega), by decide, (mt (show _ ↔ a < f from z_ltN h_a rfl (by omega) (by omega)).mp (by omega)), (mt (show _ ↔ a - f < 8 from z_ltN (z_subE h_a rfl (by omega)) rfl (by omega) (by decide)).mp (by omega))⟩) ?_
  refine z_evL ?_
  refine z_evG 4 (y := z_ret (z_cl E (d + 1) 99 [.ref 117, .int (nI s)] (161, (I, J, RF w))) 82 [some (.ref 0), some (.int (nI s)), some (.int (nI o)), some (.int (nI f))] []) (fun _ => rfl) ?_
  refine z_evK (v := .ref (119 + s)) (z' := 161) (σ' := (I, J, RF w)) (x_sheets_getN E d I J w s (by omega)) ?_
  refine z_evG 6 (y := z_copy E 161 (I, J, RF w) (119 + s) 125 (nI f) 0 8 fun z σ => z_go 93 [some (.ref 0), some (.int (nI s)), some (.int (nI o)), some (.int (nI f))] [] z σ) (fun _ => rfl) ?_
  refine z_evYn (N := 40) (m := 8) (f := I (119 + s)) (a := f) (b := 0) (c := 8) (z_iaA (z_A_sheets s (by omega))) z_A_125 rfl rfl rfl (by omega) (by omega) (by decide) (by decide) ?_
  refine z_evL ?_
  refine z_evG 3 (y := z_ret (z_cl E (d + 1) 169 [.ref 125] (161, ((z_ur I 125 (va_cpy (I (119 + s)) (I 125) f 0 8)), J, RF w))) 100 [some (.ref 0), some (.int (nI s)), some (.int (nI o)), some (.int (nI f))] []) (fun _ => rfl) ?_
  refine z_evK (v := .int (z_bo (∀ t, t < e → ¬ (z_ur I 125 (va_cpy (I (119 + s)) (I 125) f 0 8)) 125 t < 0 ∧ ¬ 999 < (z_ur I 125 (va_cpy (I (119 + s)) (I 125) f 0 8)) 125 t))) (z' := 161) (σ' := ((z_ur I 125 (va_cpy (I (119 + s)) (I 125) f 0 8)), J, RF w)) (x_areNumbers E d (z_ur I 125 (va_cpy (I (119 + s)) (I 125) f 0 8)) J w e hE) ?_
  refine z_evG 1 (y := if (z_bo (∀ t, t < e → ¬ (z_ur I 125 (va_cpy (I (119 + s)) (I 125) f 0 8)) 125 t < 0 ∧ ¬ 999 < (z_ur I 125 (va_cpy (I (119 + s)) (I 125) f 0 8)) 125 t)) = 0 then z_go 103 [some (.ref 0), some (.int (nI s)), some (.int (nI o)), some (.int (nI f))] [] 161 ((z_ur I 125 (va_cpy (I (119 + s)) (I 125) f 0 8)), J, RF w) else z_go 106 [some (.ref 0), some (.int (nI s)), some (.int (nI o)), some (.int (nI f))] [] 161 ((z_ur I 125 (va_cpy (I (119 + s)) (I 125) f 0 8)), J, RF w)) (fun _ => rfl) ?_
  refine z_evF (fun q0 => z_bo_0.mp q0 hS) ?_
  refine z_evL ?_
  refine z_evG 3 (y := z_ret (z_cl E (d + 1) 10 [.ref 1] (161, ((z_ur I 125 (va_cpy (I (119 + s)) (I 125) f 0 8)), J, RF w))) 113 [some (.ref 0), some (.int (nI s)), some (.int (nI o)), some (.int (nI f))] []) (fun _ => rfl) ?_
  refine z_evK (v := .int (z_bo (¬ (z_ur I 125 (va_cpy (I (119 + s)) (I 125) f 0 8)) 1 1 < 30))) (z' := 161) (σ' := ((z_ur I 125 (va_cpy (I (119 + s)) (I 125) f 0 8)), J, RF w)) (x_rows_isFull E d (z_ur I 125 (va_cpy (I (119 + s)) (I 125) f 0 8)) J w) ?_
  refine z_evG 1 (y := if (z_bo (¬ (z_ur I 125 (va_cpy (I (119 + s)) (I 125) f 0 8)) 1 1 < 30)) = 0 then z_go 121 [some (.ref 0), some (.int (nI s)), some (.int (nI o)), some (.int (nI f))] [] 161 ((z_ur I 125 (va_cpy (I (119 + s)) (I 125) f 0 8)), J, RF w) else z_go 116 [some (.ref 0), some (.int (nI s)), some (.int (nI o)), some (.int (nI f))] [] 161 ((z_ur I 125 (va_cpy (I (119 + s)) (I 125) f 0 8)), J, RF w)) (fun _ => rfl) ?_
  refine z_evT (z_bo_0.mpr (fun q0 => q0 ((show _ ↔ n < 30 from z_ltN h_n rfl (by omega) (by omega)).mpr (by omega)))) ?_
  refine z_evL ?_
  refine z_evG 5 (y := z_ret (z_cl E (d + 1) 12 [.ref 1, .ref 125] (161, ((z_ur I 125 (va_cpy (I (119 + s)) (I 125) f 0 8)), J, RF w))) 132 [some (.ref 0), some (.int (nI s)), some (.int (nI o)), some (.int (nI f))] []) (fun _ => rfl) ?_
  refine z_evK (v := .int (nI n)) (z' := 161) (σ' := ((z_u2 (z_ur (z_ur I 125 (va_cpy (I (119 + s)) (I 125) f 0 8)) (3 + n) (va_cpy ((z_ur I 125 (va_cpy (I (119 + s)) (I 125) f 0 8)) 125) ((z_ur I 125 (va_cpy (I (119 + s)) (I 125) f 0 8)) (3 + n)) 0 0 8)) 1 1 (nI (n + 1))), J, RF w)) (x_rows_add E d (z_ur I 125 (va_cpy (I (119 + s)) (I 125) f 0 8)) J w 125 n z_A_125 h_n (by omega)) ?_
  refine z_evG 1 (y := some (.inr (some (.int (nI n)), 161, (z_u2 (z_ur (z_ur I 125 (va_cpy (I (119 + s)) (I 125) f 0 8)) (3 + n) (va_cpy ((z_ur I 125 (va_cpy (I (119 + s)) (I 125) f 0 8)) 125) ((z_ur I 125 (va_cpy (I (119 + s)) (I 125) f 0 8)) (3 + n)) 0 0 8)) 1 1 (nI (n + 1))), J, RF w))) (fun _ => rfl) ?_
  exact z_evR rfl
set_option maxRecDepth 20000 in
/-- LampHouseModel.rowOf -/
theorem m_rowOf_state (E : zE) (d : Nat) (I : Nat → Nat → Int32) (J : Nat → Nat → Int64) (w : Nat) (s o f a e : Nat) (hl_s : s < 4) (hl_o : o < 3) (hs : ¬ I 157 s < 0) (he : I 157 s = nI o) (h_a : I 158 s = nI a) (hm_a : a ≤ 40) (h1 : f + 8 ≤ a) (hE : e = 8) (hS : ¬ ∀ t, t < e → (¬ I 159 (40 * s + f + t) < 0 ∧ ¬ 999 < I 159 (40 * s + f + t))) : z_cl E (d + 3) 251 [.ref 127, .int (nI s), .int (nI o), .int (nI f)] (161, I, J, RF w) = some (some (.int (-3)), 161, I, J, RF w) := by
  refine z_call (d := d + 2) (M := z_m251) rfl rfl ?_
  refine z_evG 2 (y := z_ret (z_cl E (d + 2) 247 [.int (nI s)] (161, (I, J, RF w))) 4 [some (.ref 127), some (.int (nI s)), some (.int (nI o)), some (.int (nI f)), none] []) (fun _ => rfl) ?_
  refine z_evK (v := .int (z_bo (¬ (nI s) < 0 ∧ ¬ 3 < (nI s)))) (z' := 161) (σ' := (I, J, RF w)) (m_isSheet E d I J w (nI s)) ?_
  refine z_evG 1 (y := if (z_bo (¬ (nI s) < 0 ∧ ¬ 3 < (nI s))) = 0 then z_go 16 [some (.ref 127), some (.int (nI s)), some (.int (nI o)), some (.int (nI f)), none] [] 161 (I, J, RF w) else z_go 7 [some (.ref 127), some (.int (nI s)), some (.int (nI o)), some (.int (nI f)), none] [] 161 (I, J, RF w)) (fun _ => rfl) ?_
  refine z_evF (fun q0 => z_bo_0.mp q0 ⟨nI_pos (by omega), mt (show _ ↔ 3 < s from z_ltN rfl rfl (by decide) (by omega)).mp (by omega)⟩) ?_
  refine z_evL ?_
  refine z_evG 4 (y := z_ret (z_cl E (d + 2) 178 [.int (nI o), .int 0, .int 2] (161, (I, J, RF w))) 13 [some (.ref 127), some (.int (nI s)), some (.int (nI o)), some (.int (nI f)), none] []) (fun _ => rfl) ?_
  refine z_evK (v := .int (z_bo (¬ (nI o) < 0 ∧ ¬ 2 < (nI o)))) (z' := 161) (σ' := (I, J, RF w)) (m_in E (d + 1) I J w (nI o) 0 2) ?_
  refine z_evG 1 (y := if (z_bo (¬ (nI o) < 0 ∧ ¬ 2 < (nI o))) = 0 then z_go 16 [some (.ref 127), some (.int (nI s)), some (.int (nI o)), some (.int (nI f)), none] [] 161 (I, J, RF w) else z_go 19 [some (.ref 127), some (.int (nI s)), some (.int (nI o)), some (.int (nI f)), none] [] 161 (I, J, RF w)) (fun _ => rfl) ?_
  refine z_evF (fun q0 => z_bo_0.mp q0 ⟨nI_pos (by omega), mt (show _ ↔ 2 < o from z_ltN rfl rfl (by decide) (by omega)).mp (by omega)⟩) ?_
  refine z_evL ?_
  refine z_evG 4 (y := z_ild (z_ia E 161 (I, J, RF w) 157) (nI s) fun vv => z_go 25 [some (.ref 127), some (.int (nI s)), some (.int (nI o)), some (.int (nI f)), none] [.int vv] 161 (I, J, RF w)) (fun _ => rfl) ?_
  refine z_evBn (N := 4) (f := (I 157)) (k := s) rfl rfl (by omega) ?_
  refine z_evL ?_
  refine z_evG 1 (y := if (I 157 s) < 0 then z_go 41 [some (.ref 127), some (.int (nI s)), some (.int (nI o)), some (.int (nI f)), none] [] 161 (I, J, RF w) else z_go 28 [some (.ref 127), some (.int (nI s)), some (.int (nI o)), some (.int (nI f)), none] [] 161 (I, J, RF w)) (fun _ => rfl) ?_
  refine z_evF hs ?_
  refine z_evL ?_
  refine z_evG 4 (y := z_ild (z_ia E 161 (I, J, RF w) 157) (nI s) fun vv => z_go 34 [some (.ref 127), some (.int (nI s)), some (.int (nI o)), some (.int (nI f)), none] [.int vv] 161 (I, J, RF w)) (fun _ => rfl) ?_
  refine z_evBn (N := 4) (f := (I 157)) (k := s) rfl rfl (by omega) ?_
  refine z_evL ?_
  refine z_evG 2 (y := if (I 157 s) = (nI o) then z_go 41 [some (.ref 127), some (.int (nI s)), some (.int (nI o)), some (.int (nI f)), none] [] 161 (I, J, RF w) else z_go 38 [some (.ref 127), some (.int (nI s)), some (.int (nI o)), some (.int (nI f)), none] [] 161 (I, J, RF w)) (fun _ => rfl) ?_
  refine z_evT he ?_
  refine z_evL ?_
  refine z_evG 4 (y := z_ild (z_ia E 161 (I, J, RF w) 157) (nI s) fun vv => z_go 47 [some (.ref 127), some (.int (nI s)), some (.int (nI o)), some (.int (nI f)), none] [.int vv] 161 (I, J, RF w)) (fun _ => rfl) ?_
  refine z_evBn (N := 4) (f := (I 157)) (k := s) rfl rfl (by omega) ?_
  refine z_evL ?_
  refine z_evG 1 (y := if (I 157 s) < 0 then z_go 50 [some (.ref 127), some (.int (nI s)), some (.int (nI o)), some (.int (nI f)), none] [] 161 (I, J, RF w) else z_go 53 [some (.ref 127), some (.int (nI s)), some (.int (nI o)), some (.int (nI f)), none] [] 161 (I, J, RF w)) (fun _ => rfl) ?_
  refine z_evF hs ?_
  refine z_evL ?_
  refine z_evG 2 (y := if (nI f) < 0 then z_go 70 [some (.ref 127), some (.int (nI s)), some (.int (nI o)), some (.int (nI f)), none] [] 161 (I, J, RF w) else z_go 57 [some (.ref 127), some (.int (nI s)), some (.int (nI o)), some (.int (nI f)), none] [] 161 (I, J, RF w)) (fun _ => rfl) ?_
  refine z_evF (nI_pos (by omega)) ?_
  refine z_evL ?_
  refine z_evG 5 (y := z_ild (z_ia E 161 (I, J, RF w) 158) (nI s) fun vv => z_go 64 [some (.ref 127), some (.int (nI s)), some (.int (nI o)), some (.int (nI f)), none] [.int vv, .int (nI f)] 161 (I, J, RF w)) (fun _ => rfl) ?_
  refine z_evBn (N := 4) (f := (I 158)) (k := s) rfl rfl (by omega) ?_
  refine z_evL ?_
  refine z_evG 3 (y := if ((I 158 s) - 8) < (nI f) then z_go 70 [some (.ref 127), some (.int (nI s)), some (.int (nI o)), some (.int (nI f)), none] [] 161 (I, J, RF w) else z_go 73 [some (.ref 127), some (.int (nI s)), some (.int (nI o)), some (.int (nI f)), none] [] 161 (I, J, RF w)) (fun _ => rfl) ?_
  refine z_evF (mt (show _ ↔ a - 8 < f from z_ltN (z_subE h_a rfl (by omega)) rfl (by omega) (by omega)).mp (by omega)) ?_
  refine z_evL ?_
  refine z_evG 2 (y := z_go 76 [some (.ref 127), some (.int (nI s)), some (.int (nI o)), some (.int (nI f)), some (.int 0)] [] 161 (I, J, RF w)) (fun _ => rfl) ?_
  refine z_evL ?_
  refine z_loop (F := fun k => ([some (.ref 127), some (.int (nI s)), some (.int (nI o)), some (.int (nI f)), some (.int (nI k))], (I, J, RF w))) (P := fun k => ∀ t, t < k → (¬ I 159 (40 * s + f + t) < 0 ∧ ¬ 999 < I 159 (40 * s + f + t))) e z_all0 (fun hP => ?_) (fun k hk hP next => ?_)
  · show z_Ev E (d + 2) z_m251 76 [some (.ref 127), some (.int (nI s)), some (.int (nI o)), some (.int (nI f)), some (.int (nI e))] [] 161 (I, J, RF w) _
    refine z_evG 3 (y := if (nI e) < 8 then z_go 83 [some (.ref 127), some (.int (nI s)), some (.int (nI o)), some (.int (nI f)), some (.int (nI e))] [] 161 (I, J, RF w) else z_go 116 [some (.ref 127), some (.int (nI s)), some (.int (nI o)), some (.int (nI f)), some (.int (nI e))] [] 161 (I, J, RF w)) (fun _ => rfl) ?_
    refine z_evF (mt (show _ ↔ e < 8 from z_ltN rfl rfl (by omega) (by omega)).mp (by omega)) ?_
    refine z_evL ?_
    exact absurd hP hS
  · show z_Ev E (d + 2) z_m251 76 [some (.ref 127), some (.int (nI s)), some (.int (nI o)), some (.int (nI f)), some (.int (nI k))] [] 161 (I, J, RF w) _
    have nx : (∀ t, t < (k + 1) → (¬ I 159 (40 * s + f + t) < 0 ∧ ¬ 999 < I 159 (40 * s + f + t))) → z_Ev E (d + 2) z_m251 76 [some (.ref 127), some (.int (nI s)), some (.int (nI o)), some (.int (nI f)), some (.int (nI (k + 1)))] [] 161 (I, J, RF w) _ := next
    refine z_evG 3 (y := if (nI k) < 8 then z_go 83 [some (.ref 127), some (.int (nI s)), some (.int (nI o)), some (.int (nI f)), some (.int (nI k))] [] 161 (I, J, RF w) else z_go 116 [some (.ref 127), some (.int (nI s)), some (.int (nI o)), some (.int (nI f)), some (.int (nI k))] [] 161 (I, J, RF w)) (fun _ => rfl) ?_
    refine z_evT ((show _ ↔ k < 8 from z_ltN rfl rfl (by omega) (by omega)).mpr (by omega)) ?_
    refine z_evL ?_
    refine z_evG 10 (y := z_ild (z_ia E 161 (I, J, RF w) 159) (((40 * (nI s)) + (nI f)) + (nI k)) fun vv => z_go 97 [some (.ref 127), some (.int (nI s)), some (.int (nI o)), some (.int (nI f)), some (.int (nI k))] [.int vv] 161 (I, J, RF w)) (fun _ => rfl) ?_
    refine z_evBn (N := 160) (f := (I 159)) (k := (40 * s + f + k)) rfl (z_addE (z_addE (z_mulE rfl rfl) rfl) rfl) (by omega) ?_
    refine z_evL ?_
    refine z_evG 3 (y := z_ret (z_cl E (d + 2) 178 [.int (I 159 (40 * s + f + k)), .int 0, .int 999] (161, (I, J, RF w))) 104 [some (.ref 127), some (.int (nI s)), some (.int (nI o)), some (.int (nI f)), some (.int (nI k))] []) (fun _ => rfl) ?_
    refine z_evK (v := .int (z_bo (¬ (I 159 (40 * s + f + k)) < 0 ∧ ¬ 999 < (I 159 (40 * s + f + k))))) (z' := 161) (σ' := (I, J, RF w)) (m_in E (d + 1) I J w (I 159 (40 * s + f + k)) 0 999) ?_
    refine z_evG 1 (y := if (z_bo (¬ (I 159 (40 * s + f + k)) < 0 ∧ ¬ 999 < (I 159 (40 * s + f + k)))) = 0 then z_go 107 [some (.ref 127), some (.int (nI s)), some (.int (nI o)), some (.int (nI f)), some (.int (nI k))] [] 161 (I, J, RF w) else z_go 110 [some (.ref 127), some (.int (nI s)), some (.int (nI o)), some (.int (nI f)), some (.int (nI k))] [] 161 (I, J, RF w)) (fun _ => rfl) ?_
    refine z_evO (fun h10 => ?_) (fun h10 => ?_)
    · refine z_evL ?_
      refine z_evG 2 (y := some (.inr (some (.int (-3)), 161, I, J, RF w))) (fun _ => rfl) ?_
      exact z_evR rfl
    · refine z_evL ?_
      refine z_evG 2 (y := z_go 76 [some (.ref 127), some (.int (nI s)), some (.int (nI o)), some (.int (nI f)), some (.int ((nI k) + 1))] [] 161 (I, J, RF w)) (fun _ => rfl) ?_
      refine z_evL ?_
      rw [nI_1 k]
      exact nx (z_allS hP h10)
set_option maxRecDepth 20000 in
/-- LampHouseModel.rowOf -/
theorem m_rowOf_full (E : zE) (d : Nat) (I : Nat → Nat → Int32) (J : Nat → Nat → Int64) (w : Nat) (s o f a e n : Nat) (hl_s : s < 4) (hl_o : o < 3) (hs : ¬ I 157 s < 0) (he : I 157 s = nI o) (h_a : I 158 s = nI a) (hm_a : a ≤ 40) (h1 : f + 8 ≤ a) (hE : e = 8) (hS : ∀ t, t < e → (¬ I 159 (40 * s + f + t) < 0 ∧ ¬ 999 < I 159 (40 * s + f + t))) (h_n : I 127 1 = nI n) (hm_n : n ≤ 30) (hf : n = 30) : z_cl E (d + 3) 251 [.ref 127, .int (nI s), .int (nI o), .int (nI f)] (161, I, J, RF w) = some (some (.int (-4)), 161, I, J, RF w) := by
  refine z_call (d := d + 2) (M := z_m251) rfl rfl ?_
  refine z_evG 2 (y := z_ret (z_cl E (d + 2) 247 [.int (nI s)] (161, (I, J, RF w))) 4 [some (.ref 127), some (.int (nI s)), some (.int (nI o)), some (.int (nI f)), none] []) (fun _ => rfl) ?_
  refine z_evK (v := .int (z_bo (¬ (nI s) < 0 ∧ ¬ 3 < (nI s)))) (z' := 161) (σ' := (I, J, RF w)) (m_isSheet E d I J w (nI s)) ?_
  refine z_evG 1 (y := if (z_bo (¬ (nI s) < 0 ∧ ¬ 3 < (nI s))) = 0 then z_go 16 [some (.ref 127), some (.int (nI s)), some (.int (nI o)), some (.int (nI f)), none] [] 161 (I, J, RF w) else z_go 7 [some (.ref 127), some (.int (nI s)), some (.int (nI o)), some (.int (nI f)), none] [] 161 (I, J, RF w)) (fun _ => rfl) ?_
  refine z_evF (fun q0 => z_bo_0.mp q0 ⟨nI_pos (by omega), mt (show _ ↔ 3 < s from z_ltN rfl rfl (by decide) (by omega)).mp (by omega)⟩) ?_
  refine z_evL ?_
  refine z_evG 4 (y := z_ret (z_cl E (d + 2) 178 [.int (nI o), .int 0, .int 2] (161, (I, J, RF w))) 13 [some (.ref 127), some (.int (nI s)), some (.int (nI o)), some (.int (nI f)), none] []) (fun _ => rfl) ?_
  refine z_evK (v := .int (z_bo (¬ (nI o) < 0 ∧ ¬ 2 < (nI o)))) (z' := 161) (σ' := (I, J, RF w)) (m_in E (d + 1) I J w (nI o) 0 2) ?_
  refine z_evG 1 (y := if (z_bo (¬ (nI o) < 0 ∧ ¬ 2 < (nI o))) = 0 then z_go 16 [some (.ref 127), some (.int (nI s)), some (.int (nI o)), some (.int (nI f)), none] [] 161 (I, J, RF w) else z_go 19 [some (.ref 127), some (.int (nI s)), some (.int (nI o)), some (.int (nI f)), none] [] 161 (I, J, RF w)) (fun _ => rfl) ?_
  refine z_evF (fun q0 => z_bo_0.mp q0 ⟨nI_pos (by omega), mt (show _ ↔ 2 < o from z_ltN rfl rfl (by decide) (by omega)).mp (by omega)⟩) ?_
  refine z_evL ?_
  refine z_evG 4 (y := z_ild (z_ia E 161 (I, J, RF w) 157) (nI s) fun vv => z_go 25 [some (.ref 127), some (.int (nI s)), some (.int (nI o)), some (.int (nI f)), none] [.int vv] 161 (I, J, RF w)) (fun _ => rfl) ?_
  refine z_evBn (N := 4) (f := (I 157)) (k := s) rfl rfl (by omega) ?_
  refine z_evL ?_
  refine z_evG 1 (y := if (I 157 s) < 0 then z_go 41 [some (.ref 127), some (.int (nI s)), some (.int (nI o)), some (.int (nI f)), none] [] 161 (I, J, RF w) else z_go 28 [some (.ref 127), some (.int (nI s)), some (.int (nI o)), some (.int (nI f)), none] [] 161 (I, J, RF w)) (fun _ => rfl) ?_
  refine z_evF hs ?_
  refine z_evL ?_
  refine z_evG 4 (y := z_ild (z_ia E 161 (I, J, RF w) 157) (nI s) fun vv => z_go 34 [some (.ref 127), some (.int (nI s)), some (.int (nI o)), some (.int (nI f)), none] [.int vv] 161 (I, J, RF w)) (fun _ => rfl) ?_
  refine z_evBn (N := 4) (f := (I 157)) (k := s) rfl rfl (by omega) ?_
  refine z_evL ?_
  refine z_evG 2 (y := if (I 157 s) = (nI o) then z_go 41 [some (.ref 127), some (.int (nI s)), some (.int (nI o)), some (.int (nI f)), none] [] 161 (I, J, RF w) else z_go 38 [some (.ref 127), some (.int (nI s)), some (.int (nI o)), some (.int (nI f)), none] [] 161 (I, J, RF w)) (fun _ => rfl) ?_
  refine z_evT he ?_
  refine z_evL ?_
  refine z_evG 4 (y := z_ild (z_ia E 161 (I, J, RF w) 157) (nI s) fun vv => z_go 47 [some (.ref 127), some (.int (nI s)), some (.int (nI o)), some (.int (nI f)), none] [.int vv] 161 (I, J, RF w)) (fun _ => rfl) ?_
  refine z_evBn (N := 4) (f := (I 157)) (k := s) rfl rfl (by omega) ?_
  refine z_evL ?_
  refine z_evG 1 (y := if (I 157 s) < 0 then z_go 50 [some (.ref 127), some (.int (nI s)), some (.int (nI o)), some (.int (nI f)), none] [] 161 (I, J, RF w) else z_go 53 [some (.ref 127), some (.int (nI s)), some (.int (nI o)), some (.int (nI f)), none] [] 161 (I, J, RF w)) (fun _ => rfl) ?_
  refine z_evF hs ?_
  refine z_evL ?_
  refine z_evG 2 (y := if (nI f) < 0 then z_go 70 [some (.ref 127), some (.int (nI s)), some (.int (nI o)), some (.int (nI f)), none] [] 161 (I, J, RF w) else z_go 57 [some (.ref 127), some (.int (nI s)), some (.int (nI o)), some (.int (nI f)), none] [] 161 (I, J, RF w)) (fun _ => rfl) ?_
  refine z_evF (nI_pos (by omega)) ?_
  refine z_evL ?_
  refine z_evG 5 (y := z_ild (z_ia E 161 (I, J, RF w) 158) (nI s) fun vv => z_go 64 [some (.ref 127), some (.int (nI s)), some (.int (nI o)), some (.int (nI f)), none] [.int vv, .int (nI f)] 161 (I, J, RF w)) (fun _ => rfl) ?_
  refine z_evBn (N := 4) (f := (I 158)) (k := s) rfl rfl (by omega) ?_
  refine z_evL ?_
  refine z_evG 3 (y := if ((I 158 s) - 8) < (nI f) then z_go 70 [some (.ref 127), some (.int (nI s)), some (.int (nI o)), some (.int (nI f)), none] [] 161 (I, J, RF w) else z_go 73 [some (.ref 127), some (.int (nI s)), some (.int (nI o)), some (.int (nI f)), none] [] 161 (I, J, RF w)) (fun _ => rfl) ?_
  refine z_evF (mt (show _ ↔ a - 8 < f from z_ltN (z_subE h_a rfl (by omega)) rfl (by omega) (by omega)).mp (by omega)) ?_
  refine z_evL ?_
  refine z_evG 2 (y := z_go 76 [some (.ref 127), some (.int (nI s)), some (.int (nI o)), some (.int (nI f)), some (.int 0)] [] 161 (I, J, RF w)) (fun _ => rfl) ?_
  refine z_evL ?_
  refine z_loop (F := fun k => ([some (.ref 127), some (.int (nI s)), some (.int (nI o)), some (.int (nI f)), some (.int (nI k))], (I, J, RF w))) (P := fun k => True) e trivial (fun hP => ?_) (fun k hk hP next => ?_)
  · show z_Ev E (d + 2) z_m251 76 [some (.ref 127), some (.int (nI s)), some (.int (nI o)), some (.int (nI f)), some (.int (nI e))] [] 161 (I, J, RF w) _
    refine z_evG 3 (y := if (nI e) < 8 then z_go 83 [some (.ref 127), some (.int (nI s)), some (.int (nI o)), some (.int (nI f)), some (.int (nI e))] [] 161 (I, J, RF w) else z_go 116 [some (.ref 127), some (.int (nI s)), some (.int (nI o)), some (.int (nI f)), some (.int (nI e))] [] 161 (I, J, RF w)) (fun _ => rfl) ?_
    refine z_evF (mt (show _ ↔ e < 8 from z_ltN rfl rfl (by omega) (by omega)).mp (by omega)) ?_
    refine z_evL ?_
    refine z_evG 4 (y := if (I 127 1) = 30 then z_go 125 [some (.ref 127), some (.int (nI s)), some (.int (nI o)), some (.int (nI f)), some (.int (nI e))] [] 161 (I, J, RF w) else z_go 128 [some (.ref 127), some (.int (nI s)), some (.int (nI o)), some (.int (nI f)), some (.int (nI e))] [] 161 (I, J, RF w)) (fun _ => rfl) ?_
    refine z_evT (((show _ ↔ n = 30 from z_eqN h_n rfl (by omega) (by omega)).mpr (by omega))) ?_
    refine z_evL ?_
    refine z_evG 2 (y := some (.inr (some (.int (-4)), 161, I, J, RF w))) (fun _ => rfl) ?_
    exact z_evR rfl
  · show z_Ev E (d + 2) z_m251 76 [some (.ref 127), some (.int (nI s)), some (.int (nI o)), some (.int (nI f)), some (.int (nI k))] [] 161 (I, J, RF w) _
    have nx : (True) → z_Ev E (d + 2) z_m251 76 [some (.ref 127), some (.int (nI s)), some (.int (nI o)), some (.int (nI f)), some (.int (nI (k + 1)))] [] 161 (I, J, RF w) _ := next
    refine z_evG 3 (y := if (nI k) < 8 then z_go 83 [some (.ref 127), some (.int (nI s)), some (.int (nI o)), some (.int (nI f)), some (.int (nI k))] [] 161 (I, J, RF w) else z_go 116 [some (.ref 127), some (.int (nI s)), some (.int (nI o)), some (.int (nI f)), some (.int (nI k))] [] 161 (I, J, RF w)) (fun _ => rfl) ?_
    refine z_evT ((show _ ↔ k < 8 from z_ltN rfl rfl (by omega) (by omega)).mpr (by omega)) ?_
    refine z_evL ?_
    refine z_evG 10 (y := z_ild (z_ia E 161 (I, J, RF w) 159) (((40 * (nI s)) + (nI f)) + (nI k)) fun vv => z_go 97 [some (.ref 127), some (.int (nI s)), some (.int (nI o)), some (.int (nI f)), some (.int (nI k))] [.int vv] 161 (I, J, RF w)) (fun _ => rfl) ?_
    refine z_evBn (N := 160) (f := (I 159)) (k := (40 * s + f + k)) rfl (z_addE (z_addE (z_mulE rfl rfl) rfl) rfl) (by omega) ?_
    refine z_evL ?_
    refine z_evG 3 (y := z_ret (z_cl E (d + 2) 178 [.int (I 159 (40 * s + f + k)), .int 0, .int 999] (161, (I, J, RF w))) 104 [some (.ref 127), some (.int (nI s)), some (.int (nI o)), some (.int (nI f)), some (.int (nI k))] []) (fun _ => rfl) ?_
    refine z_evK (v := .int (z_bo (¬ (I 159 (40 * s + f + k)) < 0 ∧ ¬ 999 < (I 159 (40 * s + f + k))))) (z' := 161) (σ' := (I, J, RF w)) (m_in E (d + 1) I J w (I 159 (40 * s + f + k)) 0 999) ?_
    refine z_evG 1 (y := if (z_bo (¬ (I 159 (40 * s + f + k)) < 0 ∧ ¬ 999 < (I 159 (40 * s + f + k)))) = 0 then z_go 107 [some (.ref 127), some (.int (nI s)), some (.int (nI o)), some (.int (nI f)), some (.int (nI k))] [] 161 (I, J, RF w) else z_go 110 [some (.ref 127), some (.int (nI s)), some (.int (nI o)), some (.int (nI f)), some (.int (nI k))] [] 161 (I, J, RF w)) (fun _ => rfl) ?_
    refine z_evF (fun q0 => z_bo_0.mp q0 (hS k hk)) ?_
    refine z_evL ?_
    refine z_evG 2 (y := z_go 76 [some (.ref 127), some (.int (nI s)), some (.int (nI o)), some (.int (nI f)), some (.int ((nI k) + 1))] [] 161 (I, J, RF w)) (fun _ => rfl) ?_
    refine z_evL ?_
    rw [nI_1 k]
    exact nx trivial
set_option maxRecDepth 20000 in
/-- LampHouseModel.rowOf -/
theorem m_rowOf_ok (E : zE) (d : Nat) (I : Nat → Nat → Int32) (J : Nat → Nat → Int64) (w : Nat) (s o f a e n : Nat) (hl_s : s < 4) (hl_o : o < 3) (hs : ¬ I 157 s < 0) (he : I 157 s = nI o) (h_a : I 158 s = nI a) (hm_a : a ≤ 40) (h1 : f + 8 ≤ a) (hE : e = 8) (hS : ∀ t, t < e → (¬ I 159 (40 * s + f + t) < 0 ∧ ¬ 999 < I 159 (40 * s + f + t))) (h_n : I 127 1 = nI n) (hm_n : n ≤ 30) (hf : n < 30) : z_cl E (d + 3) 251 [.ref 127, .int (nI s), .int (nI o), .int (nI f)] (161, I, J, RF w) = some (some (.int (nI n)), 161, (z_u2 (z_ur I 128 (z_fil (I 128) (8 * n) 8 (fun c => I 159 (40 * s + f + c)))) 127 1 (nI (n + 1))), J, RF w) := by
  refine z_call (d := d + 2) (M := z_m251) rfl rfl ?_
  refine z_evG 2 (y := z_ret (z_cl E (d + 2) 247 [.int (nI s)] (161, (I, J, RF w))) 4 [some (.ref 127), some (.int (nI s)), some (.int (nI o)), some (.int (nI f)), none] []) (fun _ => rfl) ?_
  refine z_evK (v := .int (z_bo (¬ (nI s) < 0 ∧ ¬ 3 < (nI s)))) (z' := 161) (σ' := (I, J, RF w)) (m_isSheet E d I J w (nI s)) ?_
  refine z_evG 1 (y := if (z_bo (¬ (nI s) < 0 ∧ ¬ 3 < (nI s))) = 0 then z_go 16 [some (.ref 127), some (.int (nI s)), some (.int (nI o)), some (.int (nI f)), none] [] 161 (I, J, RF w) else z_go 7 [some (.ref 127), some (.int (nI s)), some (.int (nI o)), some (.int (nI f)), none] [] 161 (I, J, RF w)) (fun _ => rfl) ?_
  refine z_evF (fun q0 => z_bo_0.mp q0 ⟨nI_pos (by omega), mt (show _ ↔ 3 < s from z_ltN rfl rfl (by decide) (by omega)).mp (by omega)⟩) ?_
  refine z_evL ?_
  refine z_evG 4 (y := z_ret (z_cl E (d + 2) 178 [.int (nI o), .int 0, .int 2] (161, (I, J, RF w))) 13 [some (.ref 127), some (.int (nI s)), some (.int (nI o)), some (.int (nI f)), none] []) (fun _ => rfl) ?_
  refine z_evK (v := .int (z_bo (¬ (nI o) < 0 ∧ ¬ 2 < (nI o)))) (z' := 161) (σ' := (I, J, RF w)) (m_in E (d + 1) I J w (nI o) 0 2) ?_
  refine z_evG 1 (y := if (z_bo (¬ (nI o) < 0 ∧ ¬ 2 < (nI o))) = 0 then z_go 16 [some (.ref 127), some (.int (nI s)), some (.int (nI o)), some (.int (nI f)), none] [] 161 (I, J, RF w) else z_go 19 [some (.ref 127), some (.int (nI s)), some (.int (nI o)), some (.int (nI f)), none] [] 161 (I, J, RF w)) (fun _ => rfl) ?_
  refine z_evF (fun q0 => z_bo_0.mp q0 ⟨nI_pos (by omega), mt (show _ ↔ 2 < o from z_ltN rfl rfl (by decide) (by omega)).mp (by omega)⟩) ?_
  refine z_evL ?_
  refine z_evG 4 (y := z_ild (z_ia E 161 (I, J, RF w) 157) (nI s) fun vv => z_go 25 [some (.ref 127), some (.int (nI s)), some (.int (nI o)), some (.int (nI f)), none] [.int vv] 161 (I, J, RF w)) (fun _ => rfl) ?_
  refine z_evBn (N := 4) (f := (I 157)) (k := s) rfl rfl (by omega) ?_
  refine z_evL ?_
  refine z_evG 1 (y := if (I 157 s) < 0 then z_go 41 [some (.ref 127), some (.int (nI s)), some (.int (nI o)), some (.int (nI f)), none] [] 161 (I, J, RF w) else z_go 28 [some (.ref 127), some (.int (nI s)), some (.int (nI o)), some (.int (nI f)), none] [] 161 (I, J, RF w)) (fun _ => rfl) ?_
  refine z_evF hs ?_
  refine z_evL ?_
  refine z_evG 4 (y := z_ild (z_ia E 161 (I, J, RF w) 157) (nI s) fun vv => z_go 34 [some (.ref 127), some (.int (nI s)), some (.int (nI o)), some (.int (nI f)), none] [.int vv] 161 (I, J, RF w)) (fun _ => rfl) ?_
  refine z_evBn (N := 4) (f := (I 157)) (k := s) rfl rfl (by omega) ?_
  refine z_evL ?_
  refine z_evG 2 (y := if (I 157 s) = (nI o) then z_go 41 [some (.ref 127), some (.int (nI s)), some (.int (nI o)), some (.int (nI f)), none] [] 161 (I, J, RF w) else z_go 38 [some (.ref 127), some (.int (nI s)), some (.int (nI o)), some (.int (nI f)), none] [] 161 (I, J, RF w)) (fun _ => rfl) ?_
  refine z_evT he ?_
  refine z_evL ?_
  refine z_evG 4 (y := z_ild (z_ia E 161 (I, J, RF w) 157) (nI s) fun vv => z_go 47 [some (.ref 127), some (.int (nI s)), some (.int (nI o)), some (.int (nI f)), none] [.int vv] 161 (I, J, RF w)) (fun _ => rfl) ?_
  refine z_evBn (N := 4) (f := (I 157)) (k := s) rfl rfl (by omega) ?_
  refine z_evL ?_
  refine z_evG 1 (y := if (I 157 s) < 0 then z_go 50 [some (.ref 127), some (.int (nI s)), some (.int (nI o)), some (.int (nI f)), none] [] 161 (I, J, RF w) else z_go 53 [some (.ref 127), some (.int (nI s)), some (.int (nI o)), some (.int (nI f)), none] [] 161 (I, J, RF w)) (fun _ => rfl) ?_
  refine z_evF hs ?_
  refine z_evL ?_
  refine z_evG 2 (y := if (nI f) < 0 then z_go 70 [some (.ref 127), some (.int (nI s)), some (.int (nI o)), some (.int (nI f)), none] [] 161 (I, J, RF w) else z_go 57 [some (.ref 127), some (.int (nI s)), some (.int (nI o)), some (.int (nI f)), none] [] 161 (I, J, RF w)) (fun _ => rfl) ?_
  refine z_evF (nI_pos (by omega)) ?_
  refine z_evL ?_
  refine z_evG 5 (y := z_ild (z_ia E 161 (I, J, RF w) 158) (nI s) fun vv => z_go 64 [some (.ref 127), some (.int (nI s)), some (.int (nI o)), some (.int (nI f)), none] [.int vv, .int (nI f)] 161 (I, J, RF w)) (fun _ => rfl) ?_
  refine z_evBn (N := 4) (f := (I 158)) (k := s) rfl rfl (by omega) ?_
  refine z_evL ?_
  refine z_evG 3 (y := if ((I 158 s) - 8) < (nI f) then z_go 70 [some (.ref 127), some (.int (nI s)), some (.int (nI o)), some (.int (nI f)), none] [] 161 (I, J, RF w) else z_go 73 [some (.ref 127), some (.int (nI s)), some (.int (nI o)), some (.int (nI f)), none] [] 161 (I, J, RF w)) (fun _ => rfl) ?_
  refine z_evF (mt (show _ ↔ a - 8 < f from z_ltN (z_subE h_a rfl (by omega)) rfl (by omega) (by omega)).mp (by omega)) ?_
  refine z_evL ?_
  refine z_evG 2 (y := z_go 76 [some (.ref 127), some (.int (nI s)), some (.int (nI o)), some (.int (nI f)), some (.int 0)] [] 161 (I, J, RF w)) (fun _ => rfl) ?_
  refine z_evL ?_
  refine z_loop (F := fun k => ([some (.ref 127), some (.int (nI s)), some (.int (nI o)), some (.int (nI f)), some (.int (nI k))], (I, J, RF w))) (P := fun k => True) e trivial (fun hP => ?_) (fun k hk hP next => ?_)
  · show z_Ev E (d + 2) z_m251 76 [some (.ref 127), some (.int (nI s)), some (.int (nI o)), some (.int (nI f)), some (.int (nI e))] [] 161 (I, J, RF w) _
    refine z_evG 3 (y := if (nI e) < 8 then z_go 83 [some (.ref 127), some (.int (nI s)), some (.int (nI o)), some (.int (nI f)), some (.int (nI e))] [] 161 (I, J, RF w) else z_go 116 [some (.ref 127), some (.int (nI s)), some (.int (nI o)), some (.int (nI f)), some (.int (nI e))] [] 161 (I, J, RF w)) (fun _ => rfl) ?_
    refine z_evF (mt (show _ ↔ e < 8 from z_ltN rfl rfl (by omega) (by omega)).mp (by omega)) ?_
    refine z_evL ?_
    refine z_evG 4 (y := if (I 127 1) = 30 then z_go 125 [some (.ref 127), some (.int (nI s)), some (.int (nI o)), some (.int (nI f)), some (.int (nI e))] [] 161 (I, J, RF w) else z_go 128 [some (.ref 127), some (.int (nI s)), some (.int (nI o)), some (.int (nI f)), some (.int (nI e))] [] 161 (I, J, RF w)) (fun _ => rfl) ?_
    refine z_evF ((mt (show _ ↔ n = 30 from z_eqN h_n rfl (by omega) (by omega)).mp (by omega))) ?_
    refine z_evL ?_
    refine z_evG 2 (y := z_go 131 [some (.ref 127), some (.int (nI s)), some (.int (nI o)), some (.int (nI f)), some (.int 0)] [] 161 (I, J, RF w)) (fun _ => rfl) ?_
    refine z_evL ?_
    have st0 : ∀ m0, m0 = 0 → ∀ qz, z_Ev E (d + 2) z_m251 131 [some (.ref 127), some (.int (nI s)), some (.int (nI o)), some (.int (nI f)), some (.int (nI m0))] [] 161 ((z_ur I 128 (z_fil (I 128) (8 * n) m0 (fun c => I 159 (40 * s + f + c)))), J, RF w) qz → z_Ev E (d + 2) z_m251 131 [some (.ref 127), some (.int (nI s)), some (.int (nI o)), some (.int (nI f)), some (.int 0)] [] 161 (I, J, RF w) qz := by intro m0 hm0 qz h; rw [hm0, z_fil_0] at h; subst hm0; exact h
    refine st0 0 rfl _ ?_
    refine z_loop (F := fun k => ([some (.ref 127), some (.int (nI s)), some (.int (nI o)), some (.int (nI f)), some (.int (nI k))], ((z_ur I 128 (z_fil (I 128) (8 * n) k (fun c => I 159 (40 * s + f + c)))), J, RF w))) (P := fun k => True) 8 trivial (fun hP => ?_) (fun k hk hP next => ?_)
    · show z_Ev E (d + 2) z_m251 131 [some (.ref 127), some (.int (nI s)), some (.int (nI o)), some (.int (nI f)), some (.int (nI 8))] [] 161 ((z_ur I 128 (z_fil (I 128) (8 * n) 8 (fun c => I 159 (40 * s + f + c)))), J, RF w) _
      refine z_evG 3 (y := if (nI 8) < 8 then z_go 138 [some (.ref 127), some (.int (nI s)), some (.int (nI o)), some (.int (nI f)), some (.int (nI 8))] [] 161 ((z_ur I 128 (z_fil (I 128) (8 * n) 8 (fun c => I 159 (40 * s + f + c)))), J, RF w) else z_go 173 [some (.ref 127), some (.int (nI s)), some (.int (nI o)), some (.int (nI f)), some (.int (nI 8))] [] 161 ((z_ur I 128 (z_fil (I 128) (8 * n) 8 (fun c => I 159 (40 * s + f + c)))), J, RF w)) (fun _ => rfl) ?_
      refine z_evF (mt (show _ ↔ 8 < 8 from z_ltN rfl rfl (by omega) (by omega)).mp (by omega)) ?_
      refine z_evL ?_
      refine z_evG 11 (y := some (.inr (some (.int (((I 127 1) + 1) - 1)), 161, (z_u2 (z_ur I 128 (z_fil (I 128) (8 * n) 8 (fun c => I 159 (40 * s + f + c)))) 127 1 ((I 127 1) + 1)), J, RF w))) (fun _ => rfl) ?_
      rw [h_n, nI_1, nI_pred]
      exact z_evR rfl
    · show z_Ev E (d + 2) z_m251 131 [some (.ref 127), some (.int (nI s)), some (.int (nI o)), some (.int (nI f)), some (.int (nI k))] [] 161 ((z_ur I 128 (z_fil (I 128) (8 * n) k (fun c => I 159 (40 * s + f + c)))), J, RF w) _
      have nx : (True) → z_Ev E (d + 2) z_m251 131 [some (.ref 127), some (.int (nI s)), some (.int (nI o)), some (.int (nI f)), some (.int (nI (k + 1)))] [] 161 ((z_ur I 128 (z_fil (I 128) (8 * n) (k + 1) (fun c => I 159 (40 * s + f + c)))), J, RF w) _ := next
      refine z_evG 3 (y := if (nI k) < 8 then z_go 138 [some (.ref 127), some (.int (nI s)), some (.int (nI o)), some (.int (nI f)), some (.int (nI k))] [] 161 ((z_ur I 128 (z_fil (I 128) (8 * n) k (fun c => I 159 (40 * s + f + c)))), J, RF w) else z_go 173 [some (.ref 127), some (.int (nI s)), some (.int (nI o)), some (.int (nI f)), some (.int (nI k))] [] 161 ((z_ur I 128 (z_fil (I 128) (8 * n) k (fun c => I 159 (40 * s + f + c)))), J, RF w)) (fun _ => rfl) ?_
      refine z_evT ((show _ ↔ k < 8 from z_ltN rfl rfl (by omega) (by omega)).mpr (by omega)) ?_
      refine z_evL ?_
      refine z_evG 18 (y := z_ild (z_ia E 161 ((z_ur I 128 (z_fil (I 128) (8 * n) k (fun c => I 159 (40 * s + f + c)))), J, RF w) 159) (((40 * (nI s)) + (nI f)) + (nI k)) fun vv => z_go 166 [some (.ref 127), some (.int (nI s)), some (.int (nI o)), some (.int (nI f)), some (.int (nI k))] [.int vv, .int ((8 * (I 127 1)) + (nI k)), .ref 128] 161 ((z_ur I 128 (z_fil (I 128) (8 * n) k (fun c => I 159 (40 * s + f + c)))), J, RF w)) (fun _ => rfl) ?_
      refine z_evBn (N := 160) (f := ((z_ur I 128 (z_fil (I 128) (8 * n) k (fun c => I 159 (40 * s + f + c)))) 159)) (k := (40 * s + f + k)) rfl (z_addE (z_addE (z_mulE rfl rfl) rfl) rfl) (by omega) ?_
      refine z_evL ?_
      refine z_evG 1 (y := z_ck (z_in ((8 * (I 127 1)) + (nI k)) 240) (z_go 167 [some (.ref 127), some (.int (nI s)), some (.int (nI o)), some (.int (nI f)), some (.int (nI k))] [] 161 ((z_u2 (z_ur I 128 (z_fil (I 128) (8 * n) k (fun c => I 159 (40 * s + f + c)))) 128 (((8 * (I 127 1)) + (nI k)).toNatClampNeg) (I 159 (40 * s + f + k))), J, RF w))) (fun _ => rfl) ?_
      refine z_evC (z_inN (k := 8 * n + k) (z_addE (z_mulE rfl h_n) rfl) (by omega) (by decide)) ?_
      refine z_evL ?_
      rw [show (((8 * (I 127 1)) + (nI k) : Int32)).toNatClampNeg = 8 * n + k from z_natE (z_addE (z_mulE rfl h_n) rfl) (by omega)]
      refine z_evG 2 (y := z_go 131 [some (.ref 127), some (.int (nI s)), some (.int (nI o)), some (.int (nI f)), some (.int ((nI k) + 1))] [] 161 ((z_u2 (z_ur I 128 (z_fil (I 128) (8 * n) k (fun c => I 159 (40 * s + f + c)))) 128 (8 * n + k) (I 159 (40 * s + f + k))), J, RF w)) (fun _ => rfl) ?_
      refine z_evL ?_
      rw [nI_1 k, z_fil_sx _ _ _ _ (by rfl)]
      exact nx trivial
  · show z_Ev E (d + 2) z_m251 76 [some (.ref 127), some (.int (nI s)), some (.int (nI o)), some (.int (nI f)), some (.int (nI k))] [] 161 (I, J, RF w) _
    have nx : (True) → z_Ev E (d + 2) z_m251 76 [some (.ref 127), some (.int (nI s)), some (.int (nI o)), some (.int (nI f)), some (.int (nI (k + 1)))] [] 161 (I, J, RF w) _ := next
    refine z_evG 3 (y := if (nI k) < 8 then z_go 83 [some (.ref 127), some (.int (nI s)), some (.int (nI o)), some (.int (nI f)), some (.int (nI k))] [] 161 (I, J, RF w) else z_go 116 [some (.ref 127), some (.int (nI s)), some (.int (nI o)), some (.int (nI f)), some (.int (nI k))] [] 161 (I, J, RF w)) (fun _ => rfl) ?_
    refine z_evT ((show _ ↔ k < 8 from z_ltN rfl rfl (by omega) (by omega)).mpr (by omega)) ?_
    refine z_evL ?_
    refine z_evG 10 (y := z_ild (z_ia E 161 (I, J, RF w) 159) (((40 * (nI s)) + (nI f)) + (nI k)) fun vv => z_go 97 [some (.ref 127), some (.int (nI s)), some (.int (nI o)), some (.int (nI f)), some (.int (nI k))] [.int vv] 161 (I, J, RF w)) (fun _ => rfl) ?_
    refine z_evBn (N := 160) (f := (I 159)) (k := (40 * s + f + k)) rfl (z_addE (z_addE (z_mulE rfl rfl) rfl) rfl) (by omega) ?_
    refine z_evL ?_
    refine z_evG 3 (y := z_ret (z_cl E (d + 2) 178 [.int (I 159 (40 * s + f + k)), .int 0, .int 999] (161, (I, J, RF w))) 104 [some (.ref 127), some (.int (nI s)), some (.int (nI o)), some (.int (nI f)), some (.int (nI k))] []) (fun _ => rfl) ?_
    refine z_evK (v := .int (z_bo (¬ (I 159 (40 * s + f + k)) < 0 ∧ ¬ 999 < (I 159 (40 * s + f + k))))) (z' := 161) (σ' := (I, J, RF w)) (m_in E (d + 1) I J w (I 159 (40 * s + f + k)) 0 999) ?_
    refine z_evG 1 (y := if (z_bo (¬ (I 159 (40 * s + f + k)) < 0 ∧ ¬ 999 < (I 159 (40 * s + f + k)))) = 0 then z_go 107 [some (.ref 127), some (.int (nI s)), some (.int (nI o)), some (.int (nI f)), some (.int (nI k))] [] 161 (I, J, RF w) else z_go 110 [some (.ref 127), some (.int (nI s)), some (.int (nI o)), some (.int (nI f)), some (.int (nI k))] [] 161 (I, J, RF w)) (fun _ => rfl) ?_
    refine z_evF (fun q0 => z_bo_0.mp q0 (hS k hk)) ?_
    refine z_evL ?_
    refine z_evG 2 (y := z_go 76 [some (.ref 127), some (.int (nI s)), some (.int (nI o)), some (.int (nI f)), some (.int ((nI k) + 1))] [] 161 (I, J, RF w)) (fun _ => rfl) ?_
    refine z_evL ?_
    rw [nI_1 k]
    exact nx trivial
