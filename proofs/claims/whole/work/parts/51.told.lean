-- THINGTOLD, what stands in cells
set_option maxRecDepth 20000 in
/-- LampHouse.thingTold -/
theorem x_thingTold_0 (E : zE) (d : Nat) (I : Nat → Nat → Int32) (J : Nat → Nat → Int64) (w : Nat) (t n : Nat) (h_n : I 37 7 = nI n) (hm_n : n ≤ 20) (hl_t : t < n) : z_cl E (d + 5) 132 [.ref 0, .int (nI t), .int 0] (161, I, J, RF w) = some (some (.int (I 38 t)), 161, I, J, RF w) := by
  refine z_call (d := d + 4) (M := z_m132) rfl rfl ?_
  refine z_evG 4 (y := z_ret (z_cl E (d + 4) 108 [.ref 37, .int (nI t)] (161, (I, J, RF w))) 8 [some (.ref 0), some (.int (nI t)), some (.int 0)] []) (fun _ => rfl) ?_
  refine z_evK (v := .int (z_bo (¬ (nI t) < 0 ∧ (nI t) < I 37 7))) (z' := 161) (σ' := (I, J, RF w)) (x_things_has E (d + 3) I J w (nI t)) ?_
  refine z_evG 1 (y := if (z_bo (¬ (nI t) < 0 ∧ (nI t) < I 37 7)) = 0 then z_go 11 [some (.ref 0), some (.int (nI t)), some (.int 0)] [] 161 (I, J, RF w) else z_go 14 [some (.ref 0), some (.int (nI t)), some (.int 0)] [] 161 (I, J, RF w)) (fun _ => rfl) ?_
  refine z_evF (fun q0 => z_bo_0.mp q0 ⟨nI_pos (by omega), (show _ ↔ t < n from z_ltN rfl h_n (by omega) (by omega)).mpr (by omega)⟩) ?_
  refine z_evL ?_
  refine z_evG 6 (y := z_ret (z_cl E (d + 4) 113 [.ref 37, .int (nI t)] (161, (I, J, RF w))) 60 [some (.ref 0), some (.int (nI t)), some (.int 0)] []) (fun _ => rfl) ?_
  refine z_evK (v := .int (I 38 t)) (z' := 161) (σ' := (I, J, RF w)) (x_things_kindOfN E (d + 3) I J w t (by omega)) ?_
  refine z_evG 1 (y := some (.inr (some (.int (I 38 t)), 161, I, J, RF w))) (fun _ => rfl) ?_
  exact z_evR rfl
set_option maxRecDepth 20000 in
/-- LampHouse.thingTold -/
theorem x_thingTold_1 (E : zE) (d : Nat) (I : Nat → Nat → Int32) (J : Nat → Nat → Int64) (w : Nat) (t n : Nat) (h_n : I 37 7 = nI n) (hm_n : n ≤ 20) (hl_t : t < n) : z_cl E (d + 5) 132 [.ref 0, .int (nI t), .int 1] (161, I, J, RF w) = some (some (.int (I 39 t)), 161, I, J, RF w) := by
  refine z_call (d := d + 4) (M := z_m132) rfl rfl ?_
  refine z_evG 4 (y := z_ret (z_cl E (d + 4) 108 [.ref 37, .int (nI t)] (161, (I, J, RF w))) 8 [some (.ref 0), some (.int (nI t)), some (.int 1)] []) (fun _ => rfl) ?_
  refine z_evK (v := .int (z_bo (¬ (nI t) < 0 ∧ (nI t) < I 37 7))) (z' := 161) (σ' := (I, J, RF w)) (x_things_has E (d + 3) I J w (nI t)) ?_
  refine z_evG 1 (y := if (z_bo (¬ (nI t) < 0 ∧ (nI t) < I 37 7)) = 0 then z_go 11 [some (.ref 0), some (.int (nI t)), some (.int 1)] [] 161 (I, J, RF w) else z_go 14 [some (.ref 0), some (.int (nI t)), some (.int 1)] [] 161 (I, J, RF w)) (fun _ => rfl) ?_
  refine z_evF (fun q0 => z_bo_0.mp q0 ⟨nI_pos (by omega), (show _ ↔ t < n from z_ltN rfl h_n (by omega) (by omega)).mpr (by omega)⟩) ?_
  refine z_evL ?_
  refine z_evG 6 (y := z_ret (z_cl E (d + 4) 114 [.ref 37, .int (nI t)] (161, (I, J, RF w))) 69 [some (.ref 0), some (.int (nI t)), some (.int 1)] []) (fun _ => rfl) ?_
  refine z_evK (v := .int (I 39 t)) (z' := 161) (σ' := (I, J, RF w)) (x_things_rowUsedN E (d + 3) I J w t (by omega)) ?_
  refine z_evG 1 (y := some (.inr (some (.int (I 39 t)), 161, I, J, RF w))) (fun _ => rfl) ?_
  exact z_evR rfl
set_option maxRecDepth 20000 in
/-- LampHouse.thingTold -/
theorem x_thingTold_2 (E : zE) (d : Nat) (I : Nat → Nat → Int32) (J : Nat → Nat → Int64) (w : Nat) (t n : Nat) (h_n : I 37 7 = nI n) (hm_n : n ≤ 20) (hl_t : t < n) : z_cl E (d + 5) 132 [.ref 0, .int (nI t), .int 2] (161, I, J, RF w) = some (some (.int (I 40 t)), 161, I, J, RF w) := by
  refine z_call (d := d + 4) (M := z_m132) rfl rfl ?_
  refine z_evG 4 (y := z_ret (z_cl E (d + 4) 108 [.ref 37, .int (nI t)] (161, (I, J, RF w))) 8 [some (.ref 0), some (.int (nI t)), some (.int 2)] []) (fun _ => rfl) ?_
  refine z_evK (v := .int (z_bo (¬ (nI t) < 0 ∧ (nI t) < I 37 7))) (z' := 161) (σ' := (I, J, RF w)) (x_things_has E (d + 3) I J w (nI t)) ?_
  refine z_evG 1 (y := if (z_bo (¬ (nI t) < 0 ∧ (nI t) < I 37 7)) = 0 then z_go 11 [some (.ref 0), some (.int (nI t)), some (.int 2)] [] 161 (I, J, RF w) else z_go 14 [some (.ref 0), some (.int (nI t)), some (.int 2)] [] 161 (I, J, RF w)) (fun _ => rfl) ?_
  refine z_evF (fun q0 => z_bo_0.mp q0 ⟨nI_pos (by omega), (show _ ↔ t < n from z_ltN rfl h_n (by omega) (by omega)).mpr (by omega)⟩) ?_
  refine z_evL ?_
  refine z_evG 6 (y := z_ret (z_cl E (d + 4) 115 [.ref 37, .int (nI t)] (161, (I, J, RF w))) 78 [some (.ref 0), some (.int (nI t)), some (.int 2)] []) (fun _ => rfl) ?_
  refine z_evK (v := .int (I 40 t)) (z' := 161) (σ' := (I, J, RF w)) (x_things_numberOfN E (d + 3) I J w t (by omega)) ?_
  refine z_evG 1 (y := some (.inr (some (.int (I 40 t)), 161, I, J, RF w))) (fun _ => rfl) ?_
  exact z_evR rfl
set_option maxRecDepth 20000 in
/-- LampHouse.thingTold -/
theorem x_thingTold_3 (E : zE) (d : Nat) (I : Nat → Nat → Int32) (J : Nat → Nat → Int64) (w : Nat) (t n : Nat) (h_n : I 37 7 = nI n) (hm_n : n ≤ 20) (hl_t : t < n) : z_cl E (d + 5) 132 [.ref 0, .int (nI t), .int 3] (161, I, J, RF w) = some (some (.int (I 41 t)), 161, I, J, RF w) := by
  refine z_call (d := d + 4) (M := z_m132) rfl rfl ?_
  refine z_evG 4 (y := z_ret (z_cl E (d + 4) 108 [.ref 37, .int (nI t)] (161, (I, J, RF w))) 8 [some (.ref 0), some (.int (nI t)), some (.int 3)] []) (fun _ => rfl) ?_
  refine z_evK (v := .int (z_bo (¬ (nI t) < 0 ∧ (nI t) < I 37 7))) (z' := 161) (σ' := (I, J, RF w)) (x_things_has E (d + 3) I J w (nI t)) ?_
  refine z_evG 1 (y := if (z_bo (¬ (nI t) < 0 ∧ (nI t) < I 37 7)) = 0 then z_go 11 [some (.ref 0), some (.int (nI t)), some (.int 3)] [] 161 (I, J, RF w) else z_go 14 [some (.ref 0), some (.int (nI t)), some (.int 3)] [] 161 (I, J, RF w)) (fun _ => rfl) ?_
  refine z_evF (fun q0 => z_bo_0.mp q0 ⟨nI_pos (by omega), (show _ ↔ t < n from z_ltN rfl h_n (by omega) (by omega)).mpr (by omega)⟩) ?_
  refine z_evL ?_
  refine z_evG 6 (y := z_ret (z_cl E (d + 4) 116 [.ref 37, .int (nI t)] (161, (I, J, RF w))) 87 [some (.ref 0), some (.int (nI t)), some (.int 3)] []) (fun _ => rfl) ?_
  refine z_evK (v := .int (I 41 t)) (z' := 161) (σ' := (I, J, RF w)) (x_things_hourToldN E (d + 3) I J w t (by omega)) ?_
  refine z_evG 1 (y := some (.inr (some (.int (I 41 t)), 161, I, J, RF w))) (fun _ => rfl) ?_
  exact z_evR rfl
set_option maxRecDepth 20000 in
/-- LampHouse.thingTold -/
theorem x_thingTold_4 (E : zE) (d : Nat) (I : Nat → Nat → Int32) (J : Nat → Nat → Int64) (w : Nat) (t n : Nat) (h_n : I 37 7 = nI n) (hm_n : n ≤ 20) (hl_t : t < n) : z_cl E (d + 5) 132 [.ref 0, .int (nI t), .int 4] (161, I, J, RF w) = some (some (.int (I 42 t)), 161, I, J, RF w) := by
  refine z_call (d := d + 4) (M := z_m132) rfl rfl ?_
  refine z_evG 4 (y := z_ret (z_cl E (d + 4) 108 [.ref 37, .int (nI t)] (161, (I, J, RF w))) 8 [some (.ref 0), some (.int (nI t)), some (.int 4)] []) (fun _ => rfl) ?_
  refine z_evK (v := .int (z_bo (¬ (nI t) < 0 ∧ (nI t) < I 37 7))) (z' := 161) (σ' := (I, J, RF w)) (x_things_has E (d + 3) I J w (nI t)) ?_
  refine z_evG 1 (y := if (z_bo (¬ (nI t) < 0 ∧ (nI t) < I 37 7)) = 0 then z_go 11 [some (.ref 0), some (.int (nI t)), some (.int 4)] [] 161 (I, J, RF w) else z_go 14 [some (.ref 0), some (.int (nI t)), some (.int 4)] [] 161 (I, J, RF w)) (fun _ => rfl) ?_
  refine z_evF (fun q0 => z_bo_0.mp q0 ⟨nI_pos (by omega), (show _ ↔ t < n from z_ltN rfl h_n (by omega) (by omega)).mpr (by omega)⟩) ?_
  refine z_evL ?_
  refine z_evG 6 (y := z_ret (z_cl E (d + 4) 117 [.ref 37, .int (nI t)] (161, (I, J, RF w))) 96 [some (.ref 0), some (.int (nI t)), some (.int 4)] []) (fun _ => rfl) ?_
  refine z_evK (v := .int (I 42 t)) (z' := 161) (σ' := (I, J, RF w)) (x_things_stepsOfN E (d + 3) I J w t (by omega)) ?_
  refine z_evG 1 (y := some (.inr (some (.int (I 42 t)), 161, I, J, RF w))) (fun _ => rfl) ?_
  exact z_evR rfl
set_option maxRecDepth 20000 in
/-- LampHouseModel.thingTold -/
theorem m_thingTold_0 (E : zE) (d : Nat) (I : Nat → Nat → Int32) (J : Nat → Nat → Int64) (w : Nat) (t n : Nat) (h_n : I 127 3 = nI n) (hm_n : n ≤ 20) (hl_t : t < n) : z_cl E (d + 5) 188 [.ref 127, .int (nI t), .int 0] (161, I, J, RF w) = some (some (.int (I 129 t)), 161, I, J, RF w) := by
  refine z_call (d := d + 4) (M := z_m188) rfl rfl ?_
  refine z_evG 3 (y := z_ret (z_cl E (d + 4) 183 [.ref 127, .int (nI t)] (161, (I, J, RF w))) 5 [some (.ref 127), some (.int (nI t)), some (.int 0)] []) (fun _ => rfl) ?_
  refine z_evK (v := .int (z_bo (¬ (nI t) < 0 ∧ ¬ I 127 3 - 1 < (nI t)))) (z' := 161) (σ' := (I, J, RF w)) (m_isThing E (d + 2) I J w (nI t)) ?_
  refine z_evG 1 (y := if (z_bo (¬ (nI t) < 0 ∧ ¬ I 127 3 - 1 < (nI t))) = 0 then z_go 17 [some (.ref 127), some (.int (nI t)), some (.int 0)] [] 161 (I, J, RF w) else z_go 8 [some (.ref 127), some (.int (nI t)), some (.int 0)] [] 161 (I, J, RF w)) (fun _ => rfl) ?_
  refine z_evF (fun q0 => z_bo_0.mp q0 ⟨nI_pos (by omega), z_plt h_n rfl (by omega) (by omega)⟩) ?_
  refine z_evL ?_
  refine z_evG 4 (y := z_ret (z_cl E (d + 4) 178 [.int 0, .int 0, .int 5] (161, (I, J, RF w))) 14 [some (.ref 127), some (.int (nI t)), some (.int 0)] []) (fun _ => rfl) ?_
  refine z_evK (v := .int (z_bo (¬ 0 < 0 ∧ ¬ 5 < 0))) (z' := 161) (σ' := (I, J, RF w)) (m_in E (d + 3) I J w 0 0 5) ?_
  refine z_evG 1 (y := if (z_bo (¬ 0 < 0 ∧ ¬ 5 < 0)) = 0 then z_go 17 [some (.ref 127), some (.int (nI t)), some (.int 0)] [] 161 (I, J, RF w) else z_go 20 [some (.ref 127), some (.int (nI t)), some (.int 0)] [] 161 (I, J, RF w)) (fun _ => rfl) ?_
  refine z_evF (by decide) ?_
  refine z_evL ?_
  refine z_evG 6 (y := z_ild (z_ia E 161 (I, J, RF w) 129) (nI t) fun vv => z_go 62 [some (.ref 127), some (.int (nI t)), some (.int 0)] [.int vv] 161 (I, J, RF w)) (fun _ => rfl) ?_
  refine z_evBn (N := 20) (f := (I 129)) (k := t) rfl rfl (by omega) ?_
  refine z_evL ?_
  refine z_evG 1 (y := some (.inr (some (.int (I 129 t)), 161, I, J, RF w))) (fun _ => rfl) ?_
  exact z_evR rfl
set_option maxRecDepth 20000 in
/-- LampHouseModel.thingTold -/
theorem m_thingTold_1 (E : zE) (d : Nat) (I : Nat → Nat → Int32) (J : Nat → Nat → Int64) (w : Nat) (t n : Nat) (h_n : I 127 3 = nI n) (hm_n : n ≤ 20) (hl_t : t < n) : z_cl E (d + 5) 188 [.ref 127, .int (nI t), .int 1] (161, I, J, RF w) = some (some (.int (I 130 t)), 161, I, J, RF w) := by
  refine z_call (d := d + 4) (M := z_m188) rfl rfl ?_
  refine z_evG 3 (y := z_ret (z_cl E (d + 4) 183 [.ref 127, .int (nI t)] (161, (I, J, RF w))) 5 [some (.ref 127), some (.int (nI t)), some (.int 1)] []) (fun _ => rfl) ?_
  refine z_evK (v := .int (z_bo (¬ (nI t) < 0 ∧ ¬ I 127 3 - 1 < (nI t)))) (z' := 161) (σ' := (I, J, RF w)) (m_isThing E (d + 2) I J w (nI t)) ?_
  refine z_evG 1 (y := if (z_bo (¬ (nI t) < 0 ∧ ¬ I 127 3 - 1 < (nI t))) = 0 then z_go 17 [some (.ref 127), some (.int (nI t)), some (.int 1)] [] 161 (I, J, RF w) else z_go 8 [some (.ref 127), some (.int (nI t)), some (.int 1)] [] 161 (I, J, RF w)) (fun _ => rfl) ?_
  refine z_evF (fun q0 => z_bo_0.mp q0 ⟨nI_pos (by omega), z_plt h_n rfl (by omega) (by omega)⟩) ?_
  refine z_evL ?_
  refine z_evG 4 (y := z_ret (z_cl E (d + 4) 178 [.int 1, .int 0, .int 5] (161, (I, J, RF w))) 14 [some (.ref 127), some (.int (nI t)), some (.int 1)] []) (fun _ => rfl) ?_
  refine z_evK (v := .int (z_bo (¬ 1 < 0 ∧ ¬ 5 < 1))) (z' := 161) (σ' := (I, J, RF w)) (m_in E (d + 3) I J w 1 0 5) ?_
  refine z_evG 1 (y := if (z_bo (¬ 1 < 0 ∧ ¬ 5 < 1)) = 0 then z_go 17 [some (.ref 127), some (.int (nI t)), some (.int 1)] [] 161 (I, J, RF w) else z_go 20 [some (.ref 127), some (.int (nI t)), some (.int 1)] [] 161 (I, J, RF w)) (fun _ => rfl) ?_
  refine z_evF (by decide) ?_
  refine z_evL ?_
  refine z_evG 6 (y := z_ild (z_ia E 161 (I, J, RF w) 130) (nI t) fun vv => z_go 69 [some (.ref 127), some (.int (nI t)), some (.int 1)] [.int vv] 161 (I, J, RF w)) (fun _ => rfl) ?_
  refine z_evBn (N := 20) (f := (I 130)) (k := t) rfl rfl (by omega) ?_
  refine z_evL ?_
  refine z_evG 1 (y := some (.inr (some (.int (I 130 t)), 161, I, J, RF w))) (fun _ => rfl) ?_
  exact z_evR rfl
set_option maxRecDepth 20000 in
/-- LampHouseModel.thingTold -/
theorem m_thingTold_2 (E : zE) (d : Nat) (I : Nat → Nat → Int32) (J : Nat → Nat → Int64) (w : Nat) (t n : Nat) (h_n : I 127 3 = nI n) (hm_n : n ≤ 20) (hl_t : t < n) : z_cl E (d + 5) 188 [.ref 127, .int (nI t), .int 2] (161, I, J, RF w) = some (some (.int (I 131 t)), 161, I, J, RF w) := by
  refine z_call (d := d + 4) (M := z_m188) rfl rfl ?_
  refine z_evG 3 (y := z_ret (z_cl E (d + 4) 183 [.ref 127, .int (nI t)] (161, (I, J, RF w))) 5 [some (.ref 127), some (.int (nI t)), some (.int 2)] []) (fun _ => rfl) ?_
  refine z_evK (v := .int (z_bo (¬ (nI t) < 0 ∧ ¬ I 127 3 - 1 < (nI t)))) (z' := 161) (σ' := (I, J, RF w)) (m_isThing E (d + 2) I J w (nI t)) ?_
  refine z_evG 1 (y := if (z_bo (¬ (nI t) < 0 ∧ ¬ I 127 3 - 1 < (nI t))) = 0 then z_go 17 [some (.ref 127), some (.int (nI t)), some (.int 2)] [] 161 (I, J, RF w) else z_go 8 [some (.ref 127), some (.int (nI t)), some (.int 2)] [] 161 (I, J, RF w)) (fun _ => rfl) ?_
  refine z_evF (fun q0 => z_bo_0.mp q0 ⟨nI_pos (by omega), z_plt h_n rfl (by omega) (by omega)⟩) ?_
  refine z_evL ?_
  refine z_evG 4 (y := z_ret (z_cl E (d + 4) 178 [.int 2, .int 0, .int 5] (161, (I, J, RF w))) 14 [some (.ref 127), some (.int (nI t)), some (.int 2)] []) (fun _ => rfl) ?_
  refine z_evK (v := .int (z_bo (¬ 2 < 0 ∧ ¬ 5 < 2))) (z' := 161) (σ' := (I, J, RF w)) (m_in E (d + 3) I J w 2 0 5) ?_
  refine z_evG 1 (y := if (z_bo (¬ 2 < 0 ∧ ¬ 5 < 2)) = 0 then z_go 17 [some (.ref 127), some (.int (nI t)), some (.int 2)] [] 161 (I, J, RF w) else z_go 20 [some (.ref 127), some (.int (nI t)), some (.int 2)] [] 161 (I, J, RF w)) (fun _ => rfl) ?_
  refine z_evF (by decide) ?_
  refine z_evL ?_
  refine z_evG 6 (y := z_ild (z_ia E 161 (I, J, RF w) 131) (nI t) fun vv => z_go 76 [some (.ref 127), some (.int (nI t)), some (.int 2)] [.int vv] 161 (I, J, RF w)) (fun _ => rfl) ?_
  refine z_evBn (N := 20) (f := (I 131)) (k := t) rfl rfl (by omega) ?_
  refine z_evL ?_
  refine z_evG 1 (y := some (.inr (some (.int (I 131 t)), 161, I, J, RF w))) (fun _ => rfl) ?_
  exact z_evR rfl
set_option maxRecDepth 20000 in
/-- LampHouseModel.thingTold -/
theorem m_thingTold_3 (E : zE) (d : Nat) (I : Nat → Nat → Int32) (J : Nat → Nat → Int64) (w : Nat) (t n : Nat) (h_n : I 127 3 = nI n) (hm_n : n ≤ 20) (hl_t : t < n) : z_cl E (d + 5) 188 [.ref 127, .int (nI t), .int 3] (161, I, J, RF w) = some (some (.int (I 132 t)), 161, I, J, RF w) := by
  refine z_call (d := d + 4) (M := z_m188) rfl rfl ?_
  refine z_evG 3 (y := z_ret (z_cl E (d + 4) 183 [.ref 127, .int (nI t)] (161, (I, J, RF w))) 5 [some (.ref 127), some (.int (nI t)), some (.int 3)] []) (fun _ => rfl) ?_
  refine z_evK (v := .int (z_bo (¬ (nI t) < 0 ∧ ¬ I 127 3 - 1 < (nI t)))) (z' := 161) (σ' := (I, J, RF w)) (m_isThing E (d + 2) I J w (nI t)) ?_
  refine z_evG 1 (y := if (z_bo (¬ (nI t) < 0 ∧ ¬ I 127 3 - 1 < (nI t))) = 0 then z_go 17 [some (.ref 127), some (.int (nI t)), some (.int 3)] [] 161 (I, J, RF w) else z_go 8 [some (.ref 127), some (.int (nI t)), some (.int 3)] [] 161 (I, J, RF w)) (fun _ => rfl) ?_
  refine z_evF (fun q0 => z_bo_0.mp q0 ⟨nI_pos (by omega), z_plt h_n rfl (by omega) (by omega)⟩) ?_
  refine z_evL ?_
  refine z_evG 4 (y := z_ret (z_cl E (d + 4) 178 [.int 3, .int 0, .int 5] (161, (I, J, RF w))) 14 [some (.ref 127), some (.int (nI t)), some (.int 3)] []) (fun _ => rfl) ?_
  refine z_evK (v := .int (z_bo (¬ 3 < 0 ∧ ¬ 5 < 3))) (z' := 161) (σ' := (I, J, RF w)) (m_in E (d + 3) I J w 3 0 5) ?_
  refine z_evG 1 (y := if (z_bo (¬ 3 < 0 ∧ ¬ 5 < 3)) = 0 then z_go 17 [some (.ref 127), some (.int (nI t)), some (.int 3)] [] 161 (I, J, RF w) else z_go 20 [some (.ref 127), some (.int (nI t)), some (.int 3)] [] 161 (I, J, RF w)) (fun _ => rfl) ?_
  refine z_evF (by decide) ?_
  refine z_evL ?_
  refine z_evG 6 (y := z_ild (z_ia E 161 (I, J, RF w) 132) (nI t) fun vv => z_go 83 [some (.ref 127), some (.int (nI t)), some (.int 3)] [.int vv] 161 (I, J, RF w)) (fun _ => rfl) ?_
  refine z_evBn (N := 20) (f := (I 132)) (k := t) rfl rfl (by omega) ?_
  refine z_evL ?_
  refine z_evG 1 (y := some (.inr (some (.int (I 132 t)), 161, I, J, RF w))) (fun _ => rfl) ?_
  exact z_evR rfl
set_option maxRecDepth 20000 in
/-- LampHouseModel.thingTold -/
theorem m_thingTold_4 (E : zE) (d : Nat) (I : Nat → Nat → Int32) (J : Nat → Nat → Int64) (w : Nat) (t n : Nat) (h_n : I 127 3 = nI n) (hm_n : n ≤ 20) (hl_t : t < n) : z_cl E (d + 5) 188 [.ref 127, .int (nI t), .int 4] (161, I, J, RF w) = some (some (.int (I 133 t)), 161, I, J, RF w) := by
  refine z_call (d := d + 4) (M := z_m188) rfl rfl ?_
  refine z_evG 3 (y := z_ret (z_cl E (d + 4) 183 [.ref 127, .int (nI t)] (161, (I, J, RF w))) 5 [some (.ref 127), some (.int (nI t)), some (.int 4)] []) (fun _ => rfl) ?_
  refine z_evK (v := .int (z_bo (¬ (nI t) < 0 ∧ ¬ I 127 3 - 1 < (nI t)))) (z' := 161) (σ' := (I, J, RF w)) (m_isThing E (d + 2) I J w (nI t)) ?_
  refine z_evG 1 (y := if (z_bo (¬ (nI t) < 0 ∧ ¬ I 127 3 - 1 < (nI t))) = 0 then z_go 17 [some (.ref 127), some (.int (nI t)), some (.int 4)] [] 161 (I, J, RF w) else z_go 8 [some (.ref 127), some (.int (nI t)), some (.int 4)] [] 161 (I, J, RF w)) (fun _ => rfl) ?_
  refine z_evF (fun q0 => z_bo_0.mp q0 ⟨nI_pos (by omega), z_plt h_n rfl (by omega) (by omega)⟩) ?_
  refine z_evL ?_
  refine z_evG 4 (y := z_ret (z_cl E (d + 4) 178 [.int 4, .int 0, .int 5] (161, (I, J, RF w))) 14 [some (.ref 127), some (.int (nI t)), some (.int 4)] []) (fun _ => rfl) ?_
  refine z_evK (v := .int (z_bo (¬ 4 < 0 ∧ ¬ 5 < 4))) (z' := 161) (σ' := (I, J, RF w)) (m_in E (d + 3) I J w 4 0 5) ?_
  refine z_evG 1 (y := if (z_bo (¬ 4 < 0 ∧ ¬ 5 < 4)) = 0 then z_go 17 [some (.ref 127), some (.int (nI t)), some (.int 4)] [] 161 (I, J, RF w) else z_go 20 [some (.ref 127), some (.int (nI t)), some (.int 4)] [] 161 (I, J, RF w)) (fun _ => rfl) ?_
  refine z_evF (by decide) ?_
  refine z_evL ?_
  refine z_evG 6 (y := z_ild (z_ia E 161 (I, J, RF w) 133) (nI t) fun vv => z_go 90 [some (.ref 127), some (.int (nI t)), some (.int 4)] [.int vv] 161 (I, J, RF w)) (fun _ => rfl) ?_
  refine z_evBn (N := 20) (f := (I 133)) (k := t) rfl rfl (by omega) ?_
  refine z_evL ?_
  refine z_evG 1 (y := some (.inr (some (.int (I 133 t)), 161, I, J, RF w))) (fun _ => rfl) ?_
  exact z_evR rfl
set_option maxRecDepth 20000 in
/-- LampHouse.thingTold -/
theorem x_thingTold_badA (E : zE) (d : Nat) (I : Nat → Nat → Int32) (J : Nat → Nat → Int64) (w : Nat) (t i : Int32) (hbad : ¬ (¬ t < 0 ∧ t < I 37 7)) : z_cl E (d + 5) 132 [.ref 0, .int t, .int i] (161, I, J, RF w) = some (some (.int (-2)), 161, I, J, RF w) := by
  refine z_call (d := d + 4) (M := z_m132) rfl rfl ?_
  refine z_evG 4 (y := z_ret (z_cl E (d + 4) 108 [.ref 37, .int t] (161, (I, J, RF w))) 8 [some (.ref 0), some (.int t), some (.int i)] []) (fun _ => rfl) ?_
  refine z_evK (v := .int (z_bo (¬ t < 0 ∧ t < I 37 7))) (z' := 161) (σ' := (I, J, RF w)) (x_things_has E (d + 3) I J w t) ?_
  refine z_evG 1 (y := if (z_bo (¬ t < 0 ∧ t < I 37 7)) = 0 then z_go 11 [some (.ref 0), some (.int t), some (.int i)] [] 161 (I, J, RF w) else z_go 14 [some (.ref 0), some (.int t), some (.int i)] [] 161 (I, J, RF w)) (fun _ => rfl) ?_
  refine z_evO (fun h1 => ?_) (fun h1 => ?_)
  · refine z_evL ?_
    refine z_evG 2 (y := some (.inr (some (.int (-2)), 161, I, J, RF w))) (fun _ => rfl) ?_
    exact z_evR rfl
  · refine z_evL ?_
    exact absurd h1 hbad
set_option maxRecDepth 20000 in
/-- LampHouseModel.thingTold -/
theorem m_thingTold_bad (E : zE) (d : Nat) (I : Nat → Nat → Int32) (J : Nat → Nat → Int64) (w : Nat) (t i : Int32) (hbad : ¬ ((¬ t < 0 ∧ ¬ I 127 3 - 1 < t) ∧ (¬ i < 0 ∧ ¬ 5 < i))) : z_cl E (d + 5) 188 [.ref 127, .int t, .int i] (161, I, J, RF w) = some (some (.int (-2)), 161, I, J, RF w) := by
  refine z_call (d := d + 4) (M := z_m188) rfl rfl ?_
  refine z_evG 3 (y := z_ret (z_cl E (d + 4) 183 [.ref 127, .int t] (161, (I, J, RF w))) 5 [some (.ref 127), some (.int t), some (.int i)] []) (fun _ => rfl) ?_
  refine z_evK (v := .int (z_bo (¬ t < 0 ∧ ¬ I 127 3 - 1 < t))) (z' := 161) (σ' := (I, J, RF w)) (m_isThing E (d + 2) I J w t) ?_
  refine z_evG 1 (y := if (z_bo (¬ t < 0 ∧ ¬ I 127 3 - 1 < t)) = 0 then z_go 17 [some (.ref 127), some (.int t), some (.int i)] [] 161 (I, J, RF w) else z_go 8 [some (.ref 127), some (.int t), some (.int i)] [] 161 (I, J, RF w)) (fun _ => rfl) ?_
  refine z_evO (fun h1 => ?_) (fun h1 => ?_)
  · refine z_evL ?_
    refine z_evG 2 (y := some (.inr (some (.int (-2)), 161, I, J, RF w))) (fun _ => rfl) ?_
    exact z_evR rfl
  · refine z_evL ?_
    refine z_evG 4 (y := z_ret (z_cl E (d + 4) 178 [.int i, .int 0, .int 5] (161, (I, J, RF w))) 14 [some (.ref 127), some (.int t), some (.int i)] []) (fun _ => rfl) ?_
    refine z_evK (v := .int (z_bo (¬ i < 0 ∧ ¬ 5 < i))) (z' := 161) (σ' := (I, J, RF w)) (m_in E (d + 3) I J w i 0 5) ?_
    refine z_evG 1 (y := if (z_bo (¬ i < 0 ∧ ¬ 5 < i)) = 0 then z_go 17 [some (.ref 127), some (.int t), some (.int i)] [] 161 (I, J, RF w) else z_go 20 [some (.ref 127), some (.int t), some (.int i)] [] 161 (I, J, RF w)) (fun _ => rfl) ?_
    refine z_evO (fun h2 => ?_) (fun h2 => ?_)
    · refine z_evL ?_
      refine z_evG 2 (y := some (.inr (some (.int (-2)), 161, I, J, RF w))) (fun _ => rfl) ?_
      exact z_evR rfl
    · refine z_evL ?_
      exact absurd ⟨h1, h2⟩ hbad
set_option maxRecDepth 20000 in
/-- LampHouse.thingTold -/
theorem x_thingTold_badB (E : zE) (d : Nat) (I : Nat → Nat → Int32) (J : Nat → Nat → Int64) (w : Nat) (t n : Nat) (i : Int32) (h_n : I 37 7 = nI n) (hm_n : n ≤ 20) (hl_t : t < n) (hb : i.toInt < 0 ∨ 5 < i.toInt) : z_cl E (d + 5) 132 [.ref 0, .int (nI t), .int i] (161, I, J, RF w) = some (some (.int (-2)), 161, I, J, RF w) := by
  refine z_call (d := d + 4) (M := z_m132) rfl rfl ?_
  refine z_evG 4 (y := z_ret (z_cl E (d + 4) 108 [.ref 37, .int (nI t)] (161, (I, J, RF w))) 8 [some (.ref 0), some (.int (nI t)), some (.int i)] []) (fun _ => rfl) ?_
  refine z_evK (v := .int (z_bo (¬ (nI t) < 0 ∧ (nI t) < I 37 7))) (z' := 161) (σ' := (I, J, RF w)) (x_things_has E (d + 3) I J w (nI t)) ?_
  refine z_evG 1 (y := if (z_bo (¬ (nI t) < 0 ∧ (nI t) < I 37 7)) = 0 then z_go 11 [some (.ref 0), some (.int (nI t)), some (.int i)] [] 161 (I, J, RF w) else z_go 14 [some (.ref 0), some (.int (nI t)), some (.int i)] [] 161 (I, J, RF w)) (fun _ => rfl) ?_
  refine z_evF (fun q0 => z_bo_0.mp q0 ⟨nI_pos (by omega), (show _ ↔ t < n from z_ltN rfl h_n (by omega) (by omega)).mpr (by omega)⟩) ?_
  refine z_evL ?_
  refine z_evG 2 (y := if i.toInt < 0 ∨ 5 < i.toInt then z_go 110 [some (.ref 0), some (.int (nI t)), some (.int i)] [] 161 (I, J, RF w) else z_sw ([110, 52, 61, 70, 79, 88, 97] : List Nat)[(i.toInt - 0).toNat + 1]? [some (.ref 0), some (.int (nI t)), some (.int i)] [] 161 (I, J, RF w)) (fun _ => rfl) ?_
  refine z_evT hb ?_
  refine z_evL ?_
  refine z_evG 2 (y := some (.inr (some (.int (-2)), 161, I, J, RF w))) (fun _ => rfl) ?_
  exact z_evR rfl
