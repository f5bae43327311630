-- THINGTOLD, what stands in cells
set_option maxRecDepth 20000 in
/-- LampHouse.thingTold -/
theorem x_thingTold_0 (E : zE) (d : Nat) (I : Nat → Nat → Int32) (J : Nat → Nat → Int64) (w : Nat) (t n : Nat) (h_n : I 37 7 = nI n) (hm_n : n ≤ 20) (hl_t : t < n) : z_cl E (d + 5) 132 [.ref 0, .int (nI t), .int 0] (161, I, J, RF w) = some (some (.int (I 38 t)), 161, I, J, RF w) := by
  refine z_call (d := d + 4) (M := z_m132) rfl rfl ?_
  refine z_evG 4 (y := z_ret (z_cl E (d + 4) 108 [.ref 37, .int (nI t)] (161, (I, J, RF w))) 8 [some (.ref 0), some (.int (nI t)), some (.int 0)] []) (fun _ => rfl) ?_
  refine z_evK (v := .int (z_bo (¬ (nI t) < 0 ∧ (nI t) < I 37 7))) (z' := 161) (σ' := (I, J, RF w)) (x_things_has E (d + 3) I J w (nI t)) ?_
  refine z_evG 1 (y := if (z_bo (¬ (nI t) < 0 ∧ (nI t) < I 37 7)) = 0 then z_go 11 [some (.ref 0), some (.int (nI t)), some (.int 0)] [] 161 (I, J, RF w) else z_go 14 [some (.ref 0), some (.int (nI t)), some (.int 0)] [] 161 (I, J, RF w)) (fun _ => rfl) ?_
  refine z_evF (fun q0 => z_bo_0.mp q0 ⟨nI_pos (by omega), (show _ ↔ t < n from z_ltN rfl h_n (by omega) (by omega)).mpr (by omega)⟩) ?_
  refine z_evL ?_
  refine z_evG 6 (y := z_ret (z_cl E (d + 4) 113 [.ref 37, .int (nI t)] (161, (I, J, RF w))) 60 [some (.ref 0), some (.int (nI t)), some (.int 0)] []) (fun _ => rfl) ?_
  refine z_evK (v := .int (I 38 t)) (z' := 161) (σ' := (I, J, RF w)) (x_things_kindOfN E (d + 3) I J w t (by omega)) ?_
  refine z_evG 1 (y := some (.inr (some (.int (I 38 t)), 161, I, J, RF w))) (fun _ => rfl) ?_
  exact z_evR rfl
set_option maxRecDepth 20000 in
/-- LampHouse.thingTold -/
theorem x_thingTold_1 (E : zE) (d : Nat) (I : Nat → Nat → Int32) (J : Nat → Nat → Int64) (w : Nat) (t n : Nat) (h_n : I 37 7 = nI n) (hm_n : n ≤ 20) (hl_t : t < n) : z_cl E (d + 5) 132 [.ref 0, .int (nI t), .int 1] (161, I, J, RF w) = some (some (.int (I 39 t)), 161, I, J, RF w) := by
  refine z_call (d := d + 4) (M := z_m132) rfl rfl ?_
  refine z_evG 4 (y := z_ret (z_cl E (d + 4) 108 [.ref 37, .int (nI t)] (161, (I, J, RF w))) 8 [some (.ref 0), some (.int (nI t)), some (.int 1)] []) (fun _ => rfl) ?_
  refine z_evK (v := .int (z_bo (¬ (nI t) < 0 ∧ (nI t) < I 37 7))) (z' := 161) (σ' := (I, J, RF w)) (x_things_has E (d + 3) I J w (nI t)) ?_
  refine z_evG 1 (y := if (z_bo (¬ (nI t) < 0 ∧ (nI t) < I 37 7)) = 0 then z_go 11 [some (.ref 0), some (.int (nI t)), some (.int 1)] [] 161 (I, J, RF w) else z_go 14 [some (.ref 0), some (.int (nI t)), some (.int 1)] [] 161 (I, J, RF w)) (fun _ => rfl) ?_
  refine z_evF (fun q0 => z_bo_0.mp q0 ⟨nI_pos (by omega), (show _ ↔ t < n from z_ltN rfl h_n (by omega) (by omega)).mpr (by omega)⟩) ?_
  refine z_evL ?_
  refine z_evG 6 (y := z_ret (z_cl E (d + 4) 114 [.ref 37, .int (nI t)] (161, (I, J, RF w))) 69 [some (.ref 0), some (.int (nI t)), some (.int 1)] []) (fun _ => rfl) ?_
  refine z_evK (v := .int (I 39 t)) (z' := 161) (σ' := (I, J, RF w)) (x_things_rowUsedN E (d + 3) I J w t (by omega)) ?_
  refine z_evG 1 (y := some (.inr (some (.int (I 39 t)), 161, I, J, RF w))) (fun _ => rfl) ?_
  exact z_evR rfl
set_option maxRecDepth 20000 in
/-- LampHouse.thingTold -/
theorem x_thingTold_2 (E : zE) (d : Nat) (I : Nat → Nat → Int32) (J : Nat → Nat → Int64) (w : Nat) (t n : Nat) (h_n : I 37 7 = nI n) (hm_n : n ≤ 20) (hl_t : t < n) : z_cl E (d + 5) 132 [.ref 0, .int (nI t), .int 2] (161, I, J, RF w) = some (some (.int (I 40 t)), 161, I, J, RF w) := by
  refine z_call (d := d + 4) (M := z_m132) rfl rfl ?_
  refine z_evG 4 (y := z_ret (z_cl E (d + 4) 108 [.ref 37, .int (nI t)] (161, (I, J, RF w))) 8 [some (.ref 0), some (.int (nI t)), some (.int 2)] []) (fun _ => rfl) ?_
  refine z_evK (v := .int (z_bo (¬ (nI t) < 0 ∧ (nI t) < I 37 7))) (z' := 161) (σ' := (I, J, RF w)) (x_things_has E (d + 3) I J w (nI t)) ?_
  refine z_evG 1 (y := if (z_bo (¬ (nI t) < 0 ∧ (nI t) < I 37 7)) = 0 then z_go 11 [some (.ref 0), some (.int (nI t)), some (.int 2)] [] 161 (I, J, RF w) else z_go 14 [some (.ref 0), some (.int (nI t)), some (.int 2)] [] 161 (I, J, RF w)) (fun _ => rfl) ?_
  refine z_evF (fun q0 => z_bo_0.mp q0 ⟨nI_pos (by omega), (show _ ↔ t < n from z_ltN rfl h_n (by omega) (by omega)).mpr (by omega)⟩) ?_
  refine z_evL ?_
  refine z_evG 6 (y := z_ret (z_cl E (d + 4) 115 [.ref 37, .int (nI t)] (161, (I, J, RF w))) 78 [some (.ref 0), some (.int (nI t)), some (.int 2)] []) (fun _ => rfl) ?_
  refine z_evK (v := .int (I 40 t)) (z' := 161) (σ' := (I, J, RF w)) (x_things_numberOfN E (d + 3) I J w t (by omega)) ?_
  refine z_evG 1 (y := some (.inr (some (.int (I 40 t)), 161, I, J, RF w))) (fun _ => rfl) ?_
  exact z_evR rfl
set_option maxRecDepth 20000 in
/-- LampHouse.thingTold -/
theorem x_thingTold_3 (E : zE) (d : Nat) (I : Nat → Nat → Int32) (J : Nat → Nat → Int64) (w : Nat) (t n : Nat) (h_n : I 37 7 = nI n) (hm_n : n ≤ 20) (hl_t : t < n) : z_cl E (d + 5) 132 [.ref 0, .int (nI t), .int 3] (161, I, J, RF w) = some (some (.int (I 41 t)), 161, I, J, RF w) := by
  refine z_call (d := d + 4) (M := z_m132) rfl rfl ?_
  refine z_evG 4 (y := z_ret (z_cl E (d + 4) 108 [.ref 37, .int (nI t)] (161, (I, J, RF w))) 8 [some (.ref 0), some (.int (nI t)), some (.int 3)] []) (fun _ => rfl) ?_
  refine z_evK (v := .int (z_bo (¬ (nI t) < 0 ∧ (nI t) < I 37 7))) (z' := 161) (σ' := (I, J, RF w)) (x_things_has E (d + 3) I J w (nI t)) ?_
  refine z_evG 1 (y := if (z_bo (¬ (nI t) < 0 ∧ (nI t) < I 37 7)) = 0 then z_go 11 [some (.ref 0), some (.int (nI t)), some (.int 3)] [] 161 (I, J, RF w) else z_go 14 [some (.ref 0), some (.int (nI t)), some (.int 3)] [] 161 (I, J, RF w)) (fun _ => rfl) ?_
  refine z_evF (fun q0 => z_bo_0.mp q0 ⟨nI_pos (by omega), (show _ ↔ t < n from z_ltN rfl h_n (by omega) (by omega)).mpr (by omega)⟩) ?_
  refine z_evL ?_
  refine z_evG 6 (y := z_ret (z_cl E (d + 4) 116 [.ref 37, .int (nI t)] (161, (I, J, RF w))) 87 [some (.ref 0), some (.int (nI t)), some (.int 3)] []) (fun _ => rfl) ?_
  refine z_evK (v := .int (I 41 t)) (z' := 161) (σ' := (I, J, RF w)) (x_things_hourToldN E (d + 3) I J w t (by omega)) ?_
  refine z_evG 1 (y := some (.inr (some (.int (I 41 t)), 161, I, J, RF w))) (fun _ => rfl) ?_
  exact z_evR rfl
set_option maxRecDepth 20000 in
/-- LampHouse.thingTold -/
theorem x_thingTold_4 (E : zE) (d : Nat) (I : Nat → Nat → Int32) (J : Nat → Nat → Int64) (w : Nat) (t n : Nat) (h_n : I 37 7 = nI n) (hm_n : n ≤ 20) (hl_t : t < n) : z_cl E (d + 5) 132 [.ref 0, .int (nI t), .int 4] (161, I, J, RF w) = some (some (.int (I 42 t)), 161, I, J, RF w) := by
  refine z_call (d := d + 4) (M := z_m132) rfl rfl ?_
  refine z_evG 4 (y := z_ret (z_cl E (d + 4) 108 [.ref 37, .int (nI t)] (161, (I, J, RF w))) 8 [some (.ref 0), some (.int (nI t)), some (.int 4)] []) (fun _ => rfl) ?_
  refine z_evK (v := .int (z_bo (¬ (nI t) < 0 ∧ (nI t) < I 37 7))) (z' := 161) (σ' := (I, J, RF w)) (x_things_has E (d + 3) I J w (nI t)) ?_
  refine z_evG 1 (y := if (z_bo (¬ (nI t) < 0 ∧ (nI t) < I 37 7)) = 0 then z_go 11 [some (.ref 0), some (.int (nI t)), some (.int 4)] [] 161 (I, J, RF w) else z_go 14 [some (.ref 0), some (.int (nI t)), some (.int 4)] [] 161 (I, J, RF w)) (fun _ => rfl) ?_
  refine z_evF (fun q0 => z_bo_0.mp q0 ⟨nI_pos (by omega), (show _ ↔ t < n from z_ltN rfl h_n (by omega) (by omega)).mpr (by omega)⟩) ?_
  refine z_evL ?_
  refine z_evG 6 (y := z_ret (z_cl E (d + 4) 117 [.ref 37, .int (nI t)] (161, (I, J, RF w))) 96 [some (.ref 0), some (.int (nI t)), some (.int 4)] []) (fun _ => rfl) ?_
  refine z_evK (v := .int (I 42 t)) (z' := 161) (σ' := (I, J, RF w)) (x_things_stepsOfN E (d + 3) I J w t (by omega)) ?_
  refine z_evG 1 (y := some (.inr (some (.int (I 42 t)), 161, I, J, RF w))) (fun _ => rfl) ?_
  exact z_evR rfl
