-- STILL and THINGTOLD 5
set_option maxRecDepth 20000 in
/-- LampHouse$Things.stillNow -/
theorem x_stillNow (E : zE) (d : Nat) (I : Nat → Nat → Int32) (J : Nat → Nat → Int64) (w : Nat) (t n : Nat) (h : Int32) (h_n : I 33 3 = nI n) (hm_n : n ≤ 40) (hl_t : t < 20) : z_cl E (d + 3) 118 [.ref 37, .int (nI t), .int h] (161, I, J, RF w) = some (some (.int (s_anX (I 35) (I 36) (h - (I 41 t)) (s_SX (I 34) (I 35) (nI t) (h - (I 41 t)) n))), 161, I, J, RF w) := by
  refine z_call (d := d + 2) (M := z_m118) rfl rfl ?_
  refine z_evG 8 (y := z_ild (z_ia E 161 (I, J, RF w) 41) (nI t) fun vv => z_go 12 [some (.ref 37), some (.int (nI t)), some (.int h)] [.int vv, .int h, .int (nI t), .ref 33] 161 (I, J, RF w)) (fun _ => rfl) ?_
  refine z_evBn (N := 20) (f := (I 41)) (k := t) rfl rfl (by omega) ?_
  refine z_evL ?_
  refine z_evG 2 (y := z_ret (z_cl E (d + 2) 4 [.ref 33, .int (nI t), .int (h - (I 41 t))] (161, (I, J, RF w))) 16 [some (.ref 37), some (.int (nI t)), some (.int h)] []) (fun _ => rfl) ?_
  refine z_evK (v := .int (s_anX (I 35) (I 36) (h - (I 41 t)) (s_SX (I 34) (I 35) (nI t) (h - (I 41 t)) n))) (z' := 161) (σ' := (I, J, RF w)) (x_stillAt E d I J w t n (h - (I 41 t)) h_n (by omega) (by omega)) ?_
  refine z_evG 1 (y := some (.inr (some (.int (s_anX (I 35) (I 36) (h - (I 41 t)) (s_SX (I 34) (I 35) (nI t) (h - (I 41 t)) n))), 161, I, J, RF w))) (fun _ => rfl) ?_
  exact z_evR rfl
set_option maxRecDepth 20000 in
/-- LampHouse.thingTold -/
theorem x_thingTold_5 (E : zE) (d : Nat) (I : Nat → Nat → Int32) (J : Nat → Nat → Int64) (w : Nat) (t n m : Nat) (h_n : I 33 3 = nI n) (hm_n : n ≤ 40) (h_m : I 37 7 = nI m) (hm_m : m ≤ 20) (hl_t : t < m) : z_cl E (d + 5) 132 [.ref 0, .int (nI t), .int 5] (161, I, J, RF w) = some (some (.int (s_anX (I 35) (I 36) ((I 0 13) - (I 41 t)) (s_SX (I 34) (I 35) (nI t) ((I 0 13) - (I 41 t)) n))), 161, I, J, RF w) := by
  refine z_call (d := d + 4) (M := z_m132) rfl rfl ?_
  refine z_evG 4 (y := z_ret (z_cl E (d + 4) 108 [.ref 37, .int (nI t)] (161, (I, J, RF w))) 8 [some (.ref 0), some (.int (nI t)), some (.int 5)] []) (fun _ => rfl) ?_
  refine z_evK (v := .int (z_bo (¬ (nI t) < 0 ∧ (nI t) < I 37 7))) (z' := 161) (σ' := (I, J, RF w)) (x_things_has E (d + 3) I J w (nI t)) ?_
  refine z_evG 1 (y := if (z_bo (¬ (nI t) < 0 ∧ (nI t) < I 37 7)) = 0 then z_go 11 [some (.ref 0), some (.int (nI t)), some (.int 5)] [] 161 (I, J, RF w) else z_go 14 [some (.ref 0), some (.int (nI t)), some (.int 5)] [] 161 (I, J, RF w)) (fun _ => rfl) ?_
  refine z_evF (fun q0 => z_bo_0.mp q0 ⟨nI_pos (by omega), (show _ ↔ t < m from z_ltN rfl h_m (by omega) (by omega)).mpr (by omega)⟩) ?_
  refine z_evL ?_
  refine z_evG 8 (y := z_ret (z_cl E (d + 4) 118 [.ref 37, .int (nI t), .int (I 0 13)] (161, (I, J, RF w))) 109 [some (.ref 0), some (.int (nI t)), some (.int 5)] []) (fun _ => rfl) ?_
  refine z_evK (v := .int (s_anX (I 35) (I 36) ((I 0 13) - (I 41 t)) (s_SX (I 34) (I 35) (nI t) ((I 0 13) - (I 41 t)) n))) (z' := 161) (σ' := (I, J, RF w)) (x_stillNow E (d + 1) I J w t n (I 0 13) h_n (by omega) (by omega)) ?_
  refine z_evG 1 (y := some (.inr (some (.int (s_anX (I 35) (I 36) ((I 0 13) - (I 41 t)) (s_SX (I 34) (I 35) (nI t) ((I 0 13) - (I 41 t)) n))), 161, I, J, RF w))) (fun _ => rfl) ?_
  exact z_evR rfl
set_option maxRecDepth 20000 in
/-- LampHouseModel.thingTold -/
theorem m_thingTold_5 (E : zE) (d : Nat) (I : Nat → Nat → Int32) (J : Nat → Nat → Int64) (w : Nat) (t n m : Nat) (h_n : I 127 47 = nI n) (hm_n : n ≤ 40) (h_m : I 127 3 = nI m) (hm_m : m ≤ 20) (hl_t : t < m) : z_cl E (d + 5) 188 [.ref 127, .int (nI t), .int 5] (161, I, J, RF w) = some (some (.int (s_anM (I 153) (I 154) ((I 127 0) - (I 132 t)) (s_SM (I 152) (I 153) (nI t) ((I 127 0) - (I 132 t)) n))), 161, I, J, RF w) := by
  refine z_call (d := d + 4) (M := z_m188) rfl rfl ?_
  refine z_evG 3 (y := z_ret (z_cl E (d + 4) 183 [.ref 127, .int (nI t)] (161, (I, J, RF w))) 5 [some (.ref 127), some (.int (nI t)), some (.int 5)] []) (fun _ => rfl) ?_
  refine z_evK (v := .int (z_bo (¬ (nI t) < 0 ∧ ¬ I 127 3 - 1 < (nI t)))) (z' := 161) (σ' := (I, J, RF w)) (m_isThing E (d + 2) I J w (nI t)) ?_
  refine z_evG 1 (y := if (z_bo (¬ (nI t) < 0 ∧ ¬ I 127 3 - 1 < (nI t))) = 0 then z_go 17 [some (.ref 127), some (.int (nI t)), some (.int 5)] [] 161 (I, J, RF w) else z_go 8 [some (.ref 127), some (.int (nI t)), some (.int 5)] [] 161 (I, J, RF w)) (fun _ => rfl) ?_
  refine z_evF (fun q0 => z_bo_0.mp q0 ⟨nI_pos (by omega), z_plt h_m rfl (by omega) (by omega)⟩) ?_
  refine z_evL ?_
  refine z_evG 4 (y := z_ret (z_cl E (d + 4) 178 [.int 5, .int 0, .int 5] (161, (I, J, RF w))) 14 [some (.ref 127), some (.int (nI t)), some (.int 5)] []) (fun _ => rfl) ?_
  refine z_evK (v := .int (z_bo (¬ 5 < 0 ∧ ¬ 5 < 5))) (z' := 161) (σ' := (I, J, RF w)) (m_in E (d + 3) I J w 5 0 5) ?_
  refine z_evG 1 (y := if (z_bo (¬ 5 < 0 ∧ ¬ 5 < 5)) = 0 then z_go 17 [some (.ref 127), some (.int (nI t)), some (.int 5)] [] 161 (I, J, RF w) else z_go 20 [some (.ref 127), some (.int (nI t)), some (.int 5)] [] 161 (I, J, RF w)) (fun _ => rfl) ?_
  refine z_evF (by decide) ?_
  refine z_evL ?_
  refine z_evG 10 (y := z_ild (z_ia E 161 (I, J, RF w) 132) (nI t) fun vv => z_go 103 [some (.ref 127), some (.int (nI t)), some (.int 5)] [.int vv, .int (I 127 0), .int (nI t), .ref 127] 161 (I, J, RF w)) (fun _ => rfl) ?_
  refine z_evBn (N := 20) (f := (I 132)) (k := t) rfl rfl (by omega) ?_
  refine z_evL ?_
  refine z_evG 2 (y := z_ret (z_cl E (d + 4) 234 [.ref 127, .int (nI t), .int ((I 127 0) - (I 132 t))] (161, (I, J, RF w))) 107 [some (.ref 127), some (.int (nI t)), some (.int 5)] []) (fun _ => rfl) ?_
  refine z_evK (v := .int (s_anM (I 153) (I 154) ((I 127 0) - (I 132 t)) (s_SM (I 152) (I 153) (nI t) ((I 127 0) - (I 132 t)) n))) (z' := 161) (σ' := (I, J, RF w)) (m_stillAt E (d + 3) I J w t n ((I 127 0) - (I 132 t)) h_n (by omega) (by omega)) ?_
  refine z_evG 1 (y := some (.inr (some (.int (s_anM (I 153) (I 154) ((I 127 0) - (I 132 t)) (s_SM (I 152) (I 153) (nI t) ((I 127 0) - (I 132 t)) n))), 161, I, J, RF w))) (fun _ => rfl) ?_
  exact z_evR rfl
set_option maxRecDepth 20000 in
/-- LampHouse.still -/
theorem x_still_bad (E : zE) (d : Nat) (I : Nat → Nat → Int32) (J : Nat → Nat → Int64) (w : Nat) (t h : Int32) (hbad : ¬ ((¬ t < 0 ∧ t < I 37 7) ∧ (¬ h < 0 ∧ ¬ 9999 < h))) : z_cl E (d + 3) 153 [.ref 0, .int t, .int h] (161, I, J, RF w) = some (some (.int (-2)), 161, I, J, RF w) := by
  refine z_call (d := d + 2) (M := z_m153) rfl rfl ?_
  refine z_evG 4 (y := z_ret (z_cl E (d + 2) 108 [.ref 37, .int t] (161, (I, J, RF w))) 8 [some (.ref 0), some (.int t), some (.int h)] []) (fun _ => rfl) ?_
  refine z_evK (v := .int (z_bo (¬ t < 0 ∧ t < I 37 7))) (z' := 161) (σ' := (I, J, RF w)) (x_things_has E (d + 1) I J w t) ?_
  refine z_evG 1 (y := if (z_bo (¬ t < 0 ∧ t < I 37 7)) = 0 then z_go 30 [some (.ref 0), some (.int t), some (.int h)] [] 161 (I, J, RF w) else z_go 11 [some (.ref 0), some (.int t), some (.int h)] [] 161 (I, J, RF w)) (fun _ => rfl) ?_
  refine z_evO (fun h1 => ?_) (fun h1 => ?_)
  · refine z_evL ?_
    refine z_evG 2 (y := some (.inr (some (.int (-2)), 161, I, J, RF w))) (fun _ => rfl) ?_
    exact z_evR rfl
  · refine z_evL ?_
    refine z_evG 2 (y := z_ret (z_cl E (d + 2) 173 [.int h] (161, (I, J, RF w))) 15 [some (.ref 0), some (.int t), some (.int h)] []) (fun _ => rfl) ?_
    refine z_evK (v := .int (z_bo (¬ h < 0 ∧ ¬ 9999 < h))) (z' := 161) (σ' := (I, J, RF w)) (x_isHour E (d + 1) I J w h) ?_
    refine z_evG 1 (y := if (z_bo (¬ h < 0 ∧ ¬ 9999 < h)) = 0 then z_go 30 [some (.ref 0), some (.int t), some (.int h)] [] 161 (I, J, RF w) else z_go 18 [some (.ref 0), some (.int t), some (.int h)] [] 161 (I, J, RF w)) (fun _ => rfl) ?_
    refine z_evO (fun h2 => ?_) (fun h2 => ?_)
    · refine z_evL ?_
      refine z_evG 2 (y := some (.inr (some (.int (-2)), 161, I, J, RF w))) (fun _ => rfl) ?_
      exact z_evR rfl
    · refine z_evL ?_
      exact absurd ⟨h1, h2⟩ hbad
set_option maxRecDepth 20000 in
/-- LampHouseModel.still -/
theorem m_still_bad (E : zE) (d : Nat) (I : Nat → Nat → Int32) (J : Nat → Nat → Int64) (w : Nat) (t h : Int32) (hbad : ¬ ((¬ t < 0 ∧ ¬ I 127 3 - 1 < t) ∧ (¬ h < 0 ∧ ¬ 9999 < h))) : z_cl E (d + 5) 235 [.ref 127, .int t, .int h] (161, I, J, RF w) = some (some (.int (-2)), 161, I, J, RF w) := by
  refine z_call (d := d + 4) (M := z_m235) rfl rfl ?_
  refine z_evG 3 (y := z_ret (z_cl E (d + 4) 183 [.ref 127, .int t] (161, (I, J, RF w))) 5 [some (.ref 127), some (.int t), some (.int h)] []) (fun _ => rfl) ?_
  refine z_evK (v := .int (z_bo (¬ t < 0 ∧ ¬ I 127 3 - 1 < t))) (z' := 161) (σ' := (I, J, RF w)) (m_isThing E (d + 2) I J w t) ?_
  refine z_evG 1 (y := if (z_bo (¬ t < 0 ∧ ¬ I 127 3 - 1 < t)) = 0 then z_go 28 [some (.ref 127), some (.int t), some (.int h)] [] 161 (I, J, RF w) else z_go 8 [some (.ref 127), some (.int t), some (.int h)] [] 161 (I, J, RF w)) (fun _ => rfl) ?_
  refine z_evO (fun h1 => ?_) (fun h1 => ?_)
  · refine z_evL ?_
    refine z_evG 2 (y := some (.inr (some (.int (-2)), 161, I, J, RF w))) (fun _ => rfl) ?_
    exact z_evR rfl
  · refine z_evL ?_
    refine z_evG 4 (y := z_ret (z_cl E (d + 4) 178 [.int h, .int 0, .int 9999] (161, (I, J, RF w))) 16 [some (.ref 127), some (.int t), some (.int h)] []) (fun _ => rfl) ?_
    refine z_evK (v := .int (z_bo (¬ h < 0 ∧ ¬ 9999 < h))) (z' := 161) (σ' := (I, J, RF w)) (m_in E (d + 3) I J w h 0 9999) ?_
    refine z_evG 1 (y := if (z_bo (¬ h < 0 ∧ ¬ 9999 < h)) = 0 then z_go 28 [some (.ref 127), some (.int t), some (.int h)] [] 161 (I, J, RF w) else z_go 19 [some (.ref 127), some (.int t), some (.int h)] [] 161 (I, J, RF w)) (fun _ => rfl) ?_
    refine z_evO (fun h2 => ?_) (fun h2 => ?_)
    · refine z_evL ?_
      refine z_evG 2 (y := some (.inr (some (.int (-2)), 161, I, J, RF w))) (fun _ => rfl) ?_
      exact z_evR rfl
    · refine z_evL ?_
      refine z_evG 1 (y := z_go 20 [some (.ref 127), some (.int t), some (.int h)] [.ref 127] 161 (I, J, RF w)) (fun _ => rfl) ?_
      refine z_evL ?_
      exact absurd ⟨h1, h2⟩ hbad
set_option maxRecDepth 20000 in
/-- LampHouse.still -/
theorem x_still_ok (E : zE) (d : Nat) (I : Nat → Nat → Int32) (J : Nat → Nat → Int64) (w : Nat) (t h n m : Nat) (h_n : I 33 3 = nI n) (hm_n : n ≤ 40) (h_m : I 37 7 = nI m) (hm_m : m ≤ 20) (hl_t : t < m) (hl_h : h < 10000) : z_cl E (d + 3) 153 [.ref 0, .int (nI t), .int (nI h)] (161, I, J, RF w) = some (some (.int (s_anX (I 35) (I 36) (nI h) (s_SX (I 34) (I 35) (nI t) (nI h) n))), 161, I, J, RF w) := by
  refine z_call (d := d + 2) (M := z_m153) rfl rfl ?_
  refine z_evG 4 (y := z_ret (z_cl E (d + 2) 108 [.ref 37, .int (nI t)] (161, (I, J, RF w))) 8 [some (.ref 0), some (.int (nI t)), some (.int (nI h))] []) (fun _ => rfl) ?_
  refine z_evK (v := .int (z_bo (¬ (nI t) < 0 ∧ (nI t) < I 37 7))) (z' := 161) (σ' := (I, J, RF w)) (x_things_has E (d + 1) I J w (nI t)) ?_
  refine z_evG 1 (y := if (z_bo (¬ (nI t) < 0 ∧ (nI t) < I 37 7)) = 0 then z_go 30 [some (.ref 0), some (.int (nI t)), some (.int (nI h))] [] 161 (I, J, RF w) else z_go 11 [some (.ref 0), some (.int (nI t)), some (.int (nI h))] [] 161 (I, J, RF w)) (fun _ => rfl) ?_
  refine z_evF (fun q0 => z_bo_0.mp q0 ⟨(mt (show _ ↔ t < 0 from z_ltN rfl rfl (by omega) (by omega)).mp (by omega)), ((show _ ↔ t < m from z_ltN rfl h_m (by omega) (by omega)).mpr (by omega))⟩) ?_
  refine z_evL ?_
  refine z_evG 2 (y := z_ret (z_cl E (d + 2) 173 [.int (nI h)] (161, (I, J, RF w))) 15 [some (.ref 0), some (.int (nI t)), some (.int (nI h))] []) (fun _ => rfl) ?_
  refine z_evK (v := .int (z_bo (¬ (nI h) < 0 ∧ ¬ 9999 < (nI h)))) (z' := 161) (σ' := (I, J, RF w)) (x_isHour E (d + 1) I J w (nI h)) ?_
  refine z_evG 1 (y := if (z_bo (¬ (nI h) < 0 ∧ ¬ 9999 < (nI h))) = 0 then z_go 30 [some (.ref 0), some (.int (nI t)), some (.int (nI h))] [] 161 (I, J, RF w) else z_go 18 [some (.ref 0), some (.int (nI t)), some (.int (nI h))] [] 161 (I, J, RF w)) (fun _ => rfl) ?_
  refine z_evF (fun q0 => z_bo_0.mp q0 ⟨(mt (show _ ↔ h < 0 from z_ltN rfl rfl (by omega) (by omega)).mp (by omega)), (mt (show _ ↔ 9999 < h from z_ltN rfl rfl (by omega) (by omega)).mp (by omega))⟩) ?_
  refine z_evL ?_
  refine z_evG 5 (y := z_ret (z_cl E (d + 2) 4 [.ref 33, .int (nI t), .int (nI h)] (161, (I, J, RF w))) 27 [some (.ref 0), some (.int (nI t)), some (.int (nI h))] []) (fun _ => rfl) ?_
  refine z_evK (v := .int (s_anX (I 35) (I 36) (nI h) (s_SX (I 34) (I 35) (nI t) (nI h) n))) (z' := 161) (σ' := (I, J, RF w)) (x_stillAt E d I J w t n (nI h) h_n (by omega) (by omega)) ?_
  refine z_evG 2 (y := some (.inr (some (.int (s_anX (I 35) (I 36) (nI h) (s_SX (I 34) (I 35) (nI t) (nI h) n))), 161, I, J, RF w))) (fun _ => rfl) ?_
  exact z_evR rfl
set_option maxRecDepth 20000 in
/-- LampHouseModel.still -/
theorem m_still_ok (E : zE) (d : Nat) (I : Nat → Nat → Int32) (J : Nat → Nat → Int64) (w : Nat) (t h n m : Nat) (h_n : I 127 47 = nI n) (hm_n : n ≤ 40) (h_m : I 127 3 = nI m) (hm_m : m ≤ 20) (hl_t : t < m) (hl_h : h < 10000) : z_cl E (d + 5) 235 [.ref 127, .int (nI t), .int (nI h)] (161, I, J, RF w) = some (some (.int (s_anM (I 153) (I 154) (nI h) (s_SM (I 152) (I 153) (nI t) (nI h) n))), 161, I, J, RF w) := by
  refine z_call (d := d + 4) (M := z_m235) rfl rfl ?_
  refine z_evG 3 (y := z_ret (z_cl E (d + 4) 183 [.ref 127, .int (nI t)] (161, (I, J, RF w))) 5 [some (.ref 127), some (.int (nI t)), some (.int (nI h))] []) (fun _ => rfl) ?_
  refine z_evK (v := .int (z_bo (¬ (nI t) < 0 ∧ ¬ I 127 3 - 1 < (nI t)))) (z' := 161) (σ' := (I, J, RF w)) (m_isThing E (d + 2) I J w (nI t)) ?_
  refine z_evG 1 (y := if (z_bo (¬ (nI t) < 0 ∧ ¬ I 127 3 - 1 < (nI t))) = 0 then z_go 28 [some (.ref 127), some (.int (nI t)), some (.int (nI h))] [] 161 (I, J, RF w) else z_go 8 [some (.ref 127), some (.int (nI t)), some (.int (nI h))] [] 161 (I, J, RF w)) (fun _ => rfl) ?_
  refine z_evF (fun q0 => z_bo_0.mp q0 ⟨(mt (show _ ↔ t < 0 from z_ltN rfl rfl (by omega) (by omega)).mp (by omega)), (z_plt h_m rfl (by omega) (by omega))⟩) ?_
  refine z_evL ?_
  refine z_evG 4 (y := z_ret (z_cl E (d + 4) 178 [.int (nI h), .int 0, .int 9999] (161, (I, J, RF w))) 16 [some (.ref 127), some (.int (nI t)), some (.int (nI h))] []) (fun _ => rfl) ?_
  refine z_evK (v := .int (z_bo (¬ (nI h) < 0 ∧ ¬ 9999 < (nI h)))) (z' := 161) (σ' := (I, J, RF w)) (m_in E (d + 3) I J w (nI h) 0 9999) ?_
  refine z_evG 1 (y := if (z_bo (¬ (nI h) < 0 ∧ ¬ 9999 < (nI h))) = 0 then z_go 28 [some (.ref 127), some (.int (nI t)), some (.int (nI h))] [] 161 (I, J, RF w) else z_go 19 [some (.ref 127), some (.int (nI t)), some (.int (nI h))] [] 161 (I, J, RF w)) (fun _ => rfl) ?_
  refine z_evF (fun q0 => z_bo_0.mp q0 ⟨(mt (show _ ↔ h < 0 from z_ltN rfl rfl (by omega) (by omega)).mp (by omega)), (mt (show _ ↔ 9999 < h from z_ltN rfl rfl (by omega) (by omega)).mp (by omega))⟩) ?_
  refine z_evL ?_
  refine z_evG 4 (y := z_ret (z_cl E (d + 4) 234 [.ref 127, .int (nI t), .int (nI h)] (161, (I, J, RF w))) 25 [some (.ref 127), some (.int (nI t)), some (.int (nI h))] []) (fun _ => rfl) ?_
  refine z_evK (v := .int (s_anM (I 153) (I 154) (nI h) (s_SM (I 152) (I 153) (nI t) (nI h) n))) (z' := 161) (σ' := (I, J, RF w)) (m_stillAt E (d + 3) I J w t n (nI h) h_n (by omega) (by omega)) ?_
  refine z_evG 2 (y := some (.inr (some (.int (s_anM (I 153) (I 154) (nI h) (s_SM (I 152) (I 153) (nI t) (nI h) n))), 161, I, J, RF w))) (fun _ => rfl) ?_
  exact z_evR rfl
