-- SEEN, SAME, TAKEN
set_option maxRecDepth 20000 in
/-- LampHouse$Eyes.hasTaker -/
theorem x_eyes_hasTakerN (E : zE) (d : Nat) (I : Nat → Nat → Int32) (J : Nat → Nat → Int64) (w : Nat) (i : Nat) (t : Int32) (hk : i < 8) : z_cl E (d + 1) 17 [.ref 65, .int (nI i), .int t] (161, I, J, RF w) = some (some (.int (z_bo (¬ t < 0 ∧ t < I 75 i))), 161, I, J, RF w) := by
  refine z_call (d := d + 0) (M := z_m17) rfl rfl ?_
  refine z_evG 2 (y := if t < 0 then z_go 18 [some (.ref 65), some (.int (nI i)), some (.int t)] [] 161 (I, J, RF w) else z_go 4 [some (.ref 65), some (.int (nI i)), some (.int t)] [] 161 (I, J, RF w)) (fun _ => rfl) ?_
  refine z_evI (fun h1 => ?_) (fun h1 => ?_)
  · refine z_evL ?_
    refine z_evG 2 (y := some (.inr (some (.int 0), 161, I, J, RF w))) (fun _ => rfl) ?_
    exact z_evR (by simp [z_bo, h1])
  · refine z_evL ?_
    refine z_evG 5 (y := z_ild (z_ia E 161 (I, J, RF w) 75) (nI i) fun vv => z_go 11 [some (.ref 65), some (.int (nI i)), some (.int t)] [.int vv, .int t] 161 (I, J, RF w)) (fun _ => rfl) ?_
    refine z_evBn (N := 8) (f := (I 75)) (k := i) rfl rfl (by omega) ?_
    refine z_evL ?_
    refine z_evG 1 (y := if t < (I 75 i) then z_go 14 [some (.ref 65), some (.int (nI i)), some (.int t)] [] 161 (I, J, RF w) else z_go 18 [some (.ref 65), some (.int (nI i)), some (.int t)] [] 161 (I, J, RF w)) (fun _ => rfl) ?_
    refine z_evI (fun h2 => ?_) (fun h2 => ?_)
    · refine z_evL ?_
      refine z_evG 3 (y := some (.inr (some (.int 1), 161, I, J, RF w))) (fun _ => rfl) ?_
      exact z_evR (by simp [z_bo, h1, h2])
    · refine z_evL ?_
      refine z_evG 2 (y := some (.inr (some (.int 0), 161, I, J, RF w))) (fun _ => rfl) ?_
      exact z_evR (by simp [z_bo, h1, h2])
set_option maxRecDepth 20000 in
/-- LampHouse.seen -/
theorem x_seen_badA (E : zE) (d : Nat) (I : Nat → Nat → Int32) (J : Nat → Nat → Int64) (w : Nat) (e t l : Int32) (hbad : ¬ (¬ e < 0 ∧ e < I 65 3)) : z_cl E (d + 3) 138 [.ref 0, .int e, .int t, .int l] (161, I, J, RF w) = some (some (.long (-4611686018427387904)), 161, I, J, RF w) := by
  refine z_call (d := d + 2) (M := z_m138) rfl rfl ?_
  refine z_evG 4 (y := z_ret (z_cl E (d + 2) 15 [.ref 65, .int e] (161, (I, J, RF w))) 8 [some (.ref 0), some (.int e), some (.int t), some (.int l)] []) (fun _ => rfl) ?_
  refine z_evK (v := .int (z_bo (¬ e < 0 ∧ e < I 65 3))) (z' := 161) (σ' := (I, J, RF w)) (x_eyes_has E (d + 1) I J w e) ?_
  refine z_evG 1 (y := if (z_bo (¬ e < 0 ∧ e < I 65 3)) = 0 then z_go 34 [some (.ref 0), some (.int e), some (.int t), some (.int l)] [] 161 (I, J, RF w) else z_go 11 [some (.ref 0), some (.int e), some (.int t), some (.int l)] [] 161 (I, J, RF w)) (fun _ => rfl) ?_
  refine z_evO (fun h1 => ?_) (fun h1 => ?_)
  · refine z_evL ?_
    refine z_evG 2 (y := some (.inr (some (.long (-4611686018427387904)), 161, I, J, RF w))) (fun _ => rfl) ?_
    exact z_evR rfl
  · refine z_evL ?_
    exact absurd h1 hbad
set_option maxRecDepth 20000 in
/-- LampHouseModel.seen -/
theorem m_seen_badA (E : zE) (d : Nat) (I : Nat → Nat → Int32) (J : Nat → Nat → Int64) (w : Nat) (e t l : Int32) (hbad : ¬ (¬ e < 0 ∧ ¬ I 127 11 - 1 < e)) : z_cl E (d + 3) 197 [.ref 127, .int e, .int t, .int l] (161, I, J, RF w) = some (some (.long (-4611686018427387904)), 161, I, J, RF w) := by
  refine z_call (d := d + 2) (M := z_m197) rfl rfl ?_
  refine z_evG 3 (y := z_ret (z_cl E (d + 2) 185 [.ref 127, .int e] (161, (I, J, RF w))) 5 [some (.ref 127), some (.int e), some (.int t), some (.int l)] []) (fun _ => rfl) ?_
  refine z_evK (v := .int (z_bo (¬ e < 0 ∧ ¬ I 127 11 - 1 < e))) (z' := 161) (σ' := (I, J, RF w)) (m_isEye E d I J w e) ?_
  refine z_evG 1 (y := if (z_bo (¬ e < 0 ∧ ¬ I 127 11 - 1 < e)) = 0 then z_go 45 [some (.ref 127), some (.int e), some (.int t), some (.int l)] [] 161 (I, J, RF w) else z_go 8 [some (.ref 127), some (.int e), some (.int t), some (.int l)] [] 161 (I, J, RF w)) (fun _ => rfl) ?_
  refine z_evO (fun h1 => ?_) (fun h1 => ?_)
  · refine z_evL ?_
    refine z_evG 2 (y := some (.inr (some (.long (-4611686018427387904)), 161, I, J, RF w))) (fun _ => rfl) ?_
    exact z_evR rfl
  · refine z_evL ?_
    exact absurd h1 hbad
set_option maxRecDepth 20000 in
/-- LampHouse.seen -/
theorem x_seen_badB (E : zE) (d : Nat) (I : Nat → Nat → Int32) (J : Nat → Nat → Int64) (w : Nat) (e n : Nat) (t l : Int32) (h_n : I 65 3 = nI n) (hm_n : n ≤ 8) (hl_e : e < n) (hbad : ¬ ((¬ t < 0 ∧ t < I 75 e) ∧ (¬ l < 0 ∧ l < I 43 1))) : z_cl E (d + 3) 138 [.ref 0, .int (nI e), .int t, .int l] (161, I, J, RF w) = some (some (.long (-4611686018427387904)), 161, I, J, RF w) := by
  refine z_call (d := d + 2) (M := z_m138) rfl rfl ?_
  refine z_evG 4 (y := z_ret (z_cl E (d + 2) 15 [.ref 65, .int (nI e)] (161, (I, J, RF w))) 8 [some (.ref 0), some (.int (nI e)), some (.int t), some (.int l)] []) (fun _ => rfl) ?_
  refine z_evK (v := .int (z_bo (¬ (nI e) < 0 ∧ (nI e) < I 65 3))) (z' := 161) (σ' := (I, J, RF w)) (x_eyes_has E (d + 1) I J w (nI e)) ?_
  refine z_evG 1 (y := if (z_bo (¬ (nI e) < 0 ∧ (nI e) < I 65 3)) = 0 then z_go 34 [some (.ref 0), some (.int (nI e)), some (.int t), some (.int l)] [] 161 (I, J, RF w) else z_go 11 [some (.ref 0), some (.int (nI e)), some (.int t), some (.int l)] [] 161 (I, J, RF w)) (fun _ => rfl) ?_
  refine z_evF (fun q => z_bo_0.mp q ⟨nI_pos (by omega), (z_ltN rfl h_n (by omega) (by omega)).mpr (by omega)⟩) ?_
  refine z_evL ?_
  refine z_evG 5 (y := z_ret (z_cl E (d + 2) 17 [.ref 65, .int (nI e), .int t] (161, (I, J, RF w))) 20 [some (.ref 0), some (.int (nI e)), some (.int t), some (.int l)] []) (fun _ => rfl) ?_
  refine z_evK (v := .int (z_bo (¬ t < 0 ∧ t < I 75 e))) (z' := 161) (σ' := (I, J, RF w)) (x_eyes_hasTakerN E (d + 1) I J w e t (by omega)) ?_
  refine z_evG 1 (y := if (z_bo (¬ t < 0 ∧ t < I 75 e)) = 0 then z_go 34 [some (.ref 0), some (.int (nI e)), some (.int t), some (.int l)] [] 161 (I, J, RF w) else z_go 23 [some (.ref 0), some (.int (nI e)), some (.int t), some (.int l)] [] 161 (I, J, RF w)) (fun _ => rfl) ?_
  refine z_evO (fun h2 => ?_) (fun h2 => ?_)
  · refine z_evL ?_
    refine z_evG 2 (y := some (.inr (some (.long (-4611686018427387904)), 161, I, J, RF w))) (fun _ => rfl) ?_
    exact z_evR rfl
  · refine z_evL ?_
    refine z_evG 4 (y := z_ret (z_cl E (d + 2) 8 [.ref 43, .int l] (161, (I, J, RF w))) 31 [some (.ref 0), some (.int (nI e)), some (.int t), some (.int l)] []) (fun _ => rfl) ?_
    refine z_evK (v := .int (z_bo (¬ l < 0 ∧ l < I 43 1))) (z' := 161) (σ' := (I, J, RF w)) (x_lights_has E (d + 1) I J w l) ?_
    refine z_evG 1 (y := if (z_bo (¬ l < 0 ∧ l < I 43 1)) = 0 then z_go 34 [some (.ref 0), some (.int (nI e)), some (.int t), some (.int l)] [] 161 (I, J, RF w) else z_go 38 [some (.ref 0), some (.int (nI e)), some (.int t), some (.int l)] [] 161 (I, J, RF w)) (fun _ => rfl) ?_
    refine z_evO (fun h3 => ?_) (fun h3 => ?_)
    · refine z_evL ?_
      refine z_evG 2 (y := some (.inr (some (.long (-4611686018427387904)), 161, I, J, RF w))) (fun _ => rfl) ?_
      exact z_evR rfl
    · refine z_evL ?_
      exact absurd ⟨h2, h3⟩ hbad
set_option maxRecDepth 20000 in
/-- LampHouseModel.seen -/
theorem m_seen_badB (E : zE) (d : Nat) (I : Nat → Nat → Int32) (J : Nat → Nat → Int64) (w : Nat) (e n : Nat) (t l : Int32) (h_n : I 127 11 = nI n) (hm_n : n ≤ 8) (hl_e : e < n) (hbad : ¬ ((¬ t < 0 ∧ ¬ 2 < t) ∧ (t < I 136 e) ∧ (¬ l < 0 ∧ ¬ I 127 9 - 1 < l))) : z_cl E (d + 3) 197 [.ref 127, .int (nI e), .int t, .int l] (161, I, J, RF w) = some (some (.long (-4611686018427387904)), 161, I, J, RF w) := by
  refine z_call (d := d + 2) (M := z_m197) rfl rfl ?_
  refine z_evG 3 (y := z_ret (z_cl E (d + 2) 185 [.ref 127, .int (nI e)] (161, (I, J, RF w))) 5 [some (.ref 127), some (.int (nI e)), some (.int t), some (.int l)] []) (fun _ => rfl) ?_
  refine z_evK (v := .int (z_bo (¬ (nI e) < 0 ∧ ¬ I 127 11 - 1 < (nI e)))) (z' := 161) (σ' := (I, J, RF w)) (m_isEye E d I J w (nI e)) ?_
  refine z_evG 1 (y := if (z_bo (¬ (nI e) < 0 ∧ ¬ I 127 11 - 1 < (nI e))) = 0 then z_go 45 [some (.ref 127), some (.int (nI e)), some (.int t), some (.int l)] [] 161 (I, J, RF w) else z_go 8 [some (.ref 127), some (.int (nI e)), some (.int t), some (.int l)] [] 161 (I, J, RF w)) (fun _ => rfl) ?_
  refine z_evF (fun q => z_bo_0.mp q ⟨nI_pos (by omega), z_plt h_n rfl (by omega) (by omega)⟩) ?_
  refine z_evL ?_
  refine z_evG 4 (y := z_ret (z_cl E (d + 2) 178 [.int t, .int 0, .int 2] (161, (I, J, RF w))) 14 [some (.ref 127), some (.int (nI e)), some (.int t), some (.int l)] []) (fun _ => rfl) ?_
  refine z_evK (v := .int (z_bo (¬ t < 0 ∧ ¬ 2 < t))) (z' := 161) (σ' := (I, J, RF w)) (m_in E (d + 1) I J w t 0 2) ?_
  refine z_evG 1 (y := if (z_bo (¬ t < 0 ∧ ¬ 2 < t)) = 0 then z_go 45 [some (.ref 127), some (.int (nI e)), some (.int t), some (.int l)] [] 161 (I, J, RF w) else z_go 17 [some (.ref 127), some (.int (nI e)), some (.int t), some (.int l)] [] 161 (I, J, RF w)) (fun _ => rfl) ?_
  refine z_evO (fun h2 => ?_) (fun h2 => ?_)
  · refine z_evL ?_
    refine z_evG 2 (y := some (.inr (some (.long (-4611686018427387904)), 161, I, J, RF w))) (fun _ => rfl) ?_
    exact z_evR rfl
  · refine z_evL ?_
    refine z_evG 5 (y := z_ild (z_ia E 161 (I, J, RF w) 136) (nI e) fun vv => z_go 24 [some (.ref 127), some (.int (nI e)), some (.int t), some (.int l)] [.int vv, .int t] 161 (I, J, RF w)) (fun _ => rfl) ?_
    refine z_evBn (N := 8) (f := (I 136)) (k := e) rfl rfl (by omega) ?_
    refine z_evL ?_
    refine z_evG 1 (y := if t < (I 136 e) then z_go 27 [some (.ref 127), some (.int (nI e)), some (.int t), some (.int l)] [] 161 (I, J, RF w) else z_go 45 [some (.ref 127), some (.int (nI e)), some (.int t), some (.int l)] [] 161 (I, J, RF w)) (fun _ => rfl) ?_
    refine z_evI (fun h3 => ?_) (fun h3 => ?_)
    · refine z_evL ?_
      refine z_evG 3 (y := z_ret (z_cl E (d + 2) 184 [.ref 127, .int l] (161, (I, J, RF w))) 32 [some (.ref 127), some (.int (nI e)), some (.int t), some (.int l)] []) (fun _ => rfl) ?_
      refine z_evK (v := .int (z_bo (¬ l < 0 ∧ ¬ I 127 9 - 1 < l))) (z' := 161) (σ' := (I, J, RF w)) (m_isLight E d I J w l) ?_
      refine z_evG 1 (y := if (z_bo (¬ l < 0 ∧ ¬ I 127 9 - 1 < l)) = 0 then z_go 45 [some (.ref 127), some (.int (nI e)), some (.int t), some (.int l)] [] 161 (I, J, RF w) else z_go 35 [some (.ref 127), some (.int (nI e)), some (.int t), some (.int l)] [] 161 (I, J, RF w)) (fun _ => rfl) ?_
      refine z_evO (fun h4 => ?_) (fun h4 => ?_)
      · refine z_evL ?_
        refine z_evG 2 (y := some (.inr (some (.long (-4611686018427387904)), 161, I, J, RF w))) (fun _ => rfl) ?_
        exact z_evR rfl
      · refine z_evL ?_
        exact absurd ⟨h2, h3, h4⟩ hbad
    · refine z_evL ?_
      refine z_evG 2 (y := some (.inr (some (.long (-4611686018427387904)), 161, I, J, RF w))) (fun _ => rfl) ?_
      exact z_evR rfl
set_option maxRecDepth 20000 in
/-- LampHouse.seen -/
theorem x_seen_ok (E : zE) (d : Nat) (I : Nat → Nat → Int32) (J : Nat → Nat → Int64) (w : Nat) (e t l n m q r : Nat) (h_n : I 65 3 = nI n) (hm_n : n ≤ 8) (h_m : I 43 1 = nI m) (hm_m : m ≤ 20) (h_q : I 75 e = nI q) (hm_q : q ≤ 3) (hr : I (67 + e) t = nI r) (hl_r : r < 30) (hl_e : e < n) (hl_t : t < q) (hl_l : l < m) : z_cl E (d + 3) 138 [.ref 0, .int (nI e), .int (nI t), .int (nI l)] (161, I, J, RF w) = some (some (.long (z_see (I (45 + l)) (I (3 + r)))), 161, I, J, RF w) := by
  refine z_call (d := d + 2) (M := z_m138) rfl rfl ?_
  refine z_evG 4 (y := z_ret (z_cl E (d + 2) 15 [.ref 65, .int (nI e)] (161, (I, J, RF w))) 8 [some (.ref 0), some (.int (nI e)), some (.int (nI t)), some (.int (nI l))] []) (fun _ => rfl) ?_
  refine z_evK (v := .int (z_bo (¬ (nI e) < 0 ∧ (nI e) < I 65 3))) (z' := 161) (σ' := (I, J, RF w)) (x_eyes_has E (d + 1) I J w (nI e)) ?_
  refine z_evG 1 (y := if (z_bo (¬ (nI e) < 0 ∧ (nI e) < I 65 3)) = 0 then z_go 34 [some (.ref 0), some (.int (nI e)), some (.int (nI t)), some (.int (nI l))] [] 161 (I, J, RF w) else z_go 11 [some (.ref 0), some (.int (nI e)), some (.int (nI t)), some (.int (nI l))] [] 161 (I, J, RF w)) (fun _ => rfl) ?_
  refine z_evF (fun q0 => z_bo_0.mp q0 ⟨(mt (show _ ↔ e < 0 from z_ltN rfl rfl (by omega) (by omega)).mp (by omega)), ((show _ ↔ e < n from z_ltN rfl h_n (by omega) (by omega)).mpr (by omega))⟩) ?_
  refine z_evL ?_
  refine z_evG 5 (y := z_ret (z_cl E (d + 2) 17 [.ref 65, .int (nI e), .int (nI t)] (161, (I, J, RF w))) 20 [some (.ref 0), some (.int (nI e)), some (.int (nI t)), some (.int (nI l))] []) (fun _ => rfl) ?_
  refine z_evK (v := .int (z_bo (¬ (nI t) < 0 ∧ (nI t) < I 75 e))) (z' := 161) (σ' := (I, J, RF w)) (x_eyes_hasTakerN E (d + 1) I J w e (nI t) (by omega)) ?_
  refine z_evG 1 (y := if (z_bo (¬ (nI t) < 0 ∧ (nI t) < I 75 e)) = 0 then z_go 34 [some (.ref 0), some (.int (nI e)), some (.int (nI t)), some (.int (nI l))] [] 161 (I, J, RF w) else z_go 23 [some (.ref 0), some (.int (nI e)), some (.int (nI t)), some (.int (nI l))] [] 161 (I, J, RF w)) (fun _ => rfl) ?_
  refine z_evF (fun q0 => z_bo_0.mp q0 ⟨(mt (show _ ↔ t < 0 from z_ltN rfl rfl (by omega) (by omega)).mp (by omega)), ((show _ ↔ t < q from z_ltN rfl h_q (by omega) (by omega)).mpr (by omega))⟩) ?_
  refine z_evL ?_
  refine z_evG 4 (y := z_ret (z_cl E (d + 2) 8 [.ref 43, .int (nI l)] (161, (I, J, RF w))) 31 [some (.ref 0), some (.int (nI e)), some (.int (nI t)), some (.int (nI l))] []) (fun _ => rfl) ?_
  refine z_evK (v := .int (z_bo (¬ (nI l) < 0 ∧ (nI l) < I 43 1))) (z' := 161) (σ' := (I, J, RF w)) (x_lights_has E (d + 1) I J w (nI l)) ?_
  refine z_evG 1 (y := if (z_bo (¬ (nI l) < 0 ∧ (nI l) < I 43 1)) = 0 then z_go 34 [some (.ref 0), some (.int (nI e)), some (.int (nI t)), some (.int (nI l))] [] 161 (I, J, RF w) else z_go 38 [some (.ref 0), some (.int (nI e)), some (.int (nI t)), some (.int (nI l))] [] 161 (I, J, RF w)) (fun _ => rfl) ?_
  refine z_evF (fun q0 => z_bo_0.mp q0 ⟨(mt (show _ ↔ l < 0 from z_ltN rfl rfl (by omega) (by omega)).mp (by omega)), ((show _ ↔ l < m from z_ltN rfl h_m (by omega) (by omega)).mpr (by omega))⟩) ?_
  refine z_evL ?_
  refine z_evG 8 (y := z_ret (z_cl E (d + 2) 11 [.ref 43, .int (nI l)] (161, (I, J, RF w))) 52 [some (.ref 0), some (.int (nI e)), some (.int (nI t)), some (.int (nI l))] [.int (nI t), .int (nI e), .ref 65]) (fun _ => rfl) ?_
  refine z_evK (v := .ref (45 + l)) (z' := 161) (σ' := (I, J, RF w)) (x_lights_getN E (d + 1) I J w l (by omega)) ?_
  refine z_evG 1 (y := z_ret (z_cl E (d + 2) 21 [.ref 65, .int (nI e), .int (nI t), .ref (45 + l)] (161, (I, J, RF w))) 55 [some (.ref 0), some (.int (nI e)), some (.int (nI t)), some (.int (nI l))] []) (fun _ => rfl) ?_
  refine z_evK (v := .long (z_see (I (45 + l)) (I (3 + r)))) (z' := 161) (σ' := (I, J, RF w)) (x_sight E d I J w e t (45 + l) r (by omega) (by omega) hr (by omega) (z_A_lights l (by omega))) ?_
  refine z_evG 1 (y := some (.inr (some (.long (z_see (I (45 + l)) (I (3 + r)))), 161, I, J, RF w))) (fun _ => rfl) ?_
  exact z_evR rfl
set_option maxRecDepth 20000 in
/-- LampHouseModel.seen -/
theorem m_seen_ok (E : zE) (d : Nat) (I : Nat → Nat → Int32) (J : Nat → Nat → Int64) (w : Nat) (e t l n m q r : Nat) (h_n : I 127 11 = nI n) (hm_n : n ≤ 8) (h_m : I 127 9 = nI m) (hm_m : m ≤ 20) (h_q : I 136 e = nI q) (hm_q : q ≤ 3) (hr : I 135 (3 * e + t) = nI r) (hl_r : r < 30) (hl_e : e < n) (hl_t : t < q) (hl_l : l < m) : z_cl E (d + 3) 197 [.ref 127, .int (nI e), .int (nI t), .int (nI l)] (161, I, J, RF w) = some (some (.long (z_see (fun c => I 134 (8 * l + c)) (fun c => I 128 (8 * r + c)))), 161, I, J, RF w) := by
  refine z_call (d := d + 2) (M := z_m197) rfl rfl ?_
  refine z_evG 3 (y := z_ret (z_cl E (d + 2) 185 [.ref 127, .int (nI e)] (161, (I, J, RF w))) 5 [some (.ref 127), some (.int (nI e)), some (.int (nI t)), some (.int (nI l))] []) (fun _ => rfl) ?_
  refine z_evK (v := .int (z_bo (¬ (nI e) < 0 ∧ ¬ I 127 11 - 1 < (nI e)))) (z' := 161) (σ' := (I, J, RF w)) (m_isEye E d I J w (nI e)) ?_
  refine z_evG 1 (y := if (z_bo (¬ (nI e) < 0 ∧ ¬ I 127 11 - 1 < (nI e))) = 0 then z_go 45 [some (.ref 127), some (.int (nI e)), some (.int (nI t)), some (.int (nI l))] [] 161 (I, J, RF w) else z_go 8 [some (.ref 127), some (.int (nI e)), some (.int (nI t)), some (.int (nI l))] [] 161 (I, J, RF w)) (fun _ => rfl) ?_
  refine z_evF (fun q0 => z_bo_0.mp q0 ⟨(mt (show _ ↔ e < 0 from z_ltN rfl rfl (by omega) (by omega)).mp (by omega)), (z_plt h_n rfl (by omega) (by omega))⟩) ?_
  refine z_evL ?_
  refine z_evG 4 (y := z_ret (z_cl E (d + 2) 178 [.int (nI t), .int 0, .int 2] (161, (I, J, RF w))) 14 [some (.ref 127), some (.int (nI e)), some (.int (nI t)), some (.int (nI l))] []) (fun _ => rfl) ?_
  refine z_evK (v := .int (z_bo (¬ (nI t) < 0 ∧ ¬ 2 < (nI t)))) (z' := 161) (σ' := (I, J, RF w)) (m_in E (d + 1) I J w (nI t) 0 2) ?_
  refine z_evG 1 (y := if (z_bo (¬ (nI t) < 0 ∧ ¬ 2 < (nI t))) = 0 then z_go 45 [some (.ref 127), some (.int (nI e)), some (.int (nI t)), some (.int (nI l))] [] 161 (I, J, RF w) else z_go 17 [some (.ref 127), some (.int (nI e)), some (.int (nI t)), some (.int (nI l))] [] 161 (I, J, RF w)) (fun _ => rfl) ?_
  refine z_evF (fun q0 => z_bo_0.mp q0 ⟨(mt (show _ ↔ t < 0 from z_ltN rfl rfl (by omega) (by omega)).mp (by omega)), (mt (show _ ↔ 2 < t from z_ltN rfl rfl (by omega) (by omega)).mp (by omega))⟩) ?_
  refine z_evL ?_
  refine z_evG 5 (y := z_ild (z_ia E 161 (I, J, RF w) 136) (nI e) fun vv => z_go 24 [some (.ref 127), some (.int (nI e)), some (.int (nI t)), some (.int (nI l))] [.int vv, .int (nI t)] 161 (I, J, RF w)) (fun _ => rfl) ?_
  refine z_evBn (N := 8) (f := (I 136)) (k := e) rfl rfl (by omega) ?_
  refine z_evL ?_
  refine z_evG 1 (y := if (nI t) < (I 136 e) then z_go 27 [some (.ref 127), some (.int (nI e)), some (.int (nI t)), some (.int (nI l))] [] 161 (I, J, RF w) else z_go 45 [some (.ref 127), some (.int (nI e)), some (.int (nI t)), some (.int (nI l))] [] 161 (I, J, RF w)) (fun _ => rfl) ?_
  refine z_evT (((show _ ↔ t < q from z_ltN rfl h_q (by omega) (by omega)).mpr (by omega))) ?_
  refine z_evL ?_
  refine z_evG 3 (y := z_ret (z_cl E (d + 2) 184 [.ref 127, .int (nI l)] (161, (I, J, RF w))) 32 [some (.ref 127), some (.int (nI e)), some (.int (nI t)), some (.int (nI l))] []) (fun _ => rfl) ?_
  refine z_evK (v := .int (z_bo (¬ (nI l) < 0 ∧ ¬ I 127 9 - 1 < (nI l)))) (z' := 161) (σ' := (I, J, RF w)) (m_isLight E d I J w (nI l)) ?_
  refine z_evG 1 (y := if (z_bo (¬ (nI l) < 0 ∧ ¬ I 127 9 - 1 < (nI l))) = 0 then z_go 45 [some (.ref 127), some (.int (nI e)), some (.int (nI t)), some (.int (nI l))] [] 161 (I, J, RF w) else z_go 35 [some (.ref 127), some (.int (nI e)), some (.int (nI t)), some (.int (nI l))] [] 161 (I, J, RF w)) (fun _ => rfl) ?_
  refine z_evF (fun q0 => z_bo_0.mp q0 ⟨(mt (show _ ↔ l < 0 from z_ltN rfl rfl (by omega) (by omega)).mp (by omega)), (z_plt h_m rfl (by omega) (by omega))⟩) ?_
  refine z_evL ?_
  refine z_evG 5 (y := z_ret (z_cl E (d + 2) 196 [.ref 127, .int (nI e), .int (nI t), .int (nI l)] (161, (I, J, RF w))) 42 [some (.ref 127), some (.int (nI e)), some (.int (nI t)), some (.int (nI l))] []) (fun _ => rfl) ?_
  refine z_evK (v := .long (z_see (fun c => I 134 (8 * l + c)) (fun c => I 128 (8 * r + c)))) (z' := 161) (σ' := (I, J, RF w)) (m_seenBy E (d + 1) I J w e t l r (by omega) (by omega) (by omega) hr (by omega)) ?_
  refine z_evG 2 (y := some (.inr (some (.long (z_see (fun c => I 134 (8 * l + c)) (fun c => I 128 (8 * r + c)))), 161, I, J, RF w))) (fun _ => rfl) ?_
  exact z_evR rfl
set_option maxRecDepth 20000 in
/-- LampHouse.same -/
theorem x_same_bad (E : zE) (d : Nat) (I : Nat → Nat → Int32) (J : Nat → Nat → Int64) (w : Nat) (e a b : Int32) (hbad : ¬ ((¬ e < 0 ∧ e < I 65 3) ∧ (¬ a < 0 ∧ a < I 43 1) ∧ (¬ b < 0 ∧ b < I 43 1))) : z_cl E (d + 4) 139 [.ref 0, .int e, .int a, .int b] (161, I, J, RF w) = some (some (.int (-2)), 161, I, J, RF w) := by
  refine z_call (d := d + 3) (M := z_m139) rfl rfl ?_
  refine z_evG 4 (y := z_ret (z_cl E (d + 3) 15 [.ref 65, .int e] (161, (I, J, RF w))) 8 [some (.ref 0), some (.int e), some (.int a), some (.int b)] []) (fun _ => rfl) ?_
  refine z_evK (v := .int (z_bo (¬ e < 0 ∧ e < I 65 3))) (z' := 161) (σ' := (I, J, RF w)) (x_eyes_has E (d + 2) I J w e) ?_
  refine z_evG 1 (y := if (z_bo (¬ e < 0 ∧ e < I 65 3)) = 0 then z_go 33 [some (.ref 0), some (.int e), some (.int a), some (.int b)] [] 161 (I, J, RF w) else z_go 11 [some (.ref 0), some (.int e), some (.int a), some (.int b)] [] 161 (I, J, RF w)) (fun _ => rfl) ?_
  refine z_evO (fun h1 => ?_) (fun h1 => ?_)
  · refine z_evL ?_
    refine z_evG 2 (y := some (.inr (some (.int (-2)), 161, I, J, RF w))) (fun _ => rfl) ?_
    exact z_evR rfl
  · refine z_evL ?_
    refine z_evG 4 (y := z_ret (z_cl E (d + 3) 8 [.ref 43, .int a] (161, (I, J, RF w))) 19 [some (.ref 0), some (.int e), some (.int a), some (.int b)] []) (fun _ => rfl) ?_
    refine z_evK (v := .int (z_bo (¬ a < 0 ∧ a < I 43 1))) (z' := 161) (σ' := (I, J, RF w)) (x_lights_has E (d + 2) I J w a) ?_
    refine z_evG 1 (y := if (z_bo (¬ a < 0 ∧ a < I 43 1)) = 0 then z_go 33 [some (.ref 0), some (.int e), some (.int a), some (.int b)] [] 161 (I, J, RF w) else z_go 22 [some (.ref 0), some (.int e), some (.int a), some (.int b)] [] 161 (I, J, RF w)) (fun _ => rfl) ?_
    refine z_evO (fun h2 => ?_) (fun h2 => ?_)
    · refine z_evL ?_
      refine z_evG 2 (y := some (.inr (some (.int (-2)), 161, I, J, RF w))) (fun _ => rfl) ?_
      exact z_evR rfl
    · refine z_evL ?_
      refine z_evG 4 (y := z_ret (z_cl E (d + 3) 8 [.ref 43, .int b] (161, (I, J, RF w))) 30 [some (.ref 0), some (.int e), some (.int a), some (.int b)] []) (fun _ => rfl) ?_
      refine z_evK (v := .int (z_bo (¬ b < 0 ∧ b < I 43 1))) (z' := 161) (σ' := (I, J, RF w)) (x_lights_has E (d + 2) I J w b) ?_
      refine z_evG 1 (y := if (z_bo (¬ b < 0 ∧ b < I 43 1)) = 0 then z_go 33 [some (.ref 0), some (.int e), some (.int a), some (.int b)] [] 161 (I, J, RF w) else z_go 36 [some (.ref 0), some (.int e), some (.int a), some (.int b)] [] 161 (I, J, RF w)) (fun _ => rfl) ?_
      refine z_evO (fun h3 => ?_) (fun h3 => ?_)
      · refine z_evL ?_
        refine z_evG 2 (y := some (.inr (some (.int (-2)), 161, I, J, RF w))) (fun _ => rfl) ?_
        exact z_evR rfl
      · refine z_evL ?_
        exact absurd ⟨h1, h2, h3⟩ hbad
set_option maxRecDepth 20000 in
/-- LampHouseModel.same -/
theorem m_same_bad (E : zE) (d : Nat) (I : Nat → Nat → Int32) (J : Nat → Nat → Int64) (w : Nat) (e a b : Int32) (hbad : ¬ ((¬ e < 0 ∧ ¬ I 127 11 - 1 < e) ∧ (¬ a < 0 ∧ ¬ I 127 9 - 1 < a) ∧ (¬ b < 0 ∧ ¬ I 127 9 - 1 < b))) : z_cl E (d + 3) 199 [.ref 127, .int e, .int a, .int b] (161, I, J, RF w) = some (some (.int (-2)), 161, I, J, RF w) := by
  refine z_call (d := d + 2) (M := z_m199) rfl rfl ?_
  refine z_evG 3 (y := z_ret (z_cl E (d + 2) 185 [.ref 127, .int e] (161, (I, J, RF w))) 5 [some (.ref 127), some (.int e), some (.int a), some (.int b)] []) (fun _ => rfl) ?_
  refine z_evK (v := .int (z_bo (¬ e < 0 ∧ ¬ I 127 11 - 1 < e))) (z' := 161) (σ' := (I, J, RF w)) (m_isEye E d I J w e) ?_
  refine z_evG 1 (y := if (z_bo (¬ e < 0 ∧ ¬ I 127 11 - 1 < e)) = 0 then z_go 24 [some (.ref 127), some (.int e), some (.int a), some (.int b)] [] 161 (I, J, RF w) else z_go 8 [some (.ref 127), some (.int e), some (.int a), some (.int b)] [] 161 (I, J, RF w)) (fun _ => rfl) ?_
  refine z_evO (fun h1 => ?_) (fun h1 => ?_)
  · refine z_evL ?_
    refine z_evG 3 (y := some (.inr (some (.int (-2)), 161, I, J, RF w))) (fun _ => rfl) ?_
    exact z_evR rfl
  · refine z_evL ?_
    refine z_evG 3 (y := z_ret (z_cl E (d + 2) 184 [.ref 127, .int a] (161, (I, J, RF w))) 13 [some (.ref 127), some (.int e), some (.int a), some (.int b)] []) (fun _ => rfl) ?_
    refine z_evK (v := .int (z_bo (¬ a < 0 ∧ ¬ I 127 9 - 1 < a))) (z' := 161) (σ' := (I, J, RF w)) (m_isLight E d I J w a) ?_
    refine z_evG 1 (y := if (z_bo (¬ a < 0 ∧ ¬ I 127 9 - 1 < a)) = 0 then z_go 24 [some (.ref 127), some (.int e), some (.int a), some (.int b)] [] 161 (I, J, RF w) else z_go 16 [some (.ref 127), some (.int e), some (.int a), some (.int b)] [] 161 (I, J, RF w)) (fun _ => rfl) ?_
    refine z_evO (fun h2 => ?_) (fun h2 => ?_)
    · refine z_evL ?_
      refine z_evG 3 (y := some (.inr (some (.int (-2)), 161, I, J, RF w))) (fun _ => rfl) ?_
      exact z_evR rfl
    · refine z_evL ?_
      refine z_evG 3 (y := z_ret (z_cl E (d + 2) 184 [.ref 127, .int b] (161, (I, J, RF w))) 21 [some (.ref 127), some (.int e), some (.int a), some (.int b)] []) (fun _ => rfl) ?_
      refine z_evK (v := .int (z_bo (¬ b < 0 ∧ ¬ I 127 9 - 1 < b))) (z' := 161) (σ' := (I, J, RF w)) (m_isLight E d I J w b) ?_
      refine z_evG 1 (y := if (z_bo (¬ b < 0 ∧ ¬ I 127 9 - 1 < b)) = 0 then z_go 24 [some (.ref 127), some (.int e), some (.int a), some (.int b)] [] 161 (I, J, RF w) else z_go 29 [some (.ref 127), some (.int e), some (.int a), some (.int b)] [] 161 (I, J, RF w)) (fun _ => rfl) ?_
      refine z_evO (fun h3 => ?_) (fun h3 => ?_)
      · refine z_evL ?_
        refine z_evG 3 (y := some (.inr (some (.int (-2)), 161, I, J, RF w))) (fun _ => rfl) ?_
        exact z_evR rfl
      · refine z_evL ?_
        exact absurd ⟨h1, h2, h3⟩ hbad
set_option maxRecDepth 20000 in
/-- LampHouse.same -/
theorem x_same_ok (E : zE) (d : Nat) (I : Nat → Nat → Int32) (J : Nat → Nat → Int64) (w : Nat) (e a b n m q : Nat) (r : Nat → Nat) (h_n : I 65 3 = nI n) (hm_n : n ≤ 8) (h_m : I 43 1 = nI m) (hm_m : m ≤ 20) (h_q : I 75 e = nI q) (hm_q : q ≤ 3) (hr : ∀ t, t < q → I (67 + e) t = nI (r t) ∧ r t < 30) (hl_e : e < n) (hl_a : a < m) (hl_b : b < m) : z_cl E (d + 4) 139 [.ref 0, .int (nI e), .int (nI a), .int (nI b)] (161, I, J, RF w) = some (some (.int (z_bo (∀ t, t < q → z_apa (I (45 + a)) (I (45 + b)) (I (3 + r t)) = 0))), 161, I, J, RF w) := by
  refine z_call (d := d + 3) (M := z_m139) rfl rfl ?_
  refine z_evG 4 (y := z_ret (z_cl E (d + 3) 15 [.ref 65, .int (nI e)] (161, (I, J, RF w))) 8 [some (.ref 0), some (.int (nI e)), some (.int (nI a)), some (.int (nI b))] []) (fun _ => rfl) ?_
  refine z_evK (v := .int (z_bo (¬ (nI e) < 0 ∧ (nI e) < I 65 3))) (z' := 161) (σ' := (I, J, RF w)) (x_eyes_has E (d + 2) I J w (nI e)) ?_
  refine z_evG 1 (y := if (z_bo (¬ (nI e) < 0 ∧ (nI e) < I 65 3)) = 0 then z_go 33 [some (.ref 0), some (.int (nI e)), some (.int (nI a)), some (.int (nI b))] [] 161 (I, J, RF w) else z_go 11 [some (.ref 0), some (.int (nI e)), some (.int (nI a)), some (.int (nI b))] [] 161 (I, J, RF w)) (fun _ => rfl) ?_
  refine z_evF (fun q0 => z_bo_0.mp q0 ⟨(mt (show _ ↔ e < 0 from z_ltN rfl rfl (by omega) (by omega)).mp (by omega)), ((show _ ↔ e < n from z_ltN rfl h_n (by omega) (by omega)).mpr (by omega))⟩) ?_
  refine z_evL ?_
  refine z_evG 4 (y := z_ret (z_cl E (d + 3) 8 [.ref 43, .int (nI a)] (161, (I, J, RF w))) 19 [some (.ref 0), some (.int (nI e)), some (.int (nI a)), some (.int (nI b))] []) (fun _ => rfl) ?_
  refine z_evK (v := .int (z_bo (¬ (nI a) < 0 ∧ (nI a) < I 43 1))) (z' := 161) (σ' := (I, J, RF w)) (x_lights_has E (d + 2) I J w (nI a)) ?_
  refine z_evG 1 (y := if (z_bo (¬ (nI a) < 0 ∧ (nI a) < I 43 1)) = 0 then z_go 33 [some (.ref 0), some (.int (nI e)), some (.int (nI a)), some (.int (nI b))] [] 161 (I, J, RF w) else z_go 22 [some (.ref 0), some (.int (nI e)), some (.int (nI a)), some (.int (nI b))] [] 161 (I, J, RF w)) (fun _ => rfl) ?_
  refine z_evF (fun q0 => z_bo_0.mp q0 ⟨(mt (show _ ↔ a < 0 from z_ltN rfl rfl (by omega) (by omega)).mp (by omega)), ((show _ ↔ a < m from z_ltN rfl h_m (by omega) (by omega)).mpr (by omega))⟩) ?_
  refine z_evL ?_
  refine z_evG 4 (y := z_ret (z_cl E (d + 3) 8 [.ref 43, .int (nI b)] (161, (I, J, RF w))) 30 [some (.ref 0), some (.int (nI e)), some (.int (nI a)), some (.int (nI b))] []) (fun _ => rfl) ?_
  refine z_evK (v := .int (z_bo (¬ (nI b) < 0 ∧ (nI b) < I 43 1))) (z' := 161) (σ' := (I, J, RF w)) (x_lights_has E (d + 2) I J w (nI b)) ?_
  refine z_evG 1 (y := if (z_bo (¬ (nI b) < 0 ∧ (nI b) < I 43 1)) = 0 then z_go 33 [some (.ref 0), some (.int (nI e)), some (.int (nI a)), some (.int (nI b))] [] 161 (I, J, RF w) else z_go 36 [some (.ref 0), some (.int (nI e)), some (.int (nI a)), some (.int (nI b))] [] 161 (I, J, RF w)) (fun _ => rfl) ?_
  refine z_evF (fun q0 => z_bo_0.mp q0 ⟨(mt (show _ ↔ b < 0 from z_ltN rfl rfl (by omega) (by omega)).mp (by omega)), ((show _ ↔ b < m from z_ltN rfl h_m (by omega) (by omega)).mpr (by omega))⟩) ?_
  refine z_evL ?_
  refine z_evG 7 (y := z_ret (z_cl E (d + 3) 11 [.ref 43, .int (nI a)] (161, (I, J, RF w))) 49 [some (.ref 0), some (.int (nI e)), some (.int (nI a)), some (.int (nI b))] [.int (nI e), .ref 65]) (fun _ => rfl) ?_
  refine z_evK (v := .ref (45 + a)) (z' := 161) (σ' := (I, J, RF w)) (x_lights_getN E (d + 2) I J w a (by omega)) ?_
  refine z_evG 4 (y := z_ret (z_cl E (d + 3) 11 [.ref 43, .int (nI b)] (161, (I, J, RF w))) 57 [some (.ref 0), some (.int (nI e)), some (.int (nI a)), some (.int (nI b))] [.ref (45 + a), .int (nI e), .ref 65]) (fun _ => rfl) ?_
  refine z_evK (v := .ref (45 + b)) (z' := 161) (σ' := (I, J, RF w)) (x_lights_getN E (d + 2) I J w b (by omega)) ?_
  refine z_evG 1 (y := z_ret (z_cl E (d + 3) 23 [.ref 65, .int (nI e), .ref (45 + a), .ref (45 + b)] (161, (I, J, RF w))) 60 [some (.ref 0), some (.int (nI e)), some (.int (nI a)), some (.int (nI b))] []) (fun _ => rfl) ?_
  refine z_evK (v := .int (z_bo (∀ t, t < q → z_apa (I (45 + a)) (I (45 + b)) (I (3 + r t)) = 0))) (z' := 161) (σ' := (I, J, RF w)) (x_isSame E d I J w e (45 + a) (45 + b) q r (by omega) (by omega) h_q hr (z_A_lights a (by omega)) (z_A_lights b (by omega))) ?_
  refine z_evG 1 (y := if (z_bo (∀ t, t < q → z_apa (I (45 + a)) (I (45 + b)) (I (3 + r t)) = 0)) = 0 then z_go 67 [some (.ref 0), some (.int (nI e)), some (.int (nI a)), some (.int (nI b))] [] 161 (I, J, RF w) else z_go 63 [some (.ref 0), some (.int (nI e)), some (.int (nI a)), some (.int (nI b))] [] 161 (I, J, RF w)) (fun _ => rfl) ?_
  refine z_evO (fun h4 => ?_) (fun h4 => ?_)
  · refine z_evL ?_
    refine z_evG 2 (y := some (.inr (some (.int 0), 161, I, J, RF w))) (fun _ => rfl) ?_
    exact z_evR (by rw [z_bo_f h4])
  · refine z_evL ?_
    refine z_evG 3 (y := some (.inr (some (.int 1), 161, I, J, RF w))) (fun _ => rfl) ?_
    exact z_evR (by rw [z_bo_t h4])
set_option maxRecDepth 20000 in
/-- LampHouseModel.same -/
theorem m_same_ok (E : zE) (d : Nat) (I : Nat → Nat → Int32) (J : Nat → Nat → Int64) (w : Nat) (e a b n m q : Nat) (r : Nat → Nat) (h_n : I 127 11 = nI n) (hm_n : n ≤ 8) (h_m : I 127 9 = nI m) (hm_m : m ≤ 20) (h_q : I 136 e = nI q) (hm_q : q ≤ 3) (hr : ∀ t, t < q → I 135 (3 * e + t) = nI (r t) ∧ r t < 30) (hl_e : e < n) (hl_a : a < m) (hl_b : b < m) : z_cl E (d + 3) 199 [.ref 127, .int (nI e), .int (nI a), .int (nI b)] (161, I, J, RF w) = some (some (.int (z_bo (∀ t, t < q → z_see (fun c => I 134 (8 * a + c)) (fun c => I 128 (8 * r t + c)) = z_see (fun c => I 134 (8 * b + c)) (fun c => I 128 (8 * r t + c))))), 161, I, J, RF w) := by
  refine z_call (d := d + 2) (M := z_m199) rfl rfl ?_
  refine z_evG 3 (y := z_ret (z_cl E (d + 2) 185 [.ref 127, .int (nI e)] (161, (I, J, RF w))) 5 [some (.ref 127), some (.int (nI e)), some (.int (nI a)), some (.int (nI b))] []) (fun _ => rfl) ?_
  refine z_evK (v := .int (z_bo (¬ (nI e) < 0 ∧ ¬ I 127 11 - 1 < (nI e)))) (z' := 161) (σ' := (I, J, RF w)) (m_isEye E d I J w (nI e)) ?_
  refine z_evG 1 (y := if (z_bo (¬ (nI e) < 0 ∧ ¬ I 127 11 - 1 < (nI e))) = 0 then z_go 24 [some (.ref 127), some (.int (nI e)), some (.int (nI a)), some (.int (nI b))] [] 161 (I, J, RF w) else z_go 8 [some (.ref 127), some (.int (nI e)), some (.int (nI a)), some (.int (nI b))] [] 161 (I, J, RF w)) (fun _ => rfl) ?_
  refine z_evF (fun q0 => z_bo_0.mp q0 ⟨(mt (show _ ↔ e < 0 from z_ltN rfl rfl (by omega) (by omega)).mp (by omega)), (z_plt h_n rfl (by omega) (by omega))⟩) ?_
  refine z_evL ?_
  refine z_evG 3 (y := z_ret (z_cl E (d + 2) 184 [.ref 127, .int (nI a)] (161, (I, J, RF w))) 13 [some (.ref 127), some (.int (nI e)), some (.int (nI a)), some (.int (nI b))] []) (fun _ => rfl) ?_
  refine z_evK (v := .int (z_bo (¬ (nI a) < 0 ∧ ¬ I 127 9 - 1 < (nI a)))) (z' := 161) (σ' := (I, J, RF w)) (m_isLight E d I J w (nI a)) ?_
  refine z_evG 1 (y := if (z_bo (¬ (nI a) < 0 ∧ ¬ I 127 9 - 1 < (nI a))) = 0 then z_go 24 [some (.ref 127), some (.int (nI e)), some (.int (nI a)), some (.int (nI b))] [] 161 (I, J, RF w) else z_go 16 [some (.ref 127), some (.int (nI e)), some (.int (nI a)), some (.int (nI b))] [] 161 (I, J, RF w)) (fun _ => rfl) ?_
  refine z_evF (fun q0 => z_bo_0.mp q0 ⟨(mt (show _ ↔ a < 0 from z_ltN rfl rfl (by omega) (by omega)).mp (by omega)), (z_plt h_m rfl (by omega) (by omega))⟩) ?_
  refine z_evL ?_
  refine z_evG 3 (y := z_ret (z_cl E (d + 2) 184 [.ref 127, .int (nI b)] (161, (I, J, RF w))) 21 [some (.ref 127), some (.int (nI e)), some (.int (nI a)), some (.int (nI b))] []) (fun _ => rfl) ?_
  refine z_evK (v := .int (z_bo (¬ (nI b) < 0 ∧ ¬ I 127 9 - 1 < (nI b)))) (z' := 161) (σ' := (I, J, RF w)) (m_isLight E d I J w (nI b)) ?_
  refine z_evG 1 (y := if (z_bo (¬ (nI b) < 0 ∧ ¬ I 127 9 - 1 < (nI b))) = 0 then z_go 24 [some (.ref 127), some (.int (nI e)), some (.int (nI a)), some (.int (nI b))] [] 161 (I, J, RF w) else z_go 29 [some (.ref 127), some (.int (nI e)), some (.int (nI a)), some (.int (nI b))] [] 161 (I, J, RF w)) (fun _ => rfl) ?_
  refine z_evF (fun q0 => z_bo_0.mp q0 ⟨(mt (show _ ↔ b < 0 from z_ltN rfl rfl (by omega) (by omega)).mp (by omega)), (z_plt h_m rfl (by omega) (by omega))⟩) ?_
  refine z_evL ?_
  refine z_evG 5 (y := z_ret (z_cl E (d + 2) 198 [.ref 127, .int (nI e), .int (nI a), .int (nI b)] (161, (I, J, RF w))) 36 [some (.ref 127), some (.int (nI e)), some (.int (nI a)), some (.int (nI b))] []) (fun _ => rfl) ?_
  refine z_evK (v := .int (z_bo (∀ t, t < q → z_see (fun c => I 134 (8 * a + c)) (fun c => I 128 (8 * r t + c)) = z_see (fun c => I 134 (8 * b + c)) (fun c => I 128 (8 * r t + c))))) (z' := 161) (σ' := (I, J, RF w)) (m_areSame E d I J w e a b q r (by omega) (by omega) (by omega) (by omega) h_q hr) ?_
  refine z_evG 1 (y := if (z_bo (∀ t, t < q → z_see (fun c => I 134 (8 * a + c)) (fun c => I 128 (8 * r t + c)) = z_see (fun c => I 134 (8 * b + c)) (fun c => I 128 (8 * r t + c)))) = 0 then z_go 43 [some (.ref 127), some (.int (nI e)), some (.int (nI a)), some (.int (nI b))] [] 161 (I, J, RF w) else z_go 39 [some (.ref 127), some (.int (nI e)), some (.int (nI a)), some (.int (nI b))] [] 161 (I, J, RF w)) (fun _ => rfl) ?_
  refine z_evO (fun h4 => ?_) (fun h4 => ?_)
  · refine z_evL ?_
    refine z_evG 2 (y := some (.inr (some (.int 0), 161, I, J, RF w))) (fun _ => rfl) ?_
    exact z_evR (by rw [z_bo_f h4])
  · refine z_evL ?_
    refine z_evG 3 (y := some (.inr (some (.int 1), 161, I, J, RF w))) (fun _ => rfl) ?_
    exact z_evR (by rw [z_bo_t h4])
set_option maxRecDepth 20000 in
/-- LampHouse$Things.isUnder -/
theorem x_isUnder_0 (E : zE) (d : Nat) (I : Nat → Nat → Int32) (J : Nat → Nat → Int64) (w : Nat) (u : Nat) (hu : u < 6) : z_cl E (d + 2) 106 [.int 0, .int (nI u)] (161, I, J, RF w) = some (some (.int (z_bo (0 = u))), 161, I, J, RF w) := by
  refine z_call (d := d + 1) (M := z_m106) rfl rfl ?_
  refine z_evG 8 (y := if 0 < 6 then z_go 12 [some (.int 0), some (.int (nI u)), some (.int 0), some (.int 0)] [] 161 (I, J, RF w) else z_go 38 [some (.int 0), some (.int (nI u)), some (.int 0), some (.int 0)] [] 161 (I, J, RF w)) (fun _ => rfl) ?_
  refine z_evI (fun _ => ?_) (fun q => absurd (by decide) q)
  refine z_evL ?_
  refine z_evG 2 (y := z_ret (z_cl E (d + 1) 105 [.int 0] (161, (I, J, RF w))) 16 [some (.int 0), some (.int (nI u)), some (.int 0), some (.int 0)] []) (fun _ => rfl) ?_
  refine z_evK (v := .int (z_bo (¬ 0 < 0 ∧ 0 < 6))) (z' := 161) (σ' := (I, J, RF w)) (x_isKind E d I J w 0) ?_
  refine z_evG 1 (y := if (z_bo (¬ 0 < 0 ∧ 0 < 6)) = 0 then z_go 38 [some (.int 0), some (.int (nI u)), some (.int 0), some (.int 0)] [] 161 (I, J, RF w) else z_go 19 [some (.int 0), some (.int (nI u)), some (.int 0), some (.int 0)] [] 161 (I, J, RF w)) (fun _ => rfl) ?_
  refine z_evF (by decide) ?_
  refine z_evL ?_
  refine z_evG 3 (y := if 0 = (nI u) then z_go 24 [some (.int 0), some (.int (nI u)), some (.int 0), some (.int 0)] [] 161 (I, J, RF w) else z_go 26 [some (.int 0), some (.int (nI u)), some (.int 0), some (.int 0)] [] 161 (I, J, RF w)) (fun _ => rfl) ?_
  refine z_evIN (show _ ↔ 0 = u from z_eqN rfl rfl (by omega) (by omega)) (fun h3 => ?_) (fun h3 => ?_)
  · refine z_evL ?_
    refine z_evG 2 (y := some (.inr (some (.int 1), 161, I, J, RF w))) (fun _ => rfl) ?_
    exact z_evR (by simp [z_bo, h3])
  · refine z_evL ?_
    refine z_evG 3 (y := z_ild (z_ia E 161 (I, J, RF w) 1001) 0 fun vv => z_go 31 [some (.int 0), some (.int (nI u)), some (.int 0), some (.int 0)] [.int vv] 161 (I, J, RF w)) (fun _ => rfl) ?_
    refine z_evBn (N := 6) (f := z_above) (k := 0) rfl rfl (by decide) ?_
    refine z_evL ?_
    refine z_evG 7 (y := if 1 < 6 then z_go 12 [some (.int 0), some (.int (nI u)), some (.int (-1)), some (.int 1)] [] 161 (I, J, RF w) else z_go 38 [some (.int 0), some (.int (nI u)), some (.int (-1)), some (.int 1)] [] 161 (I, J, RF w)) (fun _ => rfl) ?_
    refine z_evI (fun _ => ?_) (fun q => absurd (by decide) q)
    refine z_evL ?_
    refine z_evG 2 (y := z_ret (z_cl E (d + 1) 105 [.int (-1)] (161, (I, J, RF w))) 16 [some (.int 0), some (.int (nI u)), some (.int (-1)), some (.int 1)] []) (fun _ => rfl) ?_
    refine z_evK (v := .int (z_bo (¬ (-1) < 0 ∧ (-1) < 6))) (z' := 161) (σ' := (I, J, RF w)) (x_isKind E d I J w (-1)) ?_
    refine z_evG 1 (y := if (z_bo (¬ (-1) < 0 ∧ (-1) < 6)) = 0 then z_go 38 [some (.int 0), some (.int (nI u)), some (.int (-1)), some (.int 1)] [] 161 (I, J, RF w) else z_go 19 [some (.int 0), some (.int (nI u)), some (.int (-1)), some (.int 1)] [] 161 (I, J, RF w)) (fun _ => rfl) ?_
    refine z_evT (by decide) ?_
    refine z_evL ?_
    refine z_evG 2 (y := some (.inr (some (.int 0), 161, I, J, RF w))) (fun _ => rfl) ?_
    exact z_evR (by simp [z_bo, h3])
set_option maxRecDepth 20000 in
/-- LampHouse$Things.isUnder -/
theorem x_isUnder_1 (E : zE) (d : Nat) (I : Nat → Nat → Int32) (J : Nat → Nat → Int64) (w : Nat) (u : Nat) (hu : u < 6) : z_cl E (d + 2) 106 [.int 1, .int (nI u)] (161, I, J, RF w) = some (some (.int (z_bo (1 = u ∨ 0 = u))), 161, I, J, RF w) := by
  refine z_call (d := d + 1) (M := z_m106) rfl rfl ?_
  refine z_evG 8 (y := if 0 < 6 then z_go 12 [some (.int 1), some (.int (nI u)), some (.int 1), some (.int 0)] [] 161 (I, J, RF w) else z_go 38 [some (.int 1), some (.int (nI u)), some (.int 1), some (.int 0)] [] 161 (I, J, RF w)) (fun _ => rfl) ?_
  refine z_evI (fun _ => ?_) (fun q => absurd (by decide) q)
  refine z_evL ?_
  refine z_evG 2 (y := z_ret (z_cl E (d + 1) 105 [.int 1] (161, (I, J, RF w))) 16 [some (.int 1), some (.int (nI u)), some (.int 1), some (.int 0)] []) (fun _ => rfl) ?_
  refine z_evK (v := .int (z_bo (¬ 1 < 0 ∧ 1 < 6))) (z' := 161) (σ' := (I, J, RF w)) (x_isKind E d I J w 1) ?_
  refine z_evG 1 (y := if (z_bo (¬ 1 < 0 ∧ 1 < 6)) = 0 then z_go 38 [some (.int 1), some (.int (nI u)), some (.int 1), some (.int 0)] [] 161 (I, J, RF w) else z_go 19 [some (.int 1), some (.int (nI u)), some (.int 1), some (.int 0)] [] 161 (I, J, RF w)) (fun _ => rfl) ?_
  refine z_evF (by decide) ?_
  refine z_evL ?_
  refine z_evG 3 (y := if 1 = (nI u) then z_go 24 [some (.int 1), some (.int (nI u)), some (.int 1), some (.int 0)] [] 161 (I, J, RF w) else z_go 26 [some (.int 1), some (.int (nI u)), some (.int 1), some (.int 0)] [] 161 (I, J, RF w)) (fun _ => rfl) ?_
  refine z_evIN (show _ ↔ 1 = u from z_eqN rfl rfl (by omega) (by omega)) (fun h3 => ?_) (fun h3 => ?_)
  · refine z_evL ?_
    refine z_evG 2 (y := some (.inr (some (.int 1), 161, I, J, RF w))) (fun _ => rfl) ?_
    exact z_evR (by simp [z_bo, h3])
  · refine z_evL ?_
    refine z_evG 3 (y := z_ild (z_ia E 161 (I, J, RF w) 1001) 1 fun vv => z_go 31 [some (.int 1), some (.int (nI u)), some (.int 1), some (.int 0)] [.int vv] 161 (I, J, RF w)) (fun _ => rfl) ?_
    refine z_evBn (N := 6) (f := z_above) (k := 1) rfl rfl (by decide) ?_
    refine z_evL ?_
    refine z_evG 7 (y := if 1 < 6 then z_go 12 [some (.int 1), some (.int (nI u)), some (.int 0), some (.int 1)] [] 161 (I, J, RF w) else z_go 38 [some (.int 1), some (.int (nI u)), some (.int 0), some (.int 1)] [] 161 (I, J, RF w)) (fun _ => rfl) ?_
    refine z_evI (fun _ => ?_) (fun q => absurd (by decide) q)
    refine z_evL ?_
    refine z_evG 2 (y := z_ret (z_cl E (d + 1) 105 [.int 0] (161, (I, J, RF w))) 16 [some (.int 1), some (.int (nI u)), some (.int 0), some (.int 1)] []) (fun _ => rfl) ?_
    refine z_evK (v := .int (z_bo (¬ 0 < 0 ∧ 0 < 6))) (z' := 161) (σ' := (I, J, RF w)) (x_isKind E d I J w 0) ?_
    refine z_evG 1 (y := if (z_bo (¬ 0 < 0 ∧ 0 < 6)) = 0 then z_go 38 [some (.int 1), some (.int (nI u)), some (.int 0), some (.int 1)] [] 161 (I, J, RF w) else z_go 19 [some (.int 1), some (.int (nI u)), some (.int 0), some (.int 1)] [] 161 (I, J, RF w)) (fun _ => rfl) ?_
    refine z_evF (by decide) ?_
    refine z_evL ?_
    refine z_evG 3 (y := if 0 = (nI u) then z_go 24 [some (.int 1), some (.int (nI u)), some (.int 0), some (.int 1)] [] 161 (I, J, RF w) else z_go 26 [some (.int 1), some (.int (nI u)), some (.int 0), some (.int 1)] [] 161 (I, J, RF w)) (fun _ => rfl) ?_
    refine z_evIN (show _ ↔ 0 = u from z_eqN rfl rfl (by omega) (by omega)) (fun h6 => ?_) (fun h6 => ?_)
    · refine z_evL ?_
      refine z_evG 2 (y := some (.inr (some (.int 1), 161, I, J, RF w))) (fun _ => rfl) ?_
      exact z_evR (by simp [z_bo, h3, h6])
    · refine z_evL ?_
      refine z_evG 3 (y := z_ild (z_ia E 161 (I, J, RF w) 1001) 0 fun vv => z_go 31 [some (.int 1), some (.int (nI u)), some (.int 0), some (.int 1)] [.int vv] 161 (I, J, RF w)) (fun _ => rfl) ?_
      refine z_evBn (N := 6) (f := z_above) (k := 0) rfl rfl (by decide) ?_
      refine z_evL ?_
      refine z_evG 7 (y := if 2 < 6 then z_go 12 [some (.int 1), some (.int (nI u)), some (.int (-1)), some (.int 2)] [] 161 (I, J, RF w) else z_go 38 [some (.int 1), some (.int (nI u)), some (.int (-1)), some (.int 2)] [] 161 (I, J, RF w)) (fun _ => rfl) ?_
      refine z_evI (fun _ => ?_) (fun q => absurd (by decide) q)
      refine z_evL ?_
      refine z_evG 2 (y := z_ret (z_cl E (d + 1) 105 [.int (-1)] (161, (I, J, RF w))) 16 [some (.int 1), some (.int (nI u)), some (.int (-1)), some (.int 2)] []) (fun _ => rfl) ?_
      refine z_evK (v := .int (z_bo (¬ (-1) < 0 ∧ (-1) < 6))) (z' := 161) (σ' := (I, J, RF w)) (x_isKind E d I J w (-1)) ?_
      refine z_evG 1 (y := if (z_bo (¬ (-1) < 0 ∧ (-1) < 6)) = 0 then z_go 38 [some (.int 1), some (.int (nI u)), some (.int (-1)), some (.int 2)] [] 161 (I, J, RF w) else z_go 19 [some (.int 1), some (.int (nI u)), some (.int (-1)), some (.int 2)] [] 161 (I, J, RF w)) (fun _ => rfl) ?_
      refine z_evT (by decide) ?_
      refine z_evL ?_
      refine z_evG 2 (y := some (.inr (some (.int 0), 161, I, J, RF w))) (fun _ => rfl) ?_
      exact z_evR (by simp [z_bo, h3, h6])
set_option maxRecDepth 20000 in
/-- LampHouse$Things.isUnder -/
theorem x_isUnder_2 (E : zE) (d : Nat) (I : Nat → Nat → Int32) (J : Nat → Nat → Int64) (w : Nat) (u : Nat) (hu : u < 6) : z_cl E (d + 2) 106 [.int 2, .int (nI u)] (161, I, J, RF w) = some (some (.int (z_bo (2 = u ∨ 0 = u))), 161, I, J, RF w) := by
  refine z_call (d := d + 1) (M := z_m106) rfl rfl ?_
  refine z_evG 8 (y := if 0 < 6 then z_go 12 [some (.int 2), some (.int (nI u)), some (.int 2), some (.int 0)] [] 161 (I, J, RF w) else z_go 38 [some (.int 2), some (.int (nI u)), some (.int 2), some (.int 0)] [] 161 (I, J, RF w)) (fun _ => rfl) ?_
  refine z_evI (fun _ => ?_) (fun q => absurd (by decide) q)
  refine z_evL ?_
  refine z_evG 2 (y := z_ret (z_cl E (d + 1) 105 [.int 2] (161, (I, J, RF w))) 16 [some (.int 2), some (.int (nI u)), some (.int 2), some (.int 0)] []) (fun _ => rfl) ?_
  refine z_evK (v := .int (z_bo (¬ 2 < 0 ∧ 2 < 6))) (z' := 161) (σ' := (I, J, RF w)) (x_isKind E d I J w 2) ?_
  refine z_evG 1 (y := if (z_bo (¬ 2 < 0 ∧ 2 < 6)) = 0 then z_go 38 [some (.int 2), some (.int (nI u)), some (.int 2), some (.int 0)] [] 161 (I, J, RF w) else z_go 19 [some (.int 2), some (.int (nI u)), some (.int 2), some (.int 0)] [] 161 (I, J, RF w)) (fun _ => rfl) ?_
  refine z_evF (by decide) ?_
  refine z_evL ?_
  refine z_evG 3 (y := if 2 = (nI u) then z_go 24 [some (.int 2), some (.int (nI u)), some (.int 2), some (.int 0)] [] 161 (I, J, RF w) else z_go 26 [some (.int 2), some (.int (nI u)), some (.int 2), some (.int 0)] [] 161 (I, J, RF w)) (fun _ => rfl) ?_
  refine z_evIN (show _ ↔ 2 = u from z_eqN rfl rfl (by omega) (by omega)) (fun h3 => ?_) (fun h3 => ?_)
  · refine z_evL ?_
    refine z_evG 2 (y := some (.inr (some (.int 1), 161, I, J, RF w))) (fun _ => rfl) ?_
    exact z_evR (by simp [z_bo, h3])
  · refine z_evL ?_
    refine z_evG 3 (y := z_ild (z_ia E 161 (I, J, RF w) 1001) 2 fun vv => z_go 31 [some (.int 2), some (.int (nI u)), some (.int 2), some (.int 0)] [.int vv] 161 (I, J, RF w)) (fun _ => rfl) ?_
    refine z_evBn (N := 6) (f := z_above) (k := 2) rfl rfl (by decide) ?_
    refine z_evL ?_
    refine z_evG 7 (y := if 1 < 6 then z_go 12 [some (.int 2), some (.int (nI u)), some (.int 0), some (.int 1)] [] 161 (I, J, RF w) else z_go 38 [some (.int 2), some (.int (nI u)), some (.int 0), some (.int 1)] [] 161 (I, J, RF w)) (fun _ => rfl) ?_
    refine z_evI (fun _ => ?_) (fun q => absurd (by decide) q)
    refine z_evL ?_
    refine z_evG 2 (y := z_ret (z_cl E (d + 1) 105 [.int 0] (161, (I, J, RF w))) 16 [some (.int 2), some (.int (nI u)), some (.int 0), some (.int 1)] []) (fun _ => rfl) ?_
    refine z_evK (v := .int (z_bo (¬ 0 < 0 ∧ 0 < 6))) (z' := 161) (σ' := (I, J, RF w)) (x_isKind E d I J w 0) ?_
    refine z_evG 1 (y := if (z_bo (¬ 0 < 0 ∧ 0 < 6)) = 0 then z_go 38 [some (.int 2), some (.int (nI u)), some (.int 0), some (.int 1)] [] 161 (I, J, RF w) else z_go 19 [some (.int 2), some (.int (nI u)), some (.int 0), some (.int 1)] [] 161 (I, J, RF w)) (fun _ => rfl) ?_
    refine z_evF (by decide) ?_
    refine z_evL ?_
    refine z_evG 3 (y := if 0 = (nI u) then z_go 24 [some (.int 2), some (.int (nI u)), some (.int 0), some (.int 1)] [] 161 (I, J, RF w) else z_go 26 [some (.int 2), some (.int (nI u)), some (.int 0), some (.int 1)] [] 161 (I, J, RF w)) (fun _ => rfl) ?_
    refine z_evIN (show _ ↔ 0 = u from z_eqN rfl rfl (by omega) (by omega)) (fun h6 => ?_) (fun h6 => ?_)
    · refine z_evL ?_
      refine z_evG 2 (y := some (.inr (some (.int 1), 161, I, J, RF w))) (fun _ => rfl) ?_
      exact z_evR (by simp [z_bo, h3, h6])
    · refine z_evL ?_
      refine z_evG 3 (y := z_ild (z_ia E 161 (I, J, RF w) 1001) 0 fun vv => z_go 31 [some (.int 2), some (.int (nI u)), some (.int 0), some (.int 1)] [.int vv] 161 (I, J, RF w)) (fun _ => rfl) ?_
      refine z_evBn (N := 6) (f := z_above) (k := 0) rfl rfl (by decide) ?_
      refine z_evL ?_
      refine z_evG 7 (y := if 2 < 6 then z_go 12 [some (.int 2), some (.int (nI u)), some (.int (-1)), some (.int 2)] [] 161 (I, J, RF w) else z_go 38 [some (.int 2), some (.int (nI u)), some (.int (-1)), some (.int 2)] [] 161 (I, J, RF w)) (fun _ => rfl) ?_
      refine z_evI (fun _ => ?_) (fun q => absurd (by decide) q)
      refine z_evL ?_
      refine z_evG 2 (y := z_ret (z_cl E (d + 1) 105 [.int (-1)] (161, (I, J, RF w))) 16 [some (.int 2), some (.int (nI u)), some (.int (-1)), some (.int 2)] []) (fun _ => rfl) ?_
      refine z_evK (v := .int (z_bo (¬ (-1) < 0 ∧ (-1) < 6))) (z' := 161) (σ' := (I, J, RF w)) (x_isKind E d I J w (-1)) ?_
      refine z_evG 1 (y := if (z_bo (¬ (-1) < 0 ∧ (-1) < 6)) = 0 then z_go 38 [some (.int 2), some (.int (nI u)), some (.int (-1)), some (.int 2)] [] 161 (I, J, RF w) else z_go 19 [some (.int 2), some (.int (nI u)), some (.int (-1)), some (.int 2)] [] 161 (I, J, RF w)) (fun _ => rfl) ?_
      refine z_evT (by decide) ?_
      refine z_evL ?_
      refine z_evG 2 (y := some (.inr (some (.int 0), 161, I, J, RF w))) (fun _ => rfl) ?_
      exact z_evR (by simp [z_bo, h3, h6])
set_option maxRecDepth 20000 in
/-- LampHouse$Things.isUnder -/
theorem x_isUnder_3 (E : zE) (d : Nat) (I : Nat → Nat → Int32) (J : Nat → Nat → Int64) (w : Nat) (u : Nat) (hu : u < 6) : z_cl E (d + 2) 106 [.int 3, .int (nI u)] (161, I, J, RF w) = some (some (.int (z_bo (3 = u ∨ 1 = u ∨ 0 = u))), 161, I, J, RF w) := by
  refine z_call (d := d + 1) (M := z_m106) rfl rfl ?_
  refine z_evG 8 (y := if 0 < 6 then z_go 12 [some (.int 3), some (.int (nI u)), some (.int 3), some (.int 0)] [] 161 (I, J, RF w) else z_go 38 [some (.int 3), some (.int (nI u)), some (.int 3), some (.int 0)] [] 161 (I, J, RF w)) (fun _ => rfl) ?_
  refine z_evI (fun _ => ?_) (fun q => absurd (by decide) q)
  refine z_evL ?_
  refine z_evG 2 (y := z_ret (z_cl E (d + 1) 105 [.int 3] (161, (I, J, RF w))) 16 [some (.int 3), some (.int (nI u)), some (.int 3), some (.int 0)] []) (fun _ => rfl) ?_
  refine z_evK (v := .int (z_bo (¬ 3 < 0 ∧ 3 < 6))) (z' := 161) (σ' := (I, J, RF w)) (x_isKind E d I J w 3) ?_
  refine z_evG 1 (y := if (z_bo (¬ 3 < 0 ∧ 3 < 6)) = 0 then z_go 38 [some (.int 3), some (.int (nI u)), some (.int 3), some (.int 0)] [] 161 (I, J, RF w) else z_go 19 [some (.int 3), some (.int (nI u)), some (.int 3), some (.int 0)] [] 161 (I, J, RF w)) (fun _ => rfl) ?_
  refine z_evF (by decide) ?_
  refine z_evL ?_
  refine z_evG 3 (y := if 3 = (nI u) then z_go 24 [some (.int 3), some (.int (nI u)), some (.int 3), some (.int 0)] [] 161 (I, J, RF w) else z_go 26 [some (.int 3), some (.int (nI u)), some (.int 3), some (.int 0)] [] 161 (I, J, RF w)) (fun _ => rfl) ?_
  refine z_evIN (show _ ↔ 3 = u from z_eqN rfl rfl (by omega) (by omega)) (fun h3 => ?_) (fun h3 => ?_)
  · refine z_evL ?_
    refine z_evG 2 (y := some (.inr (some (.int 1), 161, I, J, RF w))) (fun _ => rfl) ?_
    exact z_evR (by simp [z_bo, h3])
  · refine z_evL ?_
    refine z_evG 3 (y := z_ild (z_ia E 161 (I, J, RF w) 1001) 3 fun vv => z_go 31 [some (.int 3), some (.int (nI u)), some (.int 3), some (.int 0)] [.int vv] 161 (I, J, RF w)) (fun _ => rfl) ?_
    refine z_evBn (N := 6) (f := z_above) (k := 3) rfl rfl (by decide) ?_
    refine z_evL ?_
    refine z_evG 7 (y := if 1 < 6 then z_go 12 [some (.int 3), some (.int (nI u)), some (.int 1), some (.int 1)] [] 161 (I, J, RF w) else z_go 38 [some (.int 3), some (.int (nI u)), some (.int 1), some (.int 1)] [] 161 (I, J, RF w)) (fun _ => rfl) ?_
    refine z_evI (fun _ => ?_) (fun q => absurd (by decide) q)
    refine z_evL ?_
    refine z_evG 2 (y := z_ret (z_cl E (d + 1) 105 [.int 1] (161, (I, J, RF w))) 16 [some (.int 3), some (.int (nI u)), some (.int 1), some (.int 1)] []) (fun _ => rfl) ?_
    refine z_evK (v := .int (z_bo (¬ 1 < 0 ∧ 1 < 6))) (z' := 161) (σ' := (I, J, RF w)) (x_isKind E d I J w 1) ?_
    refine z_evG 1 (y := if (z_bo (¬ 1 < 0 ∧ 1 < 6)) = 0 then z_go 38 [some (.int 3), some (.int (nI u)), some (.int 1), some (.int 1)] [] 161 (I, J, RF w) else z_go 19 [some (.int 3), some (.int (nI u)), some (.int 1), some (.int 1)] [] 161 (I, J, RF w)) (fun _ => rfl) ?_
    refine z_evF (by decide) ?_
    refine z_evL ?_
    refine z_evG 3 (y := if 1 = (nI u) then z_go 24 [some (.int 3), some (.int (nI u)), some (.int 1), some (.int 1)] [] 161 (I, J, RF w) else z_go 26 [some (.int 3), some (.int (nI u)), some (.int 1), some (.int 1)] [] 161 (I, J, RF w)) (fun _ => rfl) ?_
    refine z_evIN (show _ ↔ 1 = u from z_eqN rfl rfl (by omega) (by omega)) (fun h6 => ?_) (fun h6 => ?_)
    · refine z_evL ?_
      refine z_evG 2 (y := some (.inr (some (.int 1), 161, I, J, RF w))) (fun _ => rfl) ?_
      exact z_evR (by simp [z_bo, h3, h6])
    · refine z_evL ?_
      refine z_evG 3 (y := z_ild (z_ia E 161 (I, J, RF w) 1001) 1 fun vv => z_go 31 [some (.int 3), some (.int (nI u)), some (.int 1), some (.int 1)] [.int vv] 161 (I, J, RF w)) (fun _ => rfl) ?_
      refine z_evBn (N := 6) (f := z_above) (k := 1) rfl rfl (by decide) ?_
      refine z_evL ?_
      refine z_evG 7 (y := if 2 < 6 then z_go 12 [some (.int 3), some (.int (nI u)), some (.int 0), some (.int 2)] [] 161 (I, J, RF w) else z_go 38 [some (.int 3), some (.int (nI u)), some (.int 0), some (.int 2)] [] 161 (I, J, RF w)) (fun _ => rfl) ?_
      refine z_evI (fun _ => ?_) (fun q => absurd (by decide) q)
      refine z_evL ?_
      refine z_evG 2 (y := z_ret (z_cl E (d + 1) 105 [.int 0] (161, (I, J, RF w))) 16 [some (.int 3), some (.int (nI u)), some (.int 0), some (.int 2)] []) (fun _ => rfl) ?_
      refine z_evK (v := .int (z_bo (¬ 0 < 0 ∧ 0 < 6))) (z' := 161) (σ' := (I, J, RF w)) (x_isKind E d I J w 0) ?_
      refine z_evG 1 (y := if (z_bo (¬ 0 < 0 ∧ 0 < 6)) = 0 then z_go 38 [some (.int 3), some (.int (nI u)), some (.int 0), some (.int 2)] [] 161 (I, J, RF w) else z_go 19 [some (.int 3), some (.int (nI u)), some (.int 0), some (.int 2)] [] 161 (I, J, RF w)) (fun _ => rfl) ?_
      refine z_evF (by decide) ?_
      refine z_evL ?_
      refine z_evG 3 (y := if 0 = (nI u) then z_go 24 [some (.int 3), some (.int (nI u)), some (.int 0), some (.int 2)] [] 161 (I, J, RF w) else z_go 26 [some (.int 3), some (.int (nI u)), some (.int 0), some (.int 2)] [] 161 (I, J, RF w)) (fun _ => rfl) ?_
      refine z_evIN (show _ ↔ 0 = u from z_eqN rfl rfl (by omega) (by omega)) (fun h9 => ?_) (fun h9 => ?_)
      · refine z_evL ?_
        refine z_evG 2 (y := some (.inr (some (.int 1), 161, I, J, RF w))) (fun _ => rfl) ?_
        exact z_evR (by simp [z_bo, h3, h6, h9])
      · refine z_evL ?_
        refine z_evG 3 (y := z_ild (z_ia E 161 (I, J, RF w) 1001) 0 fun vv => z_go 31 [some (.int 3), some (.int (nI u)), some (.int 0), some (.int 2)] [.int vv] 161 (I, J, RF w)) (fun _ => rfl) ?_
        refine z_evBn (N := 6) (f := z_above) (k := 0) rfl rfl (by decide) ?_
        refine z_evL ?_
        refine z_evG 7 (y := if 3 < 6 then z_go 12 [some (.int 3), some (.int (nI u)), some (.int (-1)), some (.int 3)] [] 161 (I, J, RF w) else z_go 38 [some (.int 3), some (.int (nI u)), some (.int (-1)), some (.int 3)] [] 161 (I, J, RF w)) (fun _ => rfl) ?_
        refine z_evI (fun _ => ?_) (fun q => absurd (by decide) q)
        refine z_evL ?_
        refine z_evG 2 (y := z_ret (z_cl E (d + 1) 105 [.int (-1)] (161, (I, J, RF w))) 16 [some (.int 3), some (.int (nI u)), some (.int (-1)), some (.int 3)] []) (fun _ => rfl) ?_
        refine z_evK (v := .int (z_bo (¬ (-1) < 0 ∧ (-1) < 6))) (z' := 161) (σ' := (I, J, RF w)) (x_isKind E d I J w (-1)) ?_
        refine z_evG 1 (y := if (z_bo (¬ (-1) < 0 ∧ (-1) < 6)) = 0 then z_go 38 [some (.int 3), some (.int (nI u)), some (.int (-1)), some (.int 3)] [] 161 (I, J, RF w) else z_go 19 [some (.int 3), some (.int (nI u)), some (.int (-1)), some (.int 3)] [] 161 (I, J, RF w)) (fun _ => rfl) ?_
        refine z_evT (by decide) ?_
        refine z_evL ?_
        refine z_evG 2 (y := some (.inr (some (.int 0), 161, I, J, RF w))) (fun _ => rfl) ?_
        exact z_evR (by simp [z_bo, h3, h6, h9])
set_option maxRecDepth 20000 in
/-- LampHouse$Things.isUnder -/
theorem x_isUnder_4 (E : zE) (d : Nat) (I : Nat → Nat → Int32) (J : Nat → Nat → Int64) (w : Nat) (u : Nat) (hu : u < 6) : z_cl E (d + 2) 106 [.int 4, .int (nI u)] (161, I, J, RF w) = some (some (.int (z_bo (4 = u ∨ 2 = u ∨ 0 = u))), 161, I, J, RF w) := by
  refine z_call (d := d + 1) (M := z_m106) rfl rfl ?_
  refine z_evG 8 (y := if 0 < 6 then z_go 12 [some (.int 4), some (.int (nI u)), some (.int 4), some (.int 0)] [] 161 (I, J, RF w) else z_go 38 [some (.int 4), some (.int (nI u)), some (.int 4), some (.int 0)] [] 161 (I, J, RF w)) (fun _ => rfl) ?_
  refine z_evI (fun _ => ?_) (fun q => absurd (by decide) q)
  refine z_evL ?_
  refine z_evG 2 (y := z_ret (z_cl E (d + 1) 105 [.int 4] (161, (I, J, RF w))) 16 [some (.int 4), some (.int (nI u)), some (.int 4), some (.int 0)] []) (fun _ => rfl) ?_
  refine z_evK (v := .int (z_bo (¬ 4 < 0 ∧ 4 < 6))) (z' := 161) (σ' := (I, J, RF w)) (x_isKind E d I J w 4) ?_
  refine z_evG 1 (y := if (z_bo (¬ 4 < 0 ∧ 4 < 6)) = 0 then z_go 38 [some (.int 4), some (.int (nI u)), some (.int 4), some (.int 0)] [] 161 (I, J, RF w) else z_go 19 [some (.int 4), some (.int (nI u)), some (.int 4), some (.int 0)] [] 161 (I, J, RF w)) (fun _ => rfl) ?_
  refine z_evF (by decide) ?_
  refine z_evL ?_
  refine z_evG 3 (y := if 4 = (nI u) then z_go 24 [some (.int 4), some (.int (nI u)), some (.int 4), some (.int 0)] [] 161 (I, J, RF w) else z_go 26 [some (.int 4), some (.int (nI u)), some (.int 4), some (.int 0)] [] 161 (I, J, RF w)) (fun _ => rfl) ?_
  refine z_evIN (show _ ↔ 4 = u from z_eqN rfl rfl (by omega) (by omega)) (fun h3 => ?_) (fun h3 => ?_)
  · refine z_evL ?_
    refine z_evG 2 (y := some (.inr (some (.int 1), 161, I, J, RF w))) (fun _ => rfl) ?_
    exact z_evR (by simp [z_bo, h3])
  · refine z_evL ?_
    refine z_evG 3 (y := z_ild (z_ia E 161 (I, J, RF w) 1001) 4 fun vv => z_go 31 [some (.int 4), some (.int (nI u)), some (.int 4), some (.int 0)] [.int vv] 161 (I, J, RF w)) (fun _ => rfl) ?_
    refine z_evBn (N := 6) (f := z_above) (k := 4) rfl rfl (by decide) ?_
    refine z_evL ?_
    refine z_evG 7 (y := if 1 < 6 then z_go 12 [some (.int 4), some (.int (nI u)), some (.int 2), some (.int 1)] [] 161 (I, J, RF w) else z_go 38 [some (.int 4), some (.int (nI u)), some (.int 2), some (.int 1)] [] 161 (I, J, RF w)) (fun _ => rfl) ?_
    refine z_evI (fun _ => ?_) (fun q => absurd (by decide) q)
    refine z_evL ?_
    refine z_evG 2 (y := z_ret (z_cl E (d + 1) 105 [.int 2] (161, (I, J, RF w))) 16 [some (.int 4), some (.int (nI u)), some (.int 2), some (.int 1)] []) (fun _ => rfl) ?_
    refine z_evK (v := .int (z_bo (¬ 2 < 0 ∧ 2 < 6))) (z' := 161) (σ' := (I, J, RF w)) (x_isKind E d I J w 2) ?_
    refine z_evG 1 (y := if (z_bo (¬ 2 < 0 ∧ 2 < 6)) = 0 then z_go 38 [some (.int 4), some (.int (nI u)), some (.int 2), some (.int 1)] [] 161 (I, J, RF w) else z_go 19 [some (.int 4), some (.int (nI u)), some (.int 2), some (.int 1)] [] 161 (I, J, RF w)) (fun _ => rfl) ?_
    refine z_evF (by decide) ?_
    refine z_evL ?_
    refine z_evG 3 (y := if 2 = (nI u) then z_go 24 [some (.int 4), some (.int (nI u)), some (.int 2), some (.int 1)] [] 161 (I, J, RF w) else z_go 26 [some (.int 4), some (.int (nI u)), some (.int 2), some (.int 1)] [] 161 (I, J, RF w)) (fun _ => rfl) ?_
    refine z_evIN (show _ ↔ 2 = u from z_eqN rfl rfl (by omega) (by omega)) (fun h6 => ?_) (fun h6 => ?_)
    · refine z_evL ?_
      refine z_evG 2 (y := some (.inr (some (.int 1), 161, I, J, RF w))) (fun _ => rfl) ?_
      exact z_evR (by simp [z_bo, h3, h6])
    · refine z_evL ?_
      refine z_evG 3 (y := z_ild (z_ia E 161 (I, J, RF w) 1001) 2 fun vv => z_go 31 [some (.int 4), some (.int (nI u)), some (.int 2), some (.int 1)] [.int vv] 161 (I, J, RF w)) (fun _ => rfl) ?_
      refine z_evBn (N := 6) (f := z_above) (k := 2) rfl rfl (by decide) ?_
      refine z_evL ?_
      refine z_evG 7 (y := if 2 < 6 then z_go 12 [some (.int 4), some (.int (nI u)), some (.int 0), some (.int 2)] [] 161 (I, J, RF w) else z_go 38 [some (.int 4), some (.int (nI u)), some (.int 0), some (.int 2)] [] 161 (I, J, RF w)) (fun _ => rfl) ?_
      refine z_evI (fun _ => ?_) (fun q => absurd (by decide) q)
      refine z_evL ?_
      refine z_evG 2 (y := z_ret (z_cl E (d + 1) 105 [.int 0] (161, (I, J, RF w))) 16 [some (.int 4), some (.int (nI u)), some (.int 0), some (.int 2)] []) (fun _ => rfl) ?_
      refine z_evK (v := .int (z_bo (¬ 0 < 0 ∧ 0 < 6))) (z' := 161) (σ' := (I, J, RF w)) (x_isKind E d I J w 0) ?_
      refine z_evG 1 (y := if (z_bo (¬ 0 < 0 ∧ 0 < 6)) = 0 then z_go 38 [some (.int 4), some (.int (nI u)), some (.int 0), some (.int 2)] [] 161 (I, J, RF w) else z_go 19 [some (.int 4), some (.int (nI u)), some (.int 0), some (.int 2)] [] 161 (I, J, RF w)) (fun _ => rfl) ?_
      refine z_evF (by decide) ?_
      refine z_evL ?_
      refine z_evG 3 (y := if 0 = (nI u) then z_go 24 [some (.int 4), some (.int (nI u)), some (.int 0), some (.int 2)] [] 161 (I, J, RF w) else z_go 26 [some (.int 4), some (.int (nI u)), some (.int 0), some (.int 2)] [] 161 (I, J, RF w)) (fun _ => rfl) ?_
      refine z_evIN (show _ ↔ 0 = u from z_eqN rfl rfl (by omega) (by omega)) (fun h9 => ?_) (fun h9 => ?_)
      · refine z_evL ?_
        refine z_evG 2 (y := some (.inr (some (.int 1), 161, I, J, RF w))) (fun _ => rfl) ?_
        exact z_evR (by simp [z_bo, h3, h6, h9])
      · refine z_evL ?_
        refine z_evG 3 (y := z_ild (z_ia E 161 (I, J, RF w) 1001) 0 fun vv => z_go 31 [some (.int 4), some (.int (nI u)), some (.int 0), some (.int 2)] [.int vv] 161 (I, J, RF w)) (fun _ => rfl) ?_
        refine z_evBn (N := 6) (f := z_above) (k := 0) rfl rfl (by decide) ?_
        refine z_evL ?_
        refine z_evG 7 (y := if 3 < 6 then z_go 12 [some (.int 4), some (.int (nI u)), some (.int (-1)), some (.int 3)] [] 161 (I, J, RF w) else z_go 38 [some (.int 4), some (.int (nI u)), some (.int (-1)), some (.int 3)] [] 161 (I, J, RF w)) (fun _ => rfl) ?_
        refine z_evI (fun _ => ?_) (fun q => absurd (by decide) q)
        refine z_evL ?_
        refine z_evG 2 (y := z_ret (z_cl E (d + 1) 105 [.int (-1)] (161, (I, J, RF w))) 16 [some (.int 4), some (.int (nI u)), some (.int (-1)), some (.int 3)] []) (fun _ => rfl) ?_
        refine z_evK (v := .int (z_bo (¬ (-1) < 0 ∧ (-1) < 6))) (z' := 161) (σ' := (I, J, RF w)) (x_isKind E d I J w (-1)) ?_
        refine z_evG 1 (y := if (z_bo (¬ (-1) < 0 ∧ (-1) < 6)) = 0 then z_go 38 [some (.int 4), some (.int (nI u)), some (.int (-1)), some (.int 3)] [] 161 (I, J, RF w) else z_go 19 [some (.int 4), some (.int (nI u)), some (.int (-1)), some (.int 3)] [] 161 (I, J, RF w)) (fun _ => rfl) ?_
        refine z_evT (by decide) ?_
        refine z_evL ?_
        refine z_evG 2 (y := some (.inr (some (.int 0), 161, I, J, RF w))) (fun _ => rfl) ?_
        exact z_evR (by simp [z_bo, h3, h6, h9])
set_option maxRecDepth 20000 in
/-- LampHouse$Things.isUnder -/
theorem x_isUnder_5 (E : zE) (d : Nat) (I : Nat → Nat → Int32) (J : Nat → Nat → Int64) (w : Nat) (u : Nat) (hu : u < 6) : z_cl E (d + 2) 106 [.int 5, .int (nI u)] (161, I, J, RF w) = some (some (.int (z_bo (5 = u ∨ 2 = u ∨ 0 = u))), 161, I, J, RF w) := by
  refine z_call (d := d + 1) (M := z_m106) rfl rfl ?_
  refine z_evG 8 (y := if 0 < 6 then z_go 12 [some (.int 5), some (.int (nI u)), some (.int 5), some (.int 0)] [] 161 (I, J, RF w) else z_go 38 [some (.int 5), some (.int (nI u)), some (.int 5), some (.int 0)] [] 161 (I, J, RF w)) (fun _ => rfl) ?_
  refine z_evI (fun _ => ?_) (fun q => absurd (by decide) q)
  refine z_evL ?_
  refine z_evG 2 (y := z_ret (z_cl E (d + 1) 105 [.int 5] (161, (I, J, RF w))) 16 [some (.int 5), some (.int (nI u)), some (.int 5), some (.int 0)] []) (fun _ => rfl) ?_
  refine z_evK (v := .int (z_bo (¬ 5 < 0 ∧ 5 < 6))) (z' := 161) (σ' := (I, J, RF w)) (x_isKind E d I J w 5) ?_
  refine z_evG 1 (y := if (z_bo (¬ 5 < 0 ∧ 5 < 6)) = 0 then z_go 38 [some (.int 5), some (.int (nI u)), some (.int 5), some (.int 0)] [] 161 (I, J, RF w) else z_go 19 [some (.int 5), some (.int (nI u)), some (.int 5), some (.int 0)] [] 161 (I, J, RF w)) (fun _ => rfl) ?_
  refine z_evF (by decide) ?_
  refine z_evL ?_
  refine z_evG 3 (y := if 5 = (nI u) then z_go 24 [some (.int 5), some (.int (nI u)), some (.int 5), some (.int 0)] [] 161 (I, J, RF w) else z_go 26 [some (.int 5), some (.int (nI u)), some (.int 5), some (.int 0)] [] 161 (I, J, RF w)) (fun _ => rfl) ?_
  refine z_evIN (show _ ↔ 5 = u from z_eqN rfl rfl (by omega) (by omega)) (fun h3 => ?_) (fun h3 => ?_)
  · refine z_evL ?_
    refine z_evG 2 (y := some (.inr (some (.int 1), 161, I, J, RF w))) (fun _ => rfl) ?_
    exact z_evR (by simp [z_bo, h3])
  · refine z_evL ?_
    refine z_evG 3 (y := z_ild (z_ia E 161 (I, J, RF w) 1001) 5 fun vv => z_go 31 [some (.int 5), some (.int (nI u)), some (.int 5), some (.int 0)] [.int vv] 161 (I, J, RF w)) (fun _ => rfl) ?_
    refine z_evBn (N := 6) (f := z_above) (k := 5) rfl rfl (by decide) ?_
    refine z_evL ?_
    refine z_evG 7 (y := if 1 < 6 then z_go 12 [some (.int 5), some (.int (nI u)), some (.int 2), some (.int 1)] [] 161 (I, J, RF w) else z_go 38 [some (.int 5), some (.int (nI u)), some (.int 2), some (.int 1)] [] 161 (I, J, RF w)) (fun _ => rfl) ?_
    refine z_evI (fun _ => ?_) (fun q => absurd (by decide) q)
    refine z_evL ?_
    refine z_evG 2 (y := z_ret (z_cl E (d + 1) 105 [.int 2] (161, (I, J, RF w))) 16 [some (.int 5), some (.int (nI u)), some (.int 2), some (.int 1)] []) (fun _ => rfl) ?_
    refine z_evK (v := .int (z_bo (¬ 2 < 0 ∧ 2 < 6))) (z' := 161) (σ' := (I, J, RF w)) (x_isKind E d I J w 2) ?_
    refine z_evG 1 (y := if (z_bo (¬ 2 < 0 ∧ 2 < 6)) = 0 then z_go 38 [some (.int 5), some (.int (nI u)), some (.int 2), some (.int 1)] [] 161 (I, J, RF w) else z_go 19 [some (.int 5), some (.int (nI u)), some (.int 2), some (.int 1)] [] 161 (I, J, RF w)) (fun _ => rfl) ?_
    refine z_evF (by decide) ?_
    refine z_evL ?_
    refine z_evG 3 (y := if 2 = (nI u) then z_go 24 [some (.int 5), some (.int (nI u)), some (.int 2), some (.int 1)] [] 161 (I, J, RF w) else z_go 26 [some (.int 5), some (.int (nI u)), some (.int 2), some (.int 1)] [] 161 (I, J, RF w)) (fun _ => rfl) ?_
    refine z_evIN (show _ ↔ 2 = u from z_eqN rfl rfl (by omega) (by omega)) (fun h6 => ?_) (fun h6 => ?_)
    · refine z_evL ?_
      refine z_evG 2 (y := some (.inr (some (.int 1), 161, I, J, RF w))) (fun _ => rfl) ?_
      exact z_evR (by simp [z_bo, h3, h6])
    · refine z_evL ?_
      refine z_evG 3 (y := z_ild (z_ia E 161 (I, J, RF w) 1001) 2 fun vv => z_go 31 [some (.int 5), some (.int (nI u)), some (.int 2), some (.int 1)] [.int vv] 161 (I, J, RF w)) (fun _ => rfl) ?_
      refine z_evBn (N := 6) (f := z_above) (k := 2) rfl rfl (by decide) ?_
      refine z_evL ?_
      refine z_evG 7 (y := if 2 < 6 then z_go 12 [some (.int 5), some (.int (nI u)), some (.int 0), some (.int 2)] [] 161 (I, J, RF w) else z_go 38 [some (.int 5), some (.int (nI u)), some (.int 0), some (.int 2)] [] 161 (I, J, RF w)) (fun _ => rfl) ?_
      refine z_evI (fun _ => ?_) (fun q => absurd (by decide) q)
      refine z_evL ?_
      refine z_evG 2 (y := z_ret (z_cl E (d + 1) 105 [.int 0] (161, (I, J, RF w))) 16 [some (.int 5), some (.int (nI u)), some (.int 0), some (.int 2)] []) (fun _ => rfl) ?_
      refine z_evK (v := .int (z_bo (¬ 0 < 0 ∧ 0 < 6))) (z' := 161) (σ' := (I, J, RF w)) (x_isKind E d I J w 0) ?_
      refine z_evG 1 (y := if (z_bo (¬ 0 < 0 ∧ 0 < 6)) = 0 then z_go 38 [some (.int 5), some (.int (nI u)), some (.int 0), some (.int 2)] [] 161 (I, J, RF w) else z_go 19 [some (.int 5), some (.int (nI u)), some (.int 0), some (.int 2)] [] 161 (I, J, RF w)) (fun _ => rfl) ?_
      refine z_evF (by decide) ?_
      refine z_evL ?_
      refine z_evG 3 (y := if 0 = (nI u) then z_go 24 [some (.int 5), some (.int (nI u)), some (.int 0), some (.int 2)] [] 161 (I, J, RF w) else z_go 26 [some (.int 5), some (.int (nI u)), some (.int 0), some (.int 2)] [] 161 (I, J, RF w)) (fun _ => rfl) ?_
      refine z_evIN (show _ ↔ 0 = u from z_eqN rfl rfl (by omega) (by omega)) (fun h9 => ?_) (fun h9 => ?_)
      · refine z_evL ?_
        refine z_evG 2 (y := some (.inr (some (.int 1), 161, I, J, RF w))) (fun _ => rfl) ?_
        exact z_evR (by simp [z_bo, h3, h6, h9])
      · refine z_evL ?_
        refine z_evG 3 (y := z_ild (z_ia E 161 (I, J, RF w) 1001) 0 fun vv => z_go 31 [some (.int 5), some (.int (nI u)), some (.int 0), some (.int 2)] [.int vv] 161 (I, J, RF w)) (fun _ => rfl) ?_
        refine z_evBn (N := 6) (f := z_above) (k := 0) rfl rfl (by decide) ?_
        refine z_evL ?_
        refine z_evG 7 (y := if 3 < 6 then z_go 12 [some (.int 5), some (.int (nI u)), some (.int (-1)), some (.int 3)] [] 161 (I, J, RF w) else z_go 38 [some (.int 5), some (.int (nI u)), some (.int (-1)), some (.int 3)] [] 161 (I, J, RF w)) (fun _ => rfl) ?_
        refine z_evI (fun _ => ?_) (fun q => absurd (by decide) q)
        refine z_evL ?_
        refine z_evG 2 (y := z_ret (z_cl E (d + 1) 105 [.int (-1)] (161, (I, J, RF w))) 16 [some (.int 5), some (.int (nI u)), some (.int (-1)), some (.int 3)] []) (fun _ => rfl) ?_
        refine z_evK (v := .int (z_bo (¬ (-1) < 0 ∧ (-1) < 6))) (z' := 161) (σ' := (I, J, RF w)) (x_isKind E d I J w (-1)) ?_
        refine z_evG 1 (y := if (z_bo (¬ (-1) < 0 ∧ (-1) < 6)) = 0 then z_go 38 [some (.int 5), some (.int (nI u)), some (.int (-1)), some (.int 3)] [] 161 (I, J, RF w) else z_go 19 [some (.int 5), some (.int (nI u)), some (.int (-1)), some (.int 3)] [] 161 (I, J, RF w)) (fun _ => rfl) ?_
        refine z_evT (by decide) ?_
        refine z_evL ?_
        refine z_evG 2 (y := some (.inr (some (.int 0), 161, I, J, RF w))) (fun _ => rfl) ?_
        exact z_evR (by simp [z_bo, h3, h6, h9])
set_option maxRecDepth 20000 in
/-- LampHouse.taken -/
theorem x_taken_badA (E : zE) (d : Nat) (I : Nat → Nat → Int32) (J : Nat → Nat → Int64) (w : Nat) (t u : Int32) (hbad : ¬ (¬ u < 0 ∧ u < 6)) : z_cl E (d + 3) 165 [.ref 0, .int t, .int u] (161, I, J, RF w) = some (some (.int (-2)), 161, I, J, RF w) := by
  refine z_call (d := d + 2) (M := z_m165) rfl rfl ?_
  refine z_evG 2 (y := z_ret (z_cl E (d + 2) 105 [.int u] (161, (I, J, RF w))) 4 [some (.ref 0), some (.int t), some (.int u)] []) (fun _ => rfl) ?_
  refine z_evK (v := .int (z_bo (¬ u < 0 ∧ u < 6))) (z' := 161) (σ' := (I, J, RF w)) (x_isKind E (d + 1) I J w u) ?_
  refine z_evG 1 (y := if (z_bo (¬ u < 0 ∧ u < 6)) = 0 then z_go 7 [some (.ref 0), some (.int t), some (.int u)] [] 161 (I, J, RF w) else z_go 10 [some (.ref 0), some (.int t), some (.int u)] [] 161 (I, J, RF w)) (fun _ => rfl) ?_
  refine z_evO (fun h1 => ?_) (fun h1 => ?_)
  · refine z_evL ?_
    refine z_evG 2 (y := some (.inr (some (.int (-2)), 161, I, J, RF w))) (fun _ => rfl) ?_
    exact z_evR rfl
  · refine z_evL ?_
    exact absurd h1 hbad
set_option maxRecDepth 20000 in
/-- LampHouseModel.taken -/
theorem m_taken_badA (E : zE) (d : Nat) (I : Nat → Nat → Int32) (J : Nat → Nat → Int64) (w : Nat) (t u : Int32) (hbad : ¬ (¬ u < 0 ∧ ¬ 5 < u)) : z_cl E (d + 3) 252 [.ref 127, .int t, .int u] (161, I, J, RF w) = some (some (.int (-2)), 161, I, J, RF w) := by
  refine z_call (d := d + 2) (M := z_m252) rfl rfl ?_
  refine z_evG 4 (y := z_ret (z_cl E (d + 2) 178 [.int u, .int 0, .int 5] (161, (I, J, RF w))) 6 [some (.ref 127), some (.int t), some (.int u), none, none] []) (fun _ => rfl) ?_
  refine z_evK (v := .int (z_bo (¬ u < 0 ∧ ¬ 5 < u))) (z' := 161) (σ' := (I, J, RF w)) (m_in E (d + 1) I J w u 0 5) ?_
  refine z_evG 1 (y := if (z_bo (¬ u < 0 ∧ ¬ 5 < u)) = 0 then z_go 9 [some (.ref 127), some (.int t), some (.int u), none, none] [] 161 (I, J, RF w) else z_go 12 [some (.ref 127), some (.int t), some (.int u), none, none] [] 161 (I, J, RF w)) (fun _ => rfl) ?_
  refine z_evO (fun h1 => ?_) (fun h1 => ?_)
  · refine z_evL ?_
    refine z_evG 2 (y := some (.inr (some (.int (-2)), 161, I, J, RF w))) (fun _ => rfl) ?_
    exact z_evR rfl
  · refine z_evL ?_
    exact absurd h1 hbad
