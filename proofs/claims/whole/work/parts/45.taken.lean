-- TAKEN; numbers of a row
set_option maxRecDepth 20000 in
/-- LampHouse.taken -/
theorem x_taken_badB (E : zE) (d : Nat) (I : Nat → Nat → Int32) (J : Nat → Nat → Int64) (w : Nat) (t : Int32) (u : Nat) (hl_u : u < 6) (hbad : ¬ (¬ t < 0 ∧ t < I 37 7)) : z_cl E (d + 3) 165 [.ref 0, .int t, .int (nI u)] (161, I, J, RF w) = some (some (.int (-11)), 161, I, J, RF w) := by
  refine z_call (d := d + 2) (M := z_m165) rfl rfl ?_
  refine z_evG 2 (y := z_ret (z_cl E (d + 2) 105 [.int (nI u)] (161, (I, J, RF w))) 4 [some (.ref 0), some (.int t), some (.int (nI u))] []) (fun _ => rfl) ?_
  refine z_evK (v := .int (z_bo (¬ (nI u) < 0 ∧ (nI u) < 6))) (z' := 161) (σ' := (I, J, RF w)) (x_isKind E (d + 1) I J w (nI u)) ?_
  refine z_evG 1 (y := if (z_bo (¬ (nI u) < 0 ∧ (nI u) < 6)) = 0 then z_go 7 [some (.ref 0), some (.int t), some (.int (nI u))] [] 161 (I, J, RF w) else z_go 10 [some (.ref 0), some (.int t), some (.int (nI u))] [] 161 (I, J, RF w)) (fun _ => rfl) ?_
  refine z_evF (fun q0 => z_bo_0.mp q0 ⟨nI_pos (by omega), (z_ltN (b := 6) rfl rfl (by omega) (by decide)).mpr (by omega)⟩) ?_
  refine z_evL ?_
  refine z_evG 4 (y := z_ret (z_cl E (d + 2) 108 [.ref 37, .int t] (161, (I, J, RF w))) 18 [some (.ref 0), some (.int t), some (.int (nI u))] []) (fun _ => rfl) ?_
  refine z_evK (v := .int (z_bo (¬ t < 0 ∧ t < I 37 7))) (z' := 161) (σ' := (I, J, RF w)) (x_things_has E (d + 1) I J w t) ?_
  refine z_evG 1 (y := if (z_bo (¬ t < 0 ∧ t < I 37 7)) = 0 then z_go 21 [some (.ref 0), some (.int t), some (.int (nI u))] [] 161 (I, J, RF w) else z_go 24 [some (.ref 0), some (.int t), some (.int (nI u))] [] 161 (I, J, RF w)) (fun _ => rfl) ?_
  refine z_evO (fun h2 => ?_) (fun h2 => ?_)
  · refine z_evL ?_
    refine z_evG 2 (y := some (.inr (some (.int (-11)), 161, I, J, RF w))) (fun _ => rfl) ?_
    exact z_evR rfl
  · refine z_evL ?_
    exact absurd h2 hbad
set_option maxRecDepth 20000 in
/-- LampHouseModel.taken -/
theorem m_taken_badB (E : zE) (d : Nat) (I : Nat → Nat → Int32) (J : Nat → Nat → Int64) (w : Nat) (t : Int32) (u : Nat) (hl_u : u < 6) (hbad : ¬ (¬ t < 0 ∧ ¬ I 127 3 - 1 < t)) : z_cl E (d + 3) 252 [.ref 127, .int t, .int (nI u)] (161, I, J, RF w) = some (some (.int (-11)), 161, I, J, RF w) := by
  refine z_call (d := d + 2) (M := z_m252) rfl rfl ?_
  refine z_evG 4 (y := z_ret (z_cl E (d + 2) 178 [.int (nI u), .int 0, .int 5] (161, (I, J, RF w))) 6 [some (.ref 127), some (.int t), some (.int (nI u)), none, none] []) (fun _ => rfl) ?_
  refine z_evK (v := .int (z_bo (¬ (nI u) < 0 ∧ ¬ 5 < (nI u)))) (z' := 161) (σ' := (I, J, RF w)) (m_in E (d + 1) I J w (nI u) 0 5) ?_
  refine z_evG 1 (y := if (z_bo (¬ (nI u) < 0 ∧ ¬ 5 < (nI u))) = 0 then z_go 9 [some (.ref 127), some (.int t), some (.int (nI u)), none, none] [] 161 (I, J, RF w) else z_go 12 [some (.ref 127), some (.int t), some (.int (nI u)), none, none] [] 161 (I, J, RF w)) (fun _ => rfl) ?_
  refine z_evF (fun q0 => z_bo_0.mp q0 ⟨nI_pos (by omega), mt (show _ ↔ 5 < u from z_ltN rfl rfl (by decide) (by omega)).mp (by omega)⟩) ?_
  refine z_evL ?_
  refine z_evG 3 (y := z_ret (z_cl E (d + 2) 183 [.ref 127, .int t] (161, (I, J, RF w))) 17 [some (.ref 127), some (.int t), some (.int (nI u)), none, none] []) (fun _ => rfl) ?_
  refine z_evK (v := .int (z_bo (¬ t < 0 ∧ ¬ I 127 3 - 1 < t))) (z' := 161) (σ' := (I, J, RF w)) (m_isThing E d I J w t) ?_
  refine z_evG 1 (y := if (z_bo (¬ t < 0 ∧ ¬ I 127 3 - 1 < t)) = 0 then z_go 20 [some (.ref 127), some (.int t), some (.int (nI u)), none, none] [] 161 (I, J, RF w) else z_go 23 [some (.ref 127), some (.int t), some (.int (nI u)), none, none] [] 161 (I, J, RF w)) (fun _ => rfl) ?_
  refine z_evO (fun h2 => ?_) (fun h2 => ?_)
  · refine z_evL ?_
    refine z_evG 2 (y := some (.inr (some (.int (-11)), 161, I, J, RF w))) (fun _ => rfl) ?_
    exact z_evR rfl
  · refine z_evL ?_
    exact absurd h2 hbad
set_option maxRecDepth 20000 in
/-- LampHouse.taken -/
theorem x_taken_0 (E : zE) (d : Nat) (I : Nat → Nat → Int32) (J : Nat → Nat → Int64) (w : Nat) (t u n : Nat) (h_n : I 37 7 = nI n) (hm_n : n ≤ 20) (hl_t : t < n) (hl_u : u < 6) (hK : I 38 t = 0) : z_cl E (d + 3) 165 [.ref 0, .int (nI t), .int (nI u)] (161, I, J, RF w) = some (some (.int (if 0 = u then I 40 t else (-13))), 161, I, J, RF w) := by
  refine z_call (d := d + 2) (M := z_m165) rfl rfl ?_
  refine z_evG 2 (y := z_ret (z_cl E (d + 2) 105 [.int (nI u)] (161, (I, J, RF w))) 4 [some (.ref 0), some (.int (nI t)), some (.int (nI u))] []) (fun _ => rfl) ?_
  refine z_evK (v := .int (z_bo (¬ (nI u) < 0 ∧ (nI u) < 6))) (z' := 161) (σ' := (I, J, RF w)) (x_isKind E (d + 1) I J w (nI u)) ?_
  refine z_evG 1 (y := if (z_bo (¬ (nI u) < 0 ∧ (nI u) < 6)) = 0 then z_go 7 [some (.ref 0), some (.int (nI t)), some (.int (nI u))] [] 161 (I, J, RF w) else z_go 10 [some (.ref 0), some (.int (nI t)), some (.int (nI u))] [] 161 (I, J, RF w)) (fun _ => rfl) ?_
  refine z_evF (fun q0 => z_bo_0.mp q0 ⟨(mt (show _ ↔ u < 0 from z_ltN rfl rfl (by omega) (by omega)).mp (by omega)), ((show _ ↔ u < 6 from z_ltN rfl rfl (by omega) (by omega)).mpr (by omega))⟩) ?_
  refine z_evL ?_
  refine z_evG 4 (y := z_ret (z_cl E (d + 2) 108 [.ref 37, .int (nI t)] (161, (I, J, RF w))) 18 [some (.ref 0), some (.int (nI t)), some (.int (nI u))] []) (fun _ => rfl) ?_
  refine z_evK (v := .int (z_bo (¬ (nI t) < 0 ∧ (nI t) < I 37 7))) (z' := 161) (σ' := (I, J, RF w)) (x_things_has E (d + 1) I J w (nI t)) ?_
  refine z_evG 1 (y := if (z_bo (¬ (nI t) < 0 ∧ (nI t) < I 37 7)) = 0 then z_go 21 [some (.ref 0), some (.int (nI t)), some (.int (nI u))] [] 161 (I, J, RF w) else z_go 24 [some (.ref 0), some (.int (nI t)), some (.int (nI u))] [] 161 (I, J, RF w)) (fun _ => rfl) ?_
  refine z_evF (fun q0 => z_bo_0.mp q0 ⟨(mt (show _ ↔ t < 0 from z_ltN rfl rfl (by omega) (by omega)).mp (by omega)), ((show _ ↔ t < n from z_ltN rfl h_n (by omega) (by omega)).mpr (by omega))⟩) ?_
  refine z_evL ?_
  refine z_evG 4 (y := z_ret (z_cl E (d + 2) 113 [.ref 37, .int (nI t)] (161, (I, J, RF w))) 32 [some (.ref 0), some (.int (nI t)), some (.int (nI u))] []) (fun _ => rfl) ?_
  refine z_evK (v := .int (I 38 t)) (z' := 161) (σ' := (I, J, RF w)) (x_things_kindOfN E (d + 1) I J w t (by omega)) ?_
  refine z_evG 2 (y := z_ret (z_cl E (d + 2) 106 [.int (I 38 t), .int (nI u)] (161, (I, J, RF w))) 36 [some (.ref 0), some (.int (nI t)), some (.int (nI u))] []) (fun _ => rfl) ?_
  rw [hK]
  refine z_evK (v := .int (z_bo (0 = u))) (z' := 161) (σ' := (I, J, RF w)) (x_isUnder_0 E d I J w u (by omega)) ?_
  refine z_evG 1 (y := if (z_bo (0 = u)) = 0 then z_go 50 [some (.ref 0), some (.int (nI t)), some (.int (nI u))] [] 161 (I, J, RF w) else z_go 39 [some (.ref 0), some (.int (nI t)), some (.int (nI u))] [] 161 (I, J, RF w)) (fun _ => rfl) ?_
  refine z_evO (fun h3 => ?_) (fun h3 => ?_)
  · refine z_evL ?_
    refine z_evG 2 (y := some (.inr (some (.int (-13)), 161, I, J, RF w))) (fun _ => rfl) ?_
    exact z_evR (by rw [if_neg (by omega)])
  · refine z_evL ?_
    refine z_evG 4 (y := z_ret (z_cl E (d + 2) 115 [.ref 37, .int (nI t)] (161, (I, J, RF w))) 47 [some (.ref 0), some (.int (nI t)), some (.int (nI u))] []) (fun _ => rfl) ?_
    refine z_evK (v := .int (I 40 t)) (z' := 161) (σ' := (I, J, RF w)) (x_things_numberOfN E (d + 1) I J w t (by omega)) ?_
    refine z_evG 2 (y := some (.inr (some (.int (I 40 t)), 161, I, J, RF w))) (fun _ => rfl) ?_
    exact z_evR (by rw [if_pos (by omega)])
set_option maxRecDepth 20000 in
/-- LampHouseModel.taken -/
theorem m_taken_0 (E : zE) (d : Nat) (I : Nat → Nat → Int32) (J : Nat → Nat → Int64) (w : Nat) (t u n : Nat) (h_n : I 127 3 = nI n) (hm_n : n ≤ 20) (hl_t : t < n) (hl_u : u < 6) (hK : I 129 t = 0) : z_cl E (d + 3) 252 [.ref 127, .int (nI t), .int (nI u)] (161, I, J, RF w) = some (some (.int (if 0 = u then I 131 t else (-13))), 161, I, J, RF w) := by
  refine z_call (d := d + 2) (M := z_m252) rfl rfl ?_
  refine z_evG 4 (y := z_ret (z_cl E (d + 2) 178 [.int (nI u), .int 0, .int 5] (161, (I, J, RF w))) 6 [some (.ref 127), some (.int (nI t)), some (.int (nI u)), none, none] []) (fun _ => rfl) ?_
  refine z_evK (v := .int (z_bo (¬ (nI u) < 0 ∧ ¬ 5 < (nI u)))) (z' := 161) (σ' := (I, J, RF w)) (m_in E (d + 1) I J w (nI u) 0 5) ?_
  refine z_evG 1 (y := if (z_bo (¬ (nI u) < 0 ∧ ¬ 5 < (nI u))) = 0 then z_go 9 [some (.ref 127), some (.int (nI t)), some (.int (nI u)), none, none] [] 161 (I, J, RF w) else z_go 12 [some (.ref 127), some (.int (nI t)), some (.int (nI u)), none, none] [] 161 (I, J, RF w)) (fun _ => rfl) ?_
  refine z_evF (fun q0 => z_bo_0.mp q0 ⟨(mt (show _ ↔ u < 0 from z_ltN rfl rfl (by omega) (by omega)).mp (by omega)), (mt (show _ ↔ 5 < u from z_ltN rfl rfl (by omega) (by omega)).mp (by omega))⟩) ?_
  refine z_evL ?_
  refine z_evG 3 (y := z_ret (z_cl E (d + 2) 183 [.ref 127, .int (nI t)] (161, (I, J, RF w))) 17 [some (.ref 127), some (.int (nI t)), some (.int (nI u)), none, none] []) (fun _ => rfl) ?_
  refine z_evK (v := .int (z_bo (¬ (nI t) < 0 ∧ ¬ I 127 3 - 1 < (nI t)))) (z' := 161) (σ' := (I, J, RF w)) (m_isThing E d I J w (nI t)) ?_
  refine z_evG 1 (y := if (z_bo (¬ (nI t) < 0 ∧ ¬ I 127 3 - 1 < (nI t))) = 0 then z_go 20 [some (.ref 127), some (.int (nI t)), some (.int (nI u)), none, none] [] 161 (I, J, RF w) else z_go 23 [some (.ref 127), some (.int (nI t)), some (.int (nI u)), none, none] [] 161 (I, J, RF w)) (fun _ => rfl) ?_
  refine z_evF (fun q0 => z_bo_0.mp q0 ⟨(mt (show _ ↔ t < 0 from z_ltN rfl rfl (by omega) (by omega)).mp (by omega)), (z_plt h_n rfl (by omega) (by omega))⟩) ?_
  refine z_evL ?_
  refine z_evG 4 (y := z_ild (z_ia E 161 (I, J, RF w) 129) (nI t) fun vv => z_go 29 [some (.ref 127), some (.int (nI t)), some (.int (nI u)), none, none] [.int vv] 161 (I, J, RF w)) (fun _ => rfl) ?_
  refine z_evBn (N := 20) (f := (I 129)) (k := t) rfl rfl (by omega) ?_
  refine z_evL ?_
  rw [show I 129 t = 0 from hK]
  refine z_evG 3 (y := if (nI u) = 0 then z_go 64 [some (.ref 127), some (.int (nI t)), some (.int (nI u)), some (.int 0), none] [] 161 (I, J, RF w) else z_go 34 [some (.ref 127), some (.int (nI t)), some (.int (nI u)), some (.int 0), none] [] 161 (I, J, RF w)) (fun _ => rfl) ?_
  refine z_evIN (show _ ↔ u = 0 from z_eqN rfl rfl (by omega) (by omega)) (fun h3 => ?_) (fun h3 => ?_)
  · refine z_evL ?_
    refine z_evG 5 (y := if 1 = 0 then z_go 85 [some (.ref 127), some (.int (nI t)), some (.int (nI u)), some (.int 0), some (.int 1)] [] 161 (I, J, RF w) else z_go 76 [some (.ref 127), some (.int (nI t)), some (.int (nI u)), some (.int 0), some (.int 1)] [] 161 (I, J, RF w)) (fun _ => rfl) ?_
    refine z_evI (fun q => absurd q (by decide)) (fun _ => ?_)
    refine z_evL ?_
    refine z_evG 4 (y := z_ild (z_ia E 161 (I, J, RF w) 131) (nI t) fun vv => z_go 82 [some (.ref 127), some (.int (nI t)), some (.int (nI u)), some (.int 0), some (.int 1)] [.int vv] 161 (I, J, RF w)) (fun _ => rfl) ?_
    refine z_evBn (N := 20) (f := (I 131)) (k := t) rfl rfl (by omega) ?_
    refine z_evL ?_
    refine z_evG 2 (y := some (.inr (some (.int (I 131 t)), 161, I, J, RF w))) (fun _ => rfl) ?_
    exact z_evR (by rw [if_pos (by omega)])
  · refine z_evL ?_
    refine z_evG 3 (y := if 0 = (nI u) then z_go 64 [some (.ref 127), some (.int (nI t)), some (.int (nI u)), some (.int 0), none] [] 161 (I, J, RF w) else z_go 39 [some (.ref 127), some (.int (nI t)), some (.int (nI u)), some (.int 0), none] [] 161 (I, J, RF w)) (fun _ => rfl) ?_
    refine z_evIN (show _ ↔ 0 = u from z_eqN rfl rfl (by omega) (by omega)) (fun h5 => ?_) (fun h5 => ?_)
    · refine z_evL ?_
      refine z_evG 5 (y := if 1 = 0 then z_go 85 [some (.ref 127), some (.int (nI t)), some (.int (nI u)), some (.int 0), some (.int 1)] [] 161 (I, J, RF w) else z_go 76 [some (.ref 127), some (.int (nI t)), some (.int (nI u)), some (.int 0), some (.int 1)] [] 161 (I, J, RF w)) (fun _ => rfl) ?_
      refine z_evI (fun q => absurd q (by decide)) (fun _ => ?_)
      refine z_evL ?_
      refine z_evG 4 (y := z_ild (z_ia E 161 (I, J, RF w) 131) (nI t) fun vv => z_go 82 [some (.ref 127), some (.int (nI t)), some (.int (nI u)), some (.int 0), some (.int 1)] [.int vv] 161 (I, J, RF w)) (fun _ => rfl) ?_
      refine z_evBn (N := 20) (f := (I 131)) (k := t) rfl rfl (by omega) ?_
      refine z_evL ?_
      refine z_evG 2 (y := some (.inr (some (.int (I 131 t)), 161, I, J, RF w))) (fun _ => rfl) ?_
      exact z_evR (by rw [if_pos (by omega)])
    · refine z_evL ?_
      refine z_evG 3 (y := if (nI u) = 1 then z_go 44 [some (.ref 127), some (.int (nI t)), some (.int (nI u)), some (.int 0), none] [] 161 (I, J, RF w) else z_go 49 [some (.ref 127), some (.int (nI t)), some (.int (nI u)), some (.int 0), none] [] 161 (I, J, RF w)) (fun _ => rfl) ?_
      refine z_evIN (show _ ↔ u = 1 from z_eqN rfl rfl (by omega) (by omega)) (fun h7 => ?_) (fun h7 => ?_)
      · refine z_evL ?_
        refine z_evG 3 (y := if 0 = 3 then z_go 64 [some (.ref 127), some (.int (nI t)), some (.int (nI u)), some (.int 0), none] [] 161 (I, J, RF w) else z_go 49 [some (.ref 127), some (.int (nI t)), some (.int (nI u)), some (.int 0), none] [] 161 (I, J, RF w)) (fun _ => rfl) ?_
        refine z_evI (fun q => absurd q (by decide)) (fun _ => ?_)
        refine z_evL ?_
        refine z_evG 3 (y := if (nI u) = 2 then z_go 54 [some (.ref 127), some (.int (nI t)), some (.int (nI u)), some (.int 0), none] [] 161 (I, J, RF w) else z_go 68 [some (.ref 127), some (.int (nI t)), some (.int (nI u)), some (.int 0), none] [] 161 (I, J, RF w)) (fun _ => rfl) ?_
        refine z_evIN (show _ ↔ u = 2 from z_eqN rfl rfl (by omega) (by omega)) (fun h9 => ?_) (fun h9 => ?_)
        · refine z_evL ?_
          refine z_evG 3 (y := if 0 = 4 then z_go 64 [some (.ref 127), some (.int (nI t)), some (.int (nI u)), some (.int 0), none] [] 161 (I, J, RF w) else z_go 59 [some (.ref 127), some (.int (nI t)), some (.int (nI u)), some (.int 0), none] [] 161 (I, J, RF w)) (fun _ => rfl) ?_
          refine z_evI (fun q => absurd q (by decide)) (fun _ => ?_)
          refine z_evL ?_
          refine z_evG 3 (y := if 0 = 5 then z_go 64 [some (.ref 127), some (.int (nI t)), some (.int (nI u)), some (.int 0), none] [] 161 (I, J, RF w) else z_go 68 [some (.ref 127), some (.int (nI t)), some (.int (nI u)), some (.int 0), none] [] 161 (I, J, RF w)) (fun _ => rfl) ?_
          refine z_evI (fun q => absurd q (by decide)) (fun _ => ?_)
          refine z_evL ?_
          refine z_evG 4 (y := if 0 = 0 then z_go 85 [some (.ref 127), some (.int (nI t)), some (.int (nI u)), some (.int 0), some (.int 0)] [] 161 (I, J, RF w) else z_go 76 [some (.ref 127), some (.int (nI t)), some (.int (nI u)), some (.int 0), some (.int 0)] [] 161 (I, J, RF w)) (fun _ => rfl) ?_
          refine z_evI (fun _ => ?_) (fun q => absurd (by decide) q)
          refine z_evL ?_
          refine z_evG 2 (y := some (.inr (some (.int (-13)), 161, I, J, RF w))) (fun _ => rfl) ?_
          exact z_evR (by rw [if_neg (by omega)])
        · refine z_evL ?_
          refine z_evG 4 (y := if 0 = 0 then z_go 85 [some (.ref 127), some (.int (nI t)), some (.int (nI u)), some (.int 0), some (.int 0)] [] 161 (I, J, RF w) else z_go 76 [some (.ref 127), some (.int (nI t)), some (.int (nI u)), some (.int 0), some (.int 0)] [] 161 (I, J, RF w)) (fun _ => rfl) ?_
          refine z_evI (fun _ => ?_) (fun q => absurd (by decide) q)
          refine z_evL ?_
          refine z_evG 2 (y := some (.inr (some (.int (-13)), 161, I, J, RF w))) (fun _ => rfl) ?_
          exact z_evR (by rw [if_neg (by omega)])
      · refine z_evL ?_
        refine z_evG 3 (y := if (nI u) = 2 then z_go 54 [some (.ref 127), some (.int (nI t)), some (.int (nI u)), some (.int 0), none] [] 161 (I, J, RF w) else z_go 68 [some (.ref 127), some (.int (nI t)), some (.int (nI u)), some (.int 0), none] [] 161 (I, J, RF w)) (fun _ => rfl) ?_
        refine z_evIN (show _ ↔ u = 2 from z_eqN rfl rfl (by omega) (by omega)) (fun h14 => ?_) (fun h14 => ?_)
        · refine z_evL ?_
          refine z_evG 3 (y := if 0 = 4 then z_go 64 [some (.ref 127), some (.int (nI t)), some (.int (nI u)), some (.int 0), none] [] 161 (I, J, RF w) else z_go 59 [some (.ref 127), some (.int (nI t)), some (.int (nI u)), some (.int 0), none] [] 161 (I, J, RF w)) (fun _ => rfl) ?_
          refine z_evI (fun q => absurd q (by decide)) (fun _ => ?_)
          refine z_evL ?_
          refine z_evG 3 (y := if 0 = 5 then z_go 64 [some (.ref 127), some (.int (nI t)), some (.int (nI u)), some (.int 0), none] [] 161 (I, J, RF w) else z_go 68 [some (.ref 127), some (.int (nI t)), some (.int (nI u)), some (.int 0), none] [] 161 (I, J, RF w)) (fun _ => rfl) ?_
          refine z_evI (fun q => absurd q (by decide)) (fun _ => ?_)
          refine z_evL ?_
          refine z_evG 4 (y := if 0 = 0 then z_go 85 [some (.ref 127), some (.int (nI t)), some (.int (nI u)), some (.int 0), some (.int 0)] [] 161 (I, J, RF w) else z_go 76 [some (.ref 127), some (.int (nI t)), some (.int (nI u)), some (.int 0), some (.int 0)] [] 161 (I, J, RF w)) (fun _ => rfl) ?_
          refine z_evI (fun _ => ?_) (fun q => absurd (by decide) q)
          refine z_evL ?_
          refine z_evG 2 (y := some (.inr (some (.int (-13)), 161, I, J, RF w))) (fun _ => rfl) ?_
          exact z_evR (by rw [if_neg (by omega)])
        · refine z_evL ?_
          refine z_evG 4 (y := if 0 = 0 then z_go 85 [some (.ref 127), some (.int (nI t)), some (.int (nI u)), some (.int 0), some (.int 0)] [] 161 (I, J, RF w) else z_go 76 [some (.ref 127), some (.int (nI t)), some (.int (nI u)), some (.int 0), some (.int 0)] [] 161 (I, J, RF w)) (fun _ => rfl) ?_
          refine z_evI (fun _ => ?_) (fun q => absurd (by decide) q)
          refine z_evL ?_
          refine z_evG 2 (y := some (.inr (some (.int (-13)), 161, I, J, RF w))) (fun _ => rfl) ?_
          exact z_evR (by rw [if_neg (by omega)])
set_option maxRecDepth 20000 in
/-- LampHouse.taken -/
theorem x_taken_1 (E : zE) (d : Nat) (I : Nat → Nat → Int32) (J : Nat → Nat → Int64) (w : Nat) (t u n : Nat) (h_n : I 37 7 = nI n) (hm_n : n ≤ 20) (hl_t : t < n) (hl_u : u < 6) (hK : I 38 t = 1) : z_cl E (d + 3) 165 [.ref 0, .int (nI t), .int (nI u)] (161, I, J, RF w) = some (some (.int (if 1 = u ∨ 0 = u then I 40 t else (-13))), 161, I, J, RF w) := by
  refine z_call (d := d + 2) (M := z_m165) rfl rfl ?_
  refine z_evG 2 (y := z_ret (z_cl E (d + 2) 105 [.int (nI u)] (161, (I, J, RF w))) 4 [some (.ref 0), some (.int (nI t)), some (.int (nI u))] []) (fun _ => rfl) ?_
  refine z_evK (v := .int (z_bo (¬ (nI u) < 0 ∧ (nI u) < 6))) (z' := 161) (σ' := (I, J, RF w)) (x_isKind E (d + 1) I J w (nI u)) ?_
  refine z_evG 1 (y := if (z_bo (¬ (nI u) < 0 ∧ (nI u) < 6)) = 0 then z_go 7 [some (.ref 0), some (.int (nI t)), some (.int (nI u))] [] 161 (I, J, RF w) else z_go 10 [some (.ref 0), some (.int (nI t)), some (.int (nI u))] [] 161 (I, J, RF w)) (fun _ => rfl) ?_
  refine z_evF (fun q0 => z_bo_0.mp q0 ⟨(mt (show _ ↔ u < 0 from z_ltN rfl rfl (by omega) (by omega)).mp (by omega)), ((show _ ↔ u < 6 from z_ltN rfl rfl (by omega) (by omega)).mpr (by omega))⟩) ?_
  refine z_evL ?_
  refine z_evG 4 (y := z_ret (z_cl E (d + 2) 108 [.ref 37, .int (nI t)] (161, (I, J, RF w))) 18 [some (.ref 0), some (.int (nI t)), some (.int (nI u))] []) (fun _ => rfl) ?_
  refine z_evK (v := .int (z_bo (¬ (nI t) < 0 ∧ (nI t) < I 37 7))) (z' := 161) (σ' := (I, J, RF w)) (x_things_has E (d + 1) I J w (nI t)) ?_
  refine z_evG 1 (y := if (z_bo (¬ (nI t) < 0 ∧ (nI t) < I 37 7)) = 0 then z_go 21 [some (.ref 0), some (.int (nI t)), some (.int (nI u))] [] 161 (I, J, RF w) else z_go 24 [some (.ref 0), some (.int (nI t)), some (.int (nI u))] [] 161 (I, J, RF w)) (fun _ => rfl) ?_
  refine z_evF (fun q0 => z_bo_0.mp q0 ⟨(mt (show _ ↔ t < 0 from z_ltN rfl rfl (by omega) (by omega)).mp (by omega)), ((show _ ↔ t < n from z_ltN rfl h_n (by omega) (by omega)).mpr (by omega))⟩) ?_
  refine z_evL ?_
  refine z_evG 4 (y := z_ret (z_cl E (d + 2) 113 [.ref 37, .int (nI t)] (161, (I, J, RF w))) 32 [some (.ref 0), some (.int (nI t)), some (.int (nI u))] []) (fun _ => rfl) ?_
  refine z_evK (v := .int (I 38 t)) (z' := 161) (σ' := (I, J, RF w)) (x_things_kindOfN E (d + 1) I J w t (by omega)) ?_
  refine z_evG 2 (y := z_ret (z_cl E (d + 2) 106 [.int (I 38 t), .int (nI u)] (161, (I, J, RF w))) 36 [some (.ref 0), some (.int (nI t)), some (.int (nI u))] []) (fun _ => rfl) ?_
  rw [hK]
  refine z_evK (v := .int (z_bo (1 = u ∨ 0 = u))) (z' := 161) (σ' := (I, J, RF w)) (x_isUnder_1 E d I J w u (by omega)) ?_
  refine z_evG 1 (y := if (z_bo (1 = u ∨ 0 = u)) = 0 then z_go 50 [some (.ref 0), some (.int (nI t)), some (.int (nI u))] [] 161 (I, J, RF w) else z_go 39 [some (.ref 0), some (.int (nI t)), some (.int (nI u))] [] 161 (I, J, RF w)) (fun _ => rfl) ?_
  refine z_evO (fun h3 => ?_) (fun h3 => ?_)
  · refine z_evL ?_
    refine z_evG 2 (y := some (.inr (some (.int (-13)), 161, I, J, RF w))) (fun _ => rfl) ?_
    exact z_evR (by rw [if_neg (by omega)])
  · refine z_evL ?_
    refine z_evG 4 (y := z_ret (z_cl E (d + 2) 115 [.ref 37, .int (nI t)] (161, (I, J, RF w))) 47 [some (.ref 0), some (.int (nI t)), some (.int (nI u))] []) (fun _ => rfl) ?_
    refine z_evK (v := .int (I 40 t)) (z' := 161) (σ' := (I, J, RF w)) (x_things_numberOfN E (d + 1) I J w t (by omega)) ?_
    refine z_evG 2 (y := some (.inr (some (.int (I 40 t)), 161, I, J, RF w))) (fun _ => rfl) ?_
    exact z_evR (by rw [if_pos (by omega)])
set_option maxRecDepth 20000 in
/-- LampHouseModel.taken -/
theorem m_taken_1 (E : zE) (d : Nat) (I : Nat → Nat → Int32) (J : Nat → Nat → Int64) (w : Nat) (t u n : Nat) (h_n : I 127 3 = nI n) (hm_n : n ≤ 20) (hl_t : t < n) (hl_u : u < 6) (hK : I 129 t = 1) : z_cl E (d + 3) 252 [.ref 127, .int (nI t), .int (nI u)] (161, I, J, RF w) = some (some (.int (if 1 = u ∨ 0 = u then I 131 t else (-13))), 161, I, J, RF w) := by
  refine z_call (d := d + 2) (M := z_m252) rfl rfl ?_
  refine z_evG 4 (y := z_ret (z_cl E (d + 2) 178 [.int (nI u), .int 0, .int 5] (161, (I, J, RF w))) 6 [some (.ref 127), some (.int (nI t)), some (.int (nI u)), none, none] []) (fun _ => rfl) ?_
  refine z_evK (v := .int (z_bo (¬ (nI u) < 0 ∧ ¬ 5 < (nI u)))) (z' := 161) (σ' := (I, J, RF w)) (m_in E (d + 1) I J w (nI u) 0 5) ?_
  refine z_evG 1 (y := if (z_bo (¬ (nI u) < 0 ∧ ¬ 5 < (nI u))) = 0 then z_go 9 [some (.ref 127), some (.int (nI t)), some (.int (nI u)), none, none] [] 161 (I, J, RF w) else z_go 12 [some (.ref 127), some (.int (nI t)), some (.int (nI u)), none, none] [] 161 (I, J, RF w)) (fun _ => rfl) ?_
  refine z_evF (fun q0 => z_bo_0.mp q0 ⟨(mt (show _ ↔ u < 0 from z_ltN rfl rfl (by omega) (by omega)).mp (by omega)), (mt (show _ ↔ 5 < u from z_ltN rfl rfl (by omega) (by omega)).mp (by omega))⟩) ?_
  refine z_evL ?_
  refine z_evG 3 (y := z_ret (z_cl E (d + 2) 183 [.ref 127, .int (nI t)] (161, (I, J, RF w))) 17 [some (.ref 127), some (.int (nI t)), some (.int (nI u)), none, none] []) (fun _ => rfl) ?_
  refine z_evK (v := .int (z_bo (¬ (nI t) < 0 ∧ ¬ I 127 3 - 1 < (nI t)))) (z' := 161) (σ' := (I, J, RF w)) (m_isThing E d I J w (nI t)) ?_
  refine z_evG 1 (y := if (z_bo (¬ (nI t) < 0 ∧ ¬ I 127 3 - 1 < (nI t))) = 0 then z_go 20 [some (.ref 127), some (.int (nI t)), some (.int (nI u)), none, none] [] 161 (I, J, RF w) else z_go 23 [some (.ref 127), some (.int (nI t)), some (.int (nI u)), none, none] [] 161 (I, J, RF w)) (fun _ => rfl) ?_
  refine z_evF (fun q0 => z_bo_0.mp q0 ⟨(mt (show _ ↔ t < 0 from z_ltN rfl rfl (by omega) (by omega)).mp (by omega)), (z_plt h_n rfl (by omega) (by omega))⟩) ?_
  refine z_evL ?_
  refine z_evG 4 (y := z_ild (z_ia E 161 (I, J, RF w) 129) (nI t) fun vv => z_go 29 [some (.ref 127), some (.int (nI t)), some (.int (nI u)), none, none] [.int vv] 161 (I, J, RF w)) (fun _ => rfl) ?_
  refine z_evBn (N := 20) (f := (I 129)) (k := t) rfl rfl (by omega) ?_
  refine z_evL ?_
  rw [show I 129 t = 1 from hK]
  refine z_evG 3 (y := if (nI u) = 0 then z_go 64 [some (.ref 127), some (.int (nI t)), some (.int (nI u)), some (.int 1), none] [] 161 (I, J, RF w) else z_go 34 [some (.ref 127), some (.int (nI t)), some (.int (nI u)), some (.int 1), none] [] 161 (I, J, RF w)) (fun _ => rfl) ?_
  refine z_evIN (show _ ↔ u = 0 from z_eqN rfl rfl (by omega) (by omega)) (fun h3 => ?_) (fun h3 => ?_)
  · refine z_evL ?_
    refine z_evG 5 (y := if 1 = 0 then z_go 85 [some (.ref 127), some (.int (nI t)), some (.int (nI u)), some (.int 1), some (.int 1)] [] 161 (I, J, RF w) else z_go 76 [some (.ref 127), some (.int (nI t)), some (.int (nI u)), some (.int 1), some (.int 1)] [] 161 (I, J, RF w)) (fun _ => rfl) ?_
    refine z_evI (fun q => absurd q (by decide)) (fun _ => ?_)
    refine z_evL ?_
    refine z_evG 4 (y := z_ild (z_ia E 161 (I, J, RF w) 131) (nI t) fun vv => z_go 82 [some (.ref 127), some (.int (nI t)), some (.int (nI u)), some (.int 1), some (.int 1)] [.int vv] 161 (I, J, RF w)) (fun _ => rfl) ?_
    refine z_evBn (N := 20) (f := (I 131)) (k := t) rfl rfl (by omega) ?_
    refine z_evL ?_
    refine z_evG 2 (y := some (.inr (some (.int (I 131 t)), 161, I, J, RF w))) (fun _ => rfl) ?_
    exact z_evR (by rw [if_pos (by omega)])
  · refine z_evL ?_
    refine z_evG 3 (y := if 1 = (nI u) then z_go 64 [some (.ref 127), some (.int (nI t)), some (.int (nI u)), some (.int 1), none] [] 161 (I, J, RF w) else z_go 39 [some (.ref 127), some (.int (nI t)), some (.int (nI u)), some (.int 1), none] [] 161 (I, J, RF w)) (fun _ => rfl) ?_
    refine z_evIN (show _ ↔ 1 = u from z_eqN rfl rfl (by omega) (by omega)) (fun h5 => ?_) (fun h5 => ?_)
    · refine z_evL ?_
      refine z_evG 5 (y := if 1 = 0 then z_go 85 [some (.ref 127), some (.int (nI t)), some (.int (nI u)), some (.int 1), some (.int 1)] [] 161 (I, J, RF w) else z_go 76 [some (.ref 127), some (.int (nI t)), some (.int (nI u)), some (.int 1), some (.int 1)] [] 161 (I, J, RF w)) (fun _ => rfl) ?_
      refine z_evI (fun q => absurd q (by decide)) (fun _ => ?_)
      refine z_evL ?_
      refine z_evG 4 (y := z_ild (z_ia E 161 (I, J, RF w) 131) (nI t) fun vv => z_go 82 [some (.ref 127), some (.int (nI t)), some (.int (nI u)), some (.int 1), some (.int 1)] [.int vv] 161 (I, J, RF w)) (fun _ => rfl) ?_
      refine z_evBn (N := 20) (f := (I 131)) (k := t) rfl rfl (by omega) ?_
      refine z_evL ?_
      refine z_evG 2 (y := some (.inr (some (.int (I 131 t)), 161, I, J, RF w))) (fun _ => rfl) ?_
      exact z_evR (by rw [if_pos (by omega)])
    · refine z_evL ?_
      refine z_evG 3 (y := if (nI u) = 1 then z_go 44 [some (.ref 127), some (.int (nI t)), some (.int (nI u)), some (.int 1), none] [] 161 (I, J, RF w) else z_go 49 [some (.ref 127), some (.int (nI t)), some (.int (nI u)), some (.int 1), none] [] 161 (I, J, RF w)) (fun _ => rfl) ?_
      refine z_evIN (show _ ↔ u = 1 from z_eqN rfl rfl (by omega) (by omega)) (fun h7 => ?_) (fun h7 => ?_)
      · refine z_evL ?_
        refine z_evG 3 (y := if 1 = 3 then z_go 64 [some (.ref 127), some (.int (nI t)), some (.int (nI u)), some (.int 1), none] [] 161 (I, J, RF w) else z_go 49 [some (.ref 127), some (.int (nI t)), some (.int (nI u)), some (.int 1), none] [] 161 (I, J, RF w)) (fun _ => rfl) ?_
        refine z_evI (fun q => absurd q (by decide)) (fun _ => ?_)
        refine z_evL ?_
        refine z_evG 3 (y := if (nI u) = 2 then z_go 54 [some (.ref 127), some (.int (nI t)), some (.int (nI u)), some (.int 1), none] [] 161 (I, J, RF w) else z_go 68 [some (.ref 127), some (.int (nI t)), some (.int (nI u)), some (.int 1), none] [] 161 (I, J, RF w)) (fun _ => rfl) ?_
        refine z_evIN (show _ ↔ u = 2 from z_eqN rfl rfl (by omega) (by omega)) (fun h9 => ?_) (fun h9 => ?_)
        · refine z_evL ?_
          refine z_evG 3 (y := if 1 = 4 then z_go 64 [some (.ref 127), some (.int (nI t)), some (.int (nI u)), some (.int 1), none] [] 161 (I, J, RF w) else z_go 59 [some (.ref 127), some (.int (nI t)), some (.int (nI u)), some (.int 1), none] [] 161 (I, J, RF w)) (fun _ => rfl) ?_
          refine z_evI (fun q => absurd q (by decide)) (fun _ => ?_)
          refine z_evL ?_
          refine z_evG 3 (y := if 1 = 5 then z_go 64 [some (.ref 127), some (.int (nI t)), some (.int (nI u)), some (.int 1), none] [] 161 (I, J, RF w) else z_go 68 [some (.ref 127), some (.int (nI t)), some (.int (nI u)), some (.int 1), none] [] 161 (I, J, RF w)) (fun _ => rfl) ?_
          refine z_evI (fun q => absurd q (by decide)) (fun _ => ?_)
          refine z_evL ?_
          refine z_evG 4 (y := if 0 = 0 then z_go 85 [some (.ref 127), some (.int (nI t)), some (.int (nI u)), some (.int 1), some (.int 0)] [] 161 (I, J, RF w) else z_go 76 [some (.ref 127), some (.int (nI t)), some (.int (nI u)), some (.int 1), some (.int 0)] [] 161 (I, J, RF w)) (fun _ => rfl) ?_
          refine z_evI (fun _ => ?_) (fun q => absurd (by decide) q)
          refine z_evL ?_
          refine z_evG 2 (y := some (.inr (some (.int (-13)), 161, I, J, RF w))) (fun _ => rfl) ?_
          exact z_evR (by rw [if_neg (by omega)])
        · refine z_evL ?_
          refine z_evG 4 (y := if 0 = 0 then z_go 85 [some (.ref 127), some (.int (nI t)), some (.int (nI u)), some (.int 1), some (.int 0)] [] 161 (I, J, RF w) else z_go 76 [some (.ref 127), some (.int (nI t)), some (.int (nI u)), some (.int 1), some (.int 0)] [] 161 (I, J, RF w)) (fun _ => rfl) ?_
          refine z_evI (fun _ => ?_) (fun q => absurd (by decide) q)
          refine z_evL ?_
          refine z_evG 2 (y := some (.inr (some (.int (-13)), 161, I, J, RF w))) (fun _ => rfl) ?_
          exact z_evR (by rw [if_neg (by omega)])
      · refine z_evL ?_
        refine z_evG 3 (y := if (nI u) = 2 then z_go 54 [some (.ref 127), some (.int (nI t)), some (.int (nI u)), some (.int 1), none] [] 161 (I, J, RF w) else z_go 68 [some (.ref 127), some (.int (nI t)), some (.int (nI u)), some (.int 1), none] [] 161 (I, J, RF w)) (fun _ => rfl) ?_
        refine z_evIN (show _ ↔ u = 2 from z_eqN rfl rfl (by omega) (by omega)) (fun h14 => ?_) (fun h14 => ?_)
        · refine z_evL ?_
          refine z_evG 3 (y := if 1 = 4 then z_go 64 [some (.ref 127), some (.int (nI t)), some (.int (nI u)), some (.int 1), none] [] 161 (I, J, RF w) else z_go 59 [some (.ref 127), some (.int (nI t)), some (.int (nI u)), some (.int 1), none] [] 161 (I, J, RF w)) (fun _ => rfl) ?_
          refine z_evI (fun q => absurd q (by decide)) (fun _ => ?_)
          refine z_evL ?_
          refine z_evG 3 (y := if 1 = 5 then z_go 64 [some (.ref 127), some (.int (nI t)), some (.int (nI u)), some (.int 1), none] [] 161 (I, J, RF w) else z_go 68 [some (.ref 127), some (.int (nI t)), some (.int (nI u)), some (.int 1), none] [] 161 (I, J, RF w)) (fun _ => rfl) ?_
          refine z_evI (fun q => absurd q (by decide)) (fun _ => ?_)
          refine z_evL ?_
          refine z_evG 4 (y := if 0 = 0 then z_go 85 [some (.ref 127), some (.int (nI t)), some (.int (nI u)), some (.int 1), some (.int 0)] [] 161 (I, J, RF w) else z_go 76 [some (.ref 127), some (.int (nI t)), some (.int (nI u)), some (.int 1), some (.int 0)] [] 161 (I, J, RF w)) (fun _ => rfl) ?_
          refine z_evI (fun _ => ?_) (fun q => absurd (by decide) q)
          refine z_evL ?_
          refine z_evG 2 (y := some (.inr (some (.int (-13)), 161, I, J, RF w))) (fun _ => rfl) ?_
          exact z_evR (by rw [if_neg (by omega)])
        · refine z_evL ?_
          refine z_evG 4 (y := if 0 = 0 then z_go 85 [some (.ref 127), some (.int (nI t)), some (.int (nI u)), some (.int 1), some (.int 0)] [] 161 (I, J, RF w) else z_go 76 [some (.ref 127), some (.int (nI t)), some (.int (nI u)), some (.int 1), some (.int 0)] [] 161 (I, J, RF w)) (fun _ => rfl) ?_
          refine z_evI (fun _ => ?_) (fun q => absurd (by decide) q)
          refine z_evL ?_
          refine z_evG 2 (y := some (.inr (some (.int (-13)), 161, I, J, RF w))) (fun _ => rfl) ?_
          exact z_evR (by rw [if_neg (by omega)])
set_option maxRecDepth 20000 in
/-- LampHouse.taken -/
theorem x_taken_2 (E : zE) (d : Nat) (I : Nat → Nat → Int32) (J : Nat → Nat → Int64) (w : Nat) (t u n : Nat) (h_n : I 37 7 = nI n) (hm_n : n ≤ 20) (hl_t : t < n) (hl_u : u < 6) (hK : I 38 t = 2) : z_cl E (d + 3) 165 [.ref 0, .int (nI t), .int (nI u)] (161, I, J, RF w) = some (some (.int (if 2 = u ∨ 0 = u then I 40 t else (-13))), 161, I, J, RF w) := by
  refine z_call (d := d + 2) (M := z_m165) rfl rfl ?_
  refine z_evG 2 (y := z_ret (z_cl E (d + 2) 105 [.int (nI u)] (161, (I, J, RF w))) 4 [some (.ref 0), some (.int (nI t)), some (.int (nI u))] []) (fun _ => rfl) ?_
  refine z_evK (v := .int (z_bo (¬ (nI u) < 0 ∧ (nI u) < 6))) (z' := 161) (σ' := (I, J, RF w)) (x_isKind E (d + 1) I J w (nI u)) ?_
  refine z_evG 1 (y := if (z_bo (¬ (nI u) < 0 ∧ (nI u) < 6)) = 0 then z_go 7 [some (.ref 0), some (.int (nI t)), some (.int (nI u))] [] 161 (I, J, RF w) else z_go 10 [some (.ref 0), some (.int (nI t)), some (.int (nI u))] [] 161 (I, J, RF w)) (fun _ => rfl) ?_
  refine z_evF (fun q0 => z_bo_0.mp q0 ⟨(mt (show _ ↔ u < 0 from z_ltN rfl rfl (by omega) (by omega)).mp (by omega)), ((show _ ↔ u < 6 from z_ltN rfl rfl (by omega) (by omega)).mpr (by omega))⟩) ?_
  refine z_evL ?_
  refine z_evG 4 (y := z_ret (z_cl E (d + 2) 108 [.ref 37, .int (nI t)] (161, (I, J, RF w))) 18 [some (.ref 0), some (.int (nI t)), some (.int (nI u))] []) (fun _ => rfl) ?_
  refine z_evK (v := .int (z_bo (¬ (nI t) < 0 ∧ (nI t) < I 37 7))) (z' := 161) (σ' := (I, J, RF w)) (x_things_has E (d + 1) I J w (nI t)) ?_
  refine z_evG 1 (y := if (z_bo (¬ (nI t) < 0 ∧ (nI t) < I 37 7)) = 0 then z_go 21 [some (.ref 0), some (.int (nI t)), some (.int (nI u))] [] 161 (I, J, RF w) else z_go 24 [some (.ref 0), some (.int (nI t)), some (.int (nI u))] [] 161 (I, J, RF w)) (fun _ => rfl) ?_
  refine z_evF (fun q0 => z_bo_0.mp q0 ⟨(mt (show _ ↔ t < 0 from z_ltN rfl rfl (by omega) (by omega)).mp (by omega)), ((show _ ↔ t < n from z_ltN rfl h_n (by omega) (by omega)).mpr (by omega))⟩) ?_
  refine z_evL ?_
  refine z_evG 4 (y := z_ret (z_cl E (d + 2) 113 [.ref 37, .int (nI t)] (161, (I, J, RF w))) 32 [some (.ref 0), some (.int (nI t)), some (.int (nI u))] []) (fun _ => rfl) ?_
  refine z_evK (v := .int (I 38 t)) (z' := 161) (σ' := (I, J, RF w)) (x_things_kindOfN E (d + 1) I J w t (by omega)) ?_
  refine z_evG 2 (y := z_ret (z_cl E (d + 2) 106 [.int (I 38 t), .int (nI u)] (161, (I, J, RF w))) 36 [some (.ref 0), some (.int (nI t)), some (.int (nI u))] []) (fun _ => rfl) ?_
  rw [hK]
  refine z_evK (v := .int (z_bo (2 = u ∨ 0 = u))) (z' := 161) (σ' := (I, J, RF w)) (x_isUnder_2 E d I J w u (by omega)) ?_
  refine z_evG 1 (y := if (z_bo (2 = u ∨ 0 = u)) = 0 then z_go 50 [some (.ref 0), some (.int (nI t)), some (.int (nI u))] [] 161 (I, J, RF w) else z_go 39 [some (.ref 0), some (.int (nI t)), some (.int (nI u))] [] 161 (I, J, RF w)) (fun _ => rfl) ?_
  refine z_evO (fun h3 => ?_) (fun h3 => ?_)
  · refine z_evL ?_
    refine z_evG 2 (y := some (.inr (some (.int (-13)), 161, I, J, RF w))) (fun _ => rfl) ?_
    exact z_evR (by rw [if_neg (by omega)])
  · refine z_evL ?_
    refine z_evG 4 (y := z_ret (z_cl E (d + 2) 115 [.ref 37, .int (nI t)] (161, (I, J, RF w))) 47 [some (.ref 0), some (.int (nI t)), some (.int (nI u))] []) (fun _ => rfl) ?_
    refine z_evK (v := .int (I 40 t)) (z' := 161) (σ' := (I, J, RF w)) (x_things_numberOfN E (d + 1) I J w t (by omega)) ?_
    refine z_evG 2 (y := some (.inr (some (.int (I 40 t)), 161, I, J, RF w))) (fun _ => rfl) ?_
    exact z_evR (by rw [if_pos (by omega)])
set_option maxRecDepth 20000 in
/-- LampHouseModel.taken -/
theorem m_taken_2 (E : zE) (d : Nat) (I : Nat → Nat → Int32) (J : Nat → Nat → Int64) (w : Nat) (t u n : Nat) (h_n : I 127 3 = nI n) (hm_n : n ≤ 20) (hl_t : t < n) (hl_u : u < 6) (hK : I 129 t = 2) : z_cl E (d + 3) 252 [.ref 127, .int (nI t), .int (nI u)] (161, I, J, RF w) = some (some (.int (if 2 = u ∨ 0 = u then I 131 t else (-13))), 161, I, J, RF w) := by
  refine z_call (d := d + 2) (M := z_m252) rfl rfl ?_
  refine z_evG 4 (y := z_ret (z_cl E (d + 2) 178 [.int (nI u), .int 0, .int 5] (161, (I, J, RF w))) 6 [some (.ref 127), some (.int (nI t)), some (.int (nI u)), none, none] []) (fun _ => rfl) ?_
  refine z_evK (v := .int (z_bo (¬ (nI u) < 0 ∧ ¬ 5 < (nI u)))) (z' := 161) (σ' := (I, J, RF w)) (m_in E (d + 1) I J w (nI u) 0 5) ?_
  refine z_evG 1 (y := if (z_bo (¬ (nI u) < 0 ∧ ¬ 5 < (nI u))) = 0 then z_go 9 [some (.ref 127), some (.int (nI t)), some (.int (nI u)), none, none] [] 161 (I, J, RF w) else z_go 12 [some (.ref 127), some (.int (nI t)), some (.int (nI u)), none, none] [] 161 (I, J, RF w)) (fun _ => rfl) ?_
  refine z_evF (fun q0 => z_bo_0.mp q0 ⟨(mt (show _ ↔ u < 0 from z_ltN rfl rfl (by omega) (by omega)).mp (by omega)), (mt (show _ ↔ 5 < u from z_ltN rfl rfl (by omega) (by omega)).mp (by omega))⟩) ?_
  refine z_evL ?_
  refine z_evG 3 (y := z_ret (z_cl E (d + 2) 183 [.ref 127, .int (nI t)] (161, (I, J, RF w))) 17 [some (.ref 127), some (.int (nI t)), some (.int (nI u)), none, none] []) (fun _ => rfl) ?_
  refine z_evK (v := .int (z_bo (¬ (nI t) < 0 ∧ ¬ I 127 3 - 1 < (nI t)))) (z' := 161) (σ' := (I, J, RF w)) (m_isThing E d I J w (nI t)) ?_
  refine z_evG 1 (y := if (z_bo (¬ (nI t) < 0 ∧ ¬ I 127 3 - 1 < (nI t))) = 0 then z_go 20 [some (.ref 127), some (.int (nI t)), some (.int (nI u)), none, none] [] 161 (I, J, RF w) else z_go 23 [some (.ref 127), some (.int (nI t)), some (.int (nI u)), none, none] [] 161 (I, J, RF w)) (fun _ => rfl) ?_
  refine z_evF (fun q0 => z_bo_0.mp q0 ⟨(mt (show _ ↔ t < 0 from z_ltN rfl rfl (by omega) (by omega)).mp (by omega)), (z_plt h_n rfl (by omega) (by omega))⟩) ?_
  refine z_evL ?_
  refine z_evG 4 (y := z_ild (z_ia E 161 (I, J, RF w) 129) (nI t) fun vv => z_go 29 [some (.ref 127), some (.int (nI t)), some (.int (nI u)), none, none] [.int vv] 161 (I, J, RF w)) (fun _ => rfl) ?_
  refine z_evBn (N := 20) (f := (I 129)) (k := t) rfl rfl (by omega) ?_
  refine z_evL ?_
  rw [show I 129 t = 2 from hK]
  refine z_evG 3 (y := if (nI u) = 0 then z_go 64 [some (.ref 127), some (.int (nI t)), some (.int (nI u)), some (.int 2), none] [] 161 (I, J, RF w) else z_go 34 [some (.ref 127), some (.int (nI t)), some (.int (nI u)), some (.int 2), none] [] 161 (I, J, RF w)) (fun _ => rfl) ?_
  refine z_evIN (show _ ↔ u = 0 from z_eqN rfl rfl (by omega) (by omega)) (fun h3 => ?_) (fun h3 => ?_)
  · refine z_evL ?_
    refine z_evG 5 (y := if 1 = 0 then z_go 85 [some (.ref 127), some (.int (nI t)), some (.int (nI u)), some (.int 2), some (.int 1)] [] 161 (I, J, RF w) else z_go 76 [some (.ref 127), some (.int (nI t)), some (.int (nI u)), some (.int 2), some (.int 1)] [] 161 (I, J, RF w)) (fun _ => rfl) ?_
    refine z_evI (fun q => absurd q (by decide)) (fun _ => ?_)
    refine z_evL ?_
    refine z_evG 4 (y := z_ild (z_ia E 161 (I, J, RF w) 131) (nI t) fun vv => z_go 82 [some (.ref 127), some (.int (nI t)), some (.int (nI u)), some (.int 2), some (.int 1)] [.int vv] 161 (I, J, RF w)) (fun _ => rfl) ?_
    refine z_evBn (N := 20) (f := (I 131)) (k := t) rfl rfl (by omega) ?_
    refine z_evL ?_
    refine z_evG 2 (y := some (.inr (some (.int (I 131 t)), 161, I, J, RF w))) (fun _ => rfl) ?_
    exact z_evR (by rw [if_pos (by omega)])
  · refine z_evL ?_
    refine z_evG 3 (y := if 2 = (nI u) then z_go 64 [some (.ref 127), some (.int (nI t)), some (.int (nI u)), some (.int 2), none] [] 161 (I, J, RF w) else z_go 39 [some (.ref 127), some (.int (nI t)), some (.int (nI u)), some (.int 2), none] [] 161 (I, J, RF w)) (fun _ => rfl) ?_
    refine z_evIN (show _ ↔ 2 = u from z_eqN rfl rfl (by omega) (by omega)) (fun h5 => ?_) (fun h5 => ?_)
    · refine z_evL ?_
      refine z_evG 5 (y := if 1 = 0 then z_go 85 [some (.ref 127), some (.int (nI t)), some (.int (nI u)), some (.int 2), some (.int 1)] [] 161 (I, J, RF w) else z_go 76 [some (.ref 127), some (.int (nI t)), some (.int (nI u)), some (.int 2), some (.int 1)] [] 161 (I, J, RF w)) (fun _ => rfl) ?_
      refine z_evI (fun q => absurd q (by decide)) (fun _ => ?_)
      refine z_evL ?_
      refine z_evG 4 (y := z_ild (z_ia E 161 (I, J, RF w) 131) (nI t) fun vv => z_go 82 [some (.ref 127), some (.int (nI t)), some (.int (nI u)), some (.int 2), some (.int 1)] [.int vv] 161 (I, J, RF w)) (fun _ => rfl) ?_
      refine z_evBn (N := 20) (f := (I 131)) (k := t) rfl rfl (by omega) ?_
      refine z_evL ?_
      refine z_evG 2 (y := some (.inr (some (.int (I 131 t)), 161, I, J, RF w))) (fun _ => rfl) ?_
      exact z_evR (by rw [if_pos (by omega)])
    · refine z_evL ?_
      refine z_evG 3 (y := if (nI u) = 1 then z_go 44 [some (.ref 127), some (.int (nI t)), some (.int (nI u)), some (.int 2), none] [] 161 (I, J, RF w) else z_go 49 [some (.ref 127), some (.int (nI t)), some (.int (nI u)), some (.int 2), none] [] 161 (I, J, RF w)) (fun _ => rfl) ?_
      refine z_evIN (show _ ↔ u = 1 from z_eqN rfl rfl (by omega) (by omega)) (fun h7 => ?_) (fun h7 => ?_)
      · refine z_evL ?_
        refine z_evG 3 (y := if 2 = 3 then z_go 64 [some (.ref 127), some (.int (nI t)), some (.int (nI u)), some (.int 2), none] [] 161 (I, J, RF w) else z_go 49 [some (.ref 127), some (.int (nI t)), some (.int (nI u)), some (.int 2), none] [] 161 (I, J, RF w)) (fun _ => rfl) ?_
        refine z_evI (fun q => absurd q (by decide)) (fun _ => ?_)
        refine z_evL ?_
        refine z_evG 3 (y := if (nI u) = 2 then z_go 54 [some (.ref 127), some (.int (nI t)), some (.int (nI u)), some (.int 2), none] [] 161 (I, J, RF w) else z_go 68 [some (.ref 127), some (.int (nI t)), some (.int (nI u)), some (.int 2), none] [] 161 (I, J, RF w)) (fun _ => rfl) ?_
        refine z_evIN (show _ ↔ u = 2 from z_eqN rfl rfl (by omega) (by omega)) (fun h9 => ?_) (fun h9 => ?_)
        · refine z_evL ?_
          refine z_evG 3 (y := if 2 = 4 then z_go 64 [some (.ref 127), some (.int (nI t)), some (.int (nI u)), some (.int 2), none] [] 161 (I, J, RF w) else z_go 59 [some (.ref 127), some (.int (nI t)), some (.int (nI u)), some (.int 2), none] [] 161 (I, J, RF w)) (fun _ => rfl) ?_
          refine z_evI (fun q => absurd q (by decide)) (fun _ => ?_)
          refine z_evL ?_
          refine z_evG 3 (y := if 2 = 5 then z_go 64 [some (.ref 127), some (.int (nI t)), some (.int (nI u)), some (.int 2), none] [] 161 (I, J, RF w) else z_go 68 [some (.ref 127), some (.int (nI t)), some (.int (nI u)), some (.int 2), none] [] 161 (I, J, RF w)) (fun _ => rfl) ?_
          refine z_evI (fun q => absurd q (by decide)) (fun _ => ?_)
          refine z_evL ?_
          refine z_evG 4 (y := if 0 = 0 then z_go 85 [some (.ref 127), some (.int (nI t)), some (.int (nI u)), some (.int 2), some (.int 0)] [] 161 (I, J, RF w) else z_go 76 [some (.ref 127), some (.int (nI t)), some (.int (nI u)), some (.int 2), some (.int 0)] [] 161 (I, J, RF w)) (fun _ => rfl) ?_
          refine z_evI (fun _ => ?_) (fun q => absurd (by decide) q)
          refine z_evL ?_
          refine z_evG 2 (y := some (.inr (some (.int (-13)), 161, I, J, RF w))) (fun _ => rfl) ?_
          exact z_evR (by rw [if_neg (by omega)])
        · refine z_evL ?_
          refine z_evG 4 (y := if 0 = 0 then z_go 85 [some (.ref 127), some (.int (nI t)), some (.int (nI u)), some (.int 2), some (.int 0)] [] 161 (I, J, RF w) else z_go 76 [some (.ref 127), some (.int (nI t)), some (.int (nI u)), some (.int 2), some (.int 0)] [] 161 (I, J, RF w)) (fun _ => rfl) ?_
          refine z_evI (fun _ => ?_) (fun q => absurd (by decide) q)
          refine z_evL ?_
          refine z_evG 2 (y := some (.inr (some (.int (-13)), 161, I, J, RF w))) (fun _ => rfl) ?_
          exact z_evR (by rw [if_neg (by omega)])
      · refine z_evL ?_
        refine z_evG 3 (y := if (nI u) = 2 then z_go 54 [some (.ref 127), some (.int (nI t)), some (.int (nI u)), some (.int 2), none] [] 161 (I, J, RF w) else z_go 68 [some (.ref 127), some (.int (nI t)), some (.int (nI u)), some (.int 2), none] [] 161 (I, J, RF w)) (fun _ => rfl) ?_
        refine z_evIN (show _ ↔ u = 2 from z_eqN rfl rfl (by omega) (by omega)) (fun h14 => ?_) (fun h14 => ?_)
        · refine z_evL ?_
          refine z_evG 3 (y := if 2 = 4 then z_go 64 [some (.ref 127), some (.int (nI t)), some (.int (nI u)), some (.int 2), none] [] 161 (I, J, RF w) else z_go 59 [some (.ref 127), some (.int (nI t)), some (.int (nI u)), some (.int 2), none] [] 161 (I, J, RF w)) (fun _ => rfl) ?_
          refine z_evI (fun q => absurd q (by decide)) (fun _ => ?_)
          refine z_evL ?_
          refine z_evG 3 (y := if 2 = 5 then z_go 64 [some (.ref 127), some (.int (nI t)), some (.int (nI u)), some (.int 2), none] [] 161 (I, J, RF w) else z_go 68 [some (.ref 127), some (.int (nI t)), some (.int (nI u)), some (.int 2), none] [] 161 (I, J, RF w)) (fun _ => rfl) ?_
          refine z_evI (fun q => absurd q (by decide)) (fun _ => ?_)
          refine z_evL ?_
          refine z_evG 4 (y := if 0 = 0 then z_go 85 [some (.ref 127), some (.int (nI t)), some (.int (nI u)), some (.int 2), some (.int 0)] [] 161 (I, J, RF w) else z_go 76 [some (.ref 127), some (.int (nI t)), some (.int (nI u)), some (.int 2), some (.int 0)] [] 161 (I, J, RF w)) (fun _ => rfl) ?_
          refine z_evI (fun _ => ?_) (fun q => absurd (by decide) q)
          refine z_evL ?_
          refine z_evG 2 (y := some (.inr (some (.int (-13)), 161, I, J, RF w))) (fun _ => rfl) ?_
          exact z_evR (by rw [if_neg (by omega)])
        · refine z_evL ?_
          refine z_evG 4 (y := if 0 = 0 then z_go 85 [some (.ref 127), some (.int (nI t)), some (.int (nI u)), some (.int 2), some (.int 0)] [] 161 (I, J, RF w) else z_go 76 [some (.ref 127), some (.int (nI t)), some (.int (nI u)), some (.int 2), some (.int 0)] [] 161 (I, J, RF w)) (fun _ => rfl) ?_
          refine z_evI (fun _ => ?_) (fun q => absurd (by decide) q)
          refine z_evL ?_
          refine z_evG 2 (y := some (.inr (some (.int (-13)), 161, I, J, RF w))) (fun _ => rfl) ?_
          exact z_evR (by rw [if_neg (by omega)])
set_option maxRecDepth 20000 in
/-- LampHouse.taken -/
theorem x_taken_3 (E : zE) (d : Nat) (I : Nat → Nat → Int32) (J : Nat → Nat → Int64) (w : Nat) (t u n : Nat) (h_n : I 37 7 = nI n) (hm_n : n ≤ 20) (hl_t : t < n) (hl_u : u < 6) (hK : I 38 t = 3) : z_cl E (d + 3) 165 [.ref 0, .int (nI t), .int (nI u)] (161, I, J, RF w) = some (some (.int (if 3 = u ∨ 1 = u ∨ 0 = u then I 40 t else (-13))), 161, I, J, RF w) := by
  refine z_call (d := d + 2) (M := z_m165) rfl rfl ?_
  refine z_evG 2 (y := z_ret (z_cl E (d + 2) 105 [.int (nI u)] (161, (I, J, RF w))) 4 [some (.ref 0), some (.int (nI t)), some (.int (nI u))] []) (fun _ => rfl) ?_
  refine z_evK (v := .int (z_bo (¬ (nI u) < 0 ∧ (nI u) < 6))) (z' := 161) (σ' := (I, J, RF w)) (x_isKind E (d + 1) I J w (nI u)) ?_
  refine z_evG 1 (y := if (z_bo (¬ (nI u) < 0 ∧ (nI u) < 6)) = 0 then z_go 7 [some (.ref 0), some (.int (nI t)), some (.int (nI u))] [] 161 (I, J, RF w) else z_go 10 [some (.ref 0), some (.int (nI t)), some (.int (nI u))] [] 161 (I, J, RF w)) (fun _ => rfl) ?_
  refine z_evF (fun q0 => z_bo_0.mp q0 ⟨(mt (show _ ↔ u < 0 from z_ltN rfl rfl (by omega) (by omega)).mp (by omega)), ((show _ ↔ u < 6 from z_ltN rfl rfl (by omega) (by omega)).mpr (by omega))⟩) ?_
  refine z_evL ?_
  refine z_evG 4 (y := z_ret (z_cl E (d + 2) 108 [.ref 37, .int (nI t)] (161, (I, J, RF w))) 18 [some (.ref 0), some (.int (nI t)), some (.int (nI u))] []) (fun _ => rfl) ?_
  refine z_evK (v := .int (z_bo (¬ (nI t) < 0 ∧ (nI t) < I 37 7))) (z' := 161) (σ' := (I, J, RF w)) (x_things_has E (d + 1) I J w (nI t)) ?_
  refine z_evG 1 (y := if (z_bo (¬ (nI t) < 0 ∧ (nI t) < I 37 7)) = 0 then z_go 21 [some (.ref 0), some (.int (nI t)), some (.int (nI u))] [] 161 (I, J, RF w) else z_go 24 [some (.ref 0), some (.int (nI t)), some (.int (nI u))] [] 161 (I, J, RF w)) (fun _ => rfl) ?_
  refine z_evF (fun q0 => z_bo_0.mp q0 ⟨(mt (show _ ↔ t < 0 from z_ltN rfl rfl (by omega) (by omega)).mp (by omega)), ((show _ ↔ t < n from z_ltN rfl h_n (by omega) (by omega)).mpr (by omega))⟩) ?_
  refine z_evL ?_
  refine z_evG 4 (y := z_ret (z_cl E (d + 2) 113 [.ref 37, .int (nI t)] (161, (I, J, RF w))) 32 [some (.ref 0), some (.int (nI t)), some (.int (nI u))] []) (fun _ => rfl) ?_
  refine z_evK (v := .int (I 38 t)) (z' := 161) (σ' := (I, J, RF w)) (x_things_kindOfN E (d + 1) I J w t (by omega)) ?_
  refine z_evG 2 (y := z_ret (z_cl E (d + 2) 106 [.int (I 38 t), .int (nI u)] (161, (I, J, RF w))) 36 [some (.ref 0), some (.int (nI t)), some (.int (nI u))] []) (fun _ => rfl) ?_
  rw [hK]
  refine z_evK (v := .int (z_bo (3 = u ∨ 1 = u ∨ 0 = u))) (z' := 161) (σ' := (I, J, RF w)) (x_isUnder_3 E d I J w u (by omega)) ?_
  refine z_evG 1 (y := if (z_bo (3 = u ∨ 1 = u ∨ 0 = u)) = 0 then z_go 50 [some (.ref 0), some (.int (nI t)), some (.int (nI u))] [] 161 (I, J, RF w) else z_go 39 [some (.ref 0), some (.int (nI t)), some (.int (nI u))] [] 161 (I, J, RF w)) (fun _ => rfl) ?_
  refine z_evO (fun h3 => ?_) (fun h3 => ?_)
  · refine z_evL ?_
    refine z_evG 2 (y := some (.inr (some (.int (-13)), 161, I, J, RF w))) (fun _ => rfl) ?_
    exact z_evR (by rw [if_neg (by omega)])
  · refine z_evL ?_
    refine z_evG 4 (y := z_ret (z_cl E (d + 2) 115 [.ref 37, .int (nI t)] (161, (I, J, RF w))) 47 [some (.ref 0), some (.int (nI t)), some (.int (nI u))] []) (fun _ => rfl) ?_
    refine z_evK (v := .int (I 40 t)) (z' := 161) (σ' := (I, J, RF w)) (x_things_numberOfN E (d + 1) I J w t (by omega)) ?_
    refine z_evG 2 (y := some (.inr (some (.int (I 40 t)), 161, I, J, RF w))) (fun _ => rfl) ?_
    exact z_evR (by rw [if_pos (by omega)])
set_option maxRecDepth 20000 in
/-- LampHouseModel.taken -/
theorem m_taken_3 (E : zE) (d : Nat) (I : Nat → Nat → Int32) (J : Nat → Nat → Int64) (w : Nat) (t u n : Nat) (h_n : I 127 3 = nI n) (hm_n : n ≤ 20) (hl_t : t < n) (hl_u : u < 6) (hK : I 129 t = 3) : z_cl E (d + 3) 252 [.ref 127, .int (nI t), .int (nI u)] (161, I, J, RF w) = some (some (.int (if 3 = u ∨ 1 = u ∨ 0 = u then I 131 t else (-13))), 161, I, J, RF w) := by
  refine z_call (d := d + 2) (M := z_m252) rfl rfl ?_
  refine z_evG 4 (y := z_ret (z_cl E (d + 2) 178 [.int (nI u), .int 0, .int 5] (161, (I, J, RF w))) 6 [some (.ref 127), some (.int (nI t)), some (.int (nI u)), none, none] []) (fun _ => rfl) ?_
  refine z_evK (v := .int (z_bo (¬ (nI u) < 0 ∧ ¬ 5 < (nI u)))) (z' := 161) (σ' := (I, J, RF w)) (m_in E (d + 1) I J w (nI u) 0 5) ?_
  refine z_evG 1 (y := if (z_bo (¬ (nI u) < 0 ∧ ¬ 5 < (nI u))) = 0 then z_go 9 [some (.ref 127), some (.int (nI t)), some (.int (nI u)), none, none] [] 161 (I, J, RF w) else z_go 12 [some (.ref 127), some (.int (nI t)), some (.int (nI u)), none, none] [] 161 (I, J, RF w)) (fun _ => rfl) ?_
  refine z_evF (fun q0 => z_bo_0.mp q0 ⟨(mt (show _ ↔ u < 0 from z_ltN rfl rfl (by omega) (by omega)).mp (by omega)), (mt (show _ ↔ 5 < u from z_ltN rfl rfl (by omega) (by omega)).mp (by omega))⟩) ?_
  refine z_evL ?_
  refine z_evG 3 (y := z_ret (z_cl E (d + 2) 183 [.ref 127, .int (nI t)] (161, (I, J, RF w))) 17 [some (.ref 127), some (.int (nI t)), some (.int (nI u)), none, none] []) (fun _ => rfl) ?_
  refine z_evK (v := .int (z_bo (¬ (nI t) < 0 ∧ ¬ I 127 3 - 1 < (nI t)))) (z' := 161) (σ' := (I, J, RF w)) (m_isThing E d I J w (nI t)) ?_
  refine z_evG 1 (y := if (z_bo (¬ (nI t) < 0 ∧ ¬ I 127 3 - 1 < (nI t))) = 0 then z_go 20 [some (.ref 127), some (.int (nI t)), some (.int (nI u)), none, none] [] 161 (I, J, RF w) else z_go 23 [some (.ref 127), some (.int (nI t)), some (.int (nI u)), none, none] [] 161 (I, J, RF w)) (fun _ => rfl) ?_
  refine z_evF (fun q0 => z_bo_0.mp q0 ⟨(mt (show _ ↔ t < 0 from z_ltN rfl rfl (by omega) (by omega)).mp (by omega)), (z_plt h_n rfl (by omega) (by omega))⟩) ?_
  refine z_evL ?_
  refine z_evG 4 (y := z_ild (z_ia E 161 (I, J, RF w) 129) (nI t) fun vv => z_go 29 [some (.ref 127), some (.int (nI t)), some (.int (nI u)), none, none] [.int vv] 161 (I, J, RF w)) (fun _ => rfl) ?_
  refine z_evBn (N := 20) (f := (I 129)) (k := t) rfl rfl (by omega) ?_
  refine z_evL ?_
  rw [show I 129 t = 3 from hK]
  refine z_evG 3 (y := if (nI u) = 0 then z_go 64 [some (.ref 127), some (.int (nI t)), some (.int (nI u)), some (.int 3), none] [] 161 (I, J, RF w) else z_go 34 [some (.ref 127), some (.int (nI t)), some (.int (nI u)), some (.int 3), none] [] 161 (I, J, RF w)) (fun _ => rfl) ?_
  refine z_evIN (show _ ↔ u = 0 from z_eqN rfl rfl (by omega) (by omega)) (fun h3 => ?_) (fun h3 => ?_)
  · refine z_evL ?_
    refine z_evG 5 (y := if 1 = 0 then z_go 85 [some (.ref 127), some (.int (nI t)), some (.int (nI u)), some (.int 3), some (.int 1)] [] 161 (I, J, RF w) else z_go 76 [some (.ref 127), some (.int (nI t)), some (.int (nI u)), some (.int 3), some (.int 1)] [] 161 (I, J, RF w)) (fun _ => rfl) ?_
    refine z_evI (fun q => absurd q (by decide)) (fun _ => ?_)
    refine z_evL ?_
    refine z_evG 4 (y := z_ild (z_ia E 161 (I, J, RF w) 131) (nI t) fun vv => z_go 82 [some (.ref 127), some (.int (nI t)), some (.int (nI u)), some (.int 3), some (.int 1)] [.int vv] 161 (I, J, RF w)) (fun _ => rfl) ?_
    refine z_evBn (N := 20) (f := (I 131)) (k := t) rfl rfl (by omega) ?_
    refine z_evL ?_
    refine z_evG 2 (y := some (.inr (some (.int (I 131 t)), 161, I, J, RF w))) (fun _ => rfl) ?_
    exact z_evR (by rw [if_pos (by omega)])
  · refine z_evL ?_
    refine z_evG 3 (y := if 3 = (nI u) then z_go 64 [some (.ref 127), some (.int (nI t)), some (.int (nI u)), some (.int 3), none] [] 161 (I, J, RF w) else z_go 39 [some (.ref 127), some (.int (nI t)), some (.int (nI u)), some (.int 3), none] [] 161 (I, J, RF w)) (fun _ => rfl) ?_
    refine z_evIN (show _ ↔ 3 = u from z_eqN rfl rfl (by omega) (by omega)) (fun h5 => ?_) (fun h5 => ?_)
    · refine z_evL ?_
      refine z_evG 5 (y := if 1 = 0 then z_go 85 [some (.ref 127), some (.int (nI t)), some (.int (nI u)), some (.int 3), some (.int 1)] [] 161 (I, J, RF w) else z_go 76 [some (.ref 127), some (.int (nI t)), some (.int (nI u)), some (.int 3), some (.int 1)] [] 161 (I, J, RF w)) (fun _ => rfl) ?_
      refine z_evI (fun q => absurd q (by decide)) (fun _ => ?_)
      refine z_evL ?_
      refine z_evG 4 (y := z_ild (z_ia E 161 (I, J, RF w) 131) (nI t) fun vv => z_go 82 [some (.ref 127), some (.int (nI t)), some (.int (nI u)), some (.int 3), some (.int 1)] [.int vv] 161 (I, J, RF w)) (fun _ => rfl) ?_
      refine z_evBn (N := 20) (f := (I 131)) (k := t) rfl rfl (by omega) ?_
      refine z_evL ?_
      refine z_evG 2 (y := some (.inr (some (.int (I 131 t)), 161, I, J, RF w))) (fun _ => rfl) ?_
      exact z_evR (by rw [if_pos (by omega)])
    · refine z_evL ?_
      refine z_evG 3 (y := if (nI u) = 1 then z_go 44 [some (.ref 127), some (.int (nI t)), some (.int (nI u)), some (.int 3), none] [] 161 (I, J, RF w) else z_go 49 [some (.ref 127), some (.int (nI t)), some (.int (nI u)), some (.int 3), none] [] 161 (I, J, RF w)) (fun _ => rfl) ?_
      refine z_evIN (show _ ↔ u = 1 from z_eqN rfl rfl (by omega) (by omega)) (fun h7 => ?_) (fun h7 => ?_)
      · refine z_evL ?_
        refine z_evG 3 (y := if 3 = 3 then z_go 64 [some (.ref 127), some (.int (nI t)), some (.int (nI u)), some (.int 3), none] [] 161 (I, J, RF w) else z_go 49 [some (.ref 127), some (.int (nI t)), some (.int (nI u)), some (.int 3), none] [] 161 (I, J, RF w)) (fun _ => rfl) ?_
        refine z_evI (fun _ => ?_) (fun q => absurd (by decide) q)
        refine z_evL ?_
        refine z_evG 5 (y := if 1 = 0 then z_go 85 [some (.ref 127), some (.int (nI t)), some (.int (nI u)), some (.int 3), some (.int 1)] [] 161 (I, J, RF w) else z_go 76 [some (.ref 127), some (.int (nI t)), some (.int (nI u)), some (.int 3), some (.int 1)] [] 161 (I, J, RF w)) (fun _ => rfl) ?_
        refine z_evI (fun q => absurd q (by decide)) (fun _ => ?_)
        refine z_evL ?_
        refine z_evG 4 (y := z_ild (z_ia E 161 (I, J, RF w) 131) (nI t) fun vv => z_go 82 [some (.ref 127), some (.int (nI t)), some (.int (nI u)), some (.int 3), some (.int 1)] [.int vv] 161 (I, J, RF w)) (fun _ => rfl) ?_
        refine z_evBn (N := 20) (f := (I 131)) (k := t) rfl rfl (by omega) ?_
        refine z_evL ?_
        refine z_evG 2 (y := some (.inr (some (.int (I 131 t)), 161, I, J, RF w))) (fun _ => rfl) ?_
        exact z_evR (by rw [if_pos (by omega)])
      · refine z_evL ?_
        refine z_evG 3 (y := if (nI u) = 2 then z_go 54 [some (.ref 127), some (.int (nI t)), some (.int (nI u)), some (.int 3), none] [] 161 (I, J, RF w) else z_go 68 [some (.ref 127), some (.int (nI t)), some (.int (nI u)), some (.int 3), none] [] 161 (I, J, RF w)) (fun _ => rfl) ?_
        refine z_evIN (show _ ↔ u = 2 from z_eqN rfl rfl (by omega) (by omega)) (fun h10 => ?_) (fun h10 => ?_)
        · refine z_evL ?_
          refine z_evG 3 (y := if 3 = 4 then z_go 64 [some (.ref 127), some (.int (nI t)), some (.int (nI u)), some (.int 3), none] [] 161 (I, J, RF w) else z_go 59 [some (.ref 127), some (.int (nI t)), some (.int (nI u)), some (.int 3), none] [] 161 (I, J, RF w)) (fun _ => rfl) ?_
          refine z_evI (fun q => absurd q (by decide)) (fun _ => ?_)
          refine z_evL ?_
          refine z_evG 3 (y := if 3 = 5 then z_go 64 [some (.ref 127), some (.int (nI t)), some (.int (nI u)), some (.int 3), none] [] 161 (I, J, RF w) else z_go 68 [some (.ref 127), some (.int (nI t)), some (.int (nI u)), some (.int 3), none] [] 161 (I, J, RF w)) (fun _ => rfl) ?_
          refine z_evI (fun q => absurd q (by decide)) (fun _ => ?_)
          refine z_evL ?_
          refine z_evG 4 (y := if 0 = 0 then z_go 85 [some (.ref 127), some (.int (nI t)), some (.int (nI u)), some (.int 3), some (.int 0)] [] 161 (I, J, RF w) else z_go 76 [some (.ref 127), some (.int (nI t)), some (.int (nI u)), some (.int 3), some (.int 0)] [] 161 (I, J, RF w)) (fun _ => rfl) ?_
          refine z_evI (fun _ => ?_) (fun q => absurd (by decide) q)
          refine z_evL ?_
          refine z_evG 2 (y := some (.inr (some (.int (-13)), 161, I, J, RF w))) (fun _ => rfl) ?_
          exact z_evR (by rw [if_neg (by omega)])
        · refine z_evL ?_
          refine z_evG 4 (y := if 0 = 0 then z_go 85 [some (.ref 127), some (.int (nI t)), some (.int (nI u)), some (.int 3), some (.int 0)] [] 161 (I, J, RF w) else z_go 76 [some (.ref 127), some (.int (nI t)), some (.int (nI u)), some (.int 3), some (.int 0)] [] 161 (I, J, RF w)) (fun _ => rfl) ?_
          refine z_evI (fun _ => ?_) (fun q => absurd (by decide) q)
          refine z_evL ?_
          refine z_evG 2 (y := some (.inr (some (.int (-13)), 161, I, J, RF w))) (fun _ => rfl) ?_
          exact z_evR (by rw [if_neg (by omega)])
set_option maxRecDepth 20000 in
/-- LampHouse.taken -/
theorem x_taken_4 (E : zE) (d : Nat) (I : Nat → Nat → Int32) (J : Nat → Nat → Int64) (w : Nat) (t u n : Nat) (h_n : I 37 7 = nI n) (hm_n : n ≤ 20) (hl_t : t < n) (hl_u : u < 6) (hK : I 38 t = 4) : z_cl E (d + 3) 165 [.ref 0, .int (nI t), .int (nI u)] (161, I, J, RF w) = some (some (.int (if 4 = u ∨ 2 = u ∨ 0 = u then I 40 t else (-13))), 161, I, J, RF w) := by
  refine z_call (d := d + 2) (M := z_m165) rfl rfl ?_
  refine z_evG 2 (y := z_ret (z_cl E (d + 2) 105 [.int (nI u)] (161, (I, J, RF w))) 4 [some (.ref 0), some (.int (nI t)), some (.int (nI u))] []) (fun _ => rfl) ?_
  refine z_evK (v := .int (z_bo (¬ (nI u) < 0 ∧ (nI u) < 6))) (z' := 161) (σ' := (I, J, RF w)) (x_isKind E (d + 1) I J w (nI u)) ?_
  refine z_evG 1 (y := if (z_bo (¬ (nI u) < 0 ∧ (nI u) < 6)) = 0 then z_go 7 [some (.ref 0), some (.int (nI t)), some (.int (nI u))] [] 161 (I, J, RF w) else z_go 10 [some (.ref 0), some (.int (nI t)), some (.int (nI u))] [] 161 (I, J, RF w)) (fun _ => rfl) ?_
  refine z_evF (fun q0 => z_bo_0.mp q0 ⟨(mt (show _ ↔ u < 0 from z_ltN rfl rfl (by omega) (by omega)).mp (by omega)), ((show _ ↔ u < 6 from z_ltN rfl rfl (by omega) (by omega)).mpr (by omega))⟩) ?_
  refine z_evL ?_
  refine z_evG 4 (y := z_ret (z_cl E (d + 2) 108 [.ref 37, .int (nI t)] (161, (I, J, RF w))) 18 [some (.ref 0), some (.int (nI t)), some (.int (nI u))] []) (fun _ => rfl) ?_
  refine z_evK (v := .int (z_bo (¬ (nI t) < 0 ∧ (nI t) < I 37 7))) (z' := 161) (σ' := (I, J, RF w)) (x_things_has E (d + 1) I J w (nI t)) ?_
  refine z_evG 1 (y := if (z_bo (¬ (nI t) < 0 ∧ (nI t) < I 37 7)) = 0 then z_go 21 [some (.ref 0), some (.int (nI t)), some (.int (nI u))] [] 161 (I, J, RF w) else z_go 24 [some (.ref 0), some (.int (nI t)), some (.int (nI u))] [] 161 (I, J, RF w)) (fun _ => rfl) ?_
  refine z_evF (fun q0 => z_bo_0.mp q0 ⟨(mt (show _ ↔ t < 0 from z_ltN rfl rfl (by omega) (by omega)).mp (by omega)), ((show _ ↔ t < n from z_ltN rfl h_n (by omega) (by omega)).mpr (by omega))⟩) ?_
  refine z_evL ?_
  refine z_evG 4 (y := z_ret (z_cl E (d + 2) 113 [.ref 37, .int (nI t)] (161, (I, J, RF w))) 32 [some (.ref 0), some (.int (nI t)), some (.int (nI u))] []) (fun _ => rfl) ?_
  refine z_evK (v := .int (I 38 t)) (z' := 161) (σ' := (I, J, RF w)) (x_things_kindOfN E (d + 1) I J w t (by omega)) ?_
  refine z_evG 2 (y := z_ret (z_cl E (d + 2) 106 [.int (I 38 t), .int (nI u)] (161, (I, J, RF w))) 36 [some (.ref 0), some (.int (nI t)), some (.int (nI u))] []) (fun _ => rfl) ?_
  rw [hK]
  refine z_evK (v := .int (z_bo (4 = u ∨ 2 = u ∨ 0 = u))) (z' := 161) (σ' := (I, J, RF w)) (x_isUnder_4 E d I J w u (by omega)) ?_
  refine z_evG 1 (y := if (z_bo (4 = u ∨ 2 = u ∨ 0 = u)) = 0 then z_go 50 [some (.ref 0), some (.int (nI t)), some (.int (nI u))] [] 161 (I, J, RF w) else z_go 39 [some (.ref 0), some (.int (nI t)), some (.int (nI u))] [] 161 (I, J, RF w)) (fun _ => rfl) ?_
  refine z_evO (fun h3 => ?_) (fun h3 => ?_)
  · refine z_evL ?_
    refine z_evG 2 (y := some (.inr (some (.int (-13)), 161, I, J, RF w))) (fun _ => rfl) ?_
    exact z_evR (by rw [if_neg (by omega)])
  · refine z_evL ?_
    refine z_evG 4 (y := z_ret (z_cl E (d + 2) 115 [.ref 37, .int (nI t)] (161, (I, J, RF w))) 47 [some (.ref 0), some (.int (nI t)), some (.int (nI u))] []) (fun _ => rfl) ?_
    refine z_evK (v := .int (I 40 t)) (z' := 161) (σ' := (I, J, RF w)) (x_things_numberOfN E (d + 1) I J w t (by omega)) ?_
    refine z_evG 2 (y := some (.inr (some (.int (I 40 t)), 161, I, J, RF w))) (fun _ => rfl) ?_
    exact z_evR (by rw [if_pos (by omega)])
set_option maxRecDepth 20000 in
/-- LampHouseModel.taken -/
theorem m_taken_4 (E : zE) (d : Nat) (I : Nat → Nat → Int32) (J : Nat → Nat → Int64) (w : Nat) (t u n : Nat) (h_n : I 127 3 = nI n) (hm_n : n ≤ 20) (hl_t : t < n) (hl_u : u < 6) (hK : I 129 t = 4) : z_cl E (d + 3) 252 [.ref 127, .int (nI t), .int (nI u)] (161, I, J, RF w) = some (some (.int (if 4 = u ∨ 2 = u ∨ 0 = u then I 131 t else (-13))), 161, I, J, RF w) := by
  refine z_call (d := d + 2) (M := z_m252) rfl rfl ?_
  refine z_evG 4 (y := z_ret (z_cl E (d + 2) 178 [.int (nI u), .int 0, .int 5] (161, (I, J, RF w))) 6 [some (.ref 127), some (.int (nI t)), some (.int (nI u)), none, none] []) (fun _ => rfl) ?_
  refine z_evK (v := .int (z_bo (¬ (nI u) < 0 ∧ ¬ 5 < (nI u)))) (z' := 161) (σ' := (I, J, RF w)) (m_in E (d + 1) I J w (nI u) 0 5) ?_
  refine z_evG 1 (y := if (z_bo (¬ (nI u) < 0 ∧ ¬ 5 < (nI u))) = 0 then z_go 9 [some (.ref 127), some (.int (nI t)), some (.int (nI u)), none, none] [] 161 (I, J, RF w) else z_go 12 [some (.ref 127), some (.int (nI t)), some (.int (nI u)), none, none] [] 161 (I, J, RF w)) (fun _ => rfl) ?_
  refine z_evF (fun q0 => z_bo_0.mp q0 ⟨(mt (show _ ↔ u < 0 from z_ltN rfl rfl (by omega) (by omega)).mp (by omega)), (mt (show _ ↔ 5 < u from z_ltN rfl rfl (by omega) (by omega)).mp (by omega))⟩) ?_
  refine z_evL ?_
  refine z_evG 3 (y := z_ret (z_cl E (d + 2) 183 [.ref 127, .int (nI t)] (161, (I, J, RF w))) 17 [some (.ref 127), some (.int (nI t)), some (.int (nI u)), none, none] []) (fun _ => rfl) ?_
  refine z_evK (v := .int (z_bo (¬ (nI t) < 0 ∧ ¬ I 127 3 - 1 < (nI t)))) (z' := 161) (σ' := (I, J, RF w)) (m_isThing E d I J w (nI t)) ?_
  refine z_evG 1 (y := if (z_bo (¬ (nI t) < 0 ∧ ¬ I 127 3 - 1 < (nI t))) = 0 then z_go 20 [some (.ref 127), some (.int (nI t)), some (.int (nI u)), none, none] [] 161 (I, J, RF w) else z_go 23 [some (.ref 127), some (.int (nI t)), some (.int (nI u)), none, none] [] 161 (I, J, RF w)) (fun _ => rfl) ?_
  refine z_evF (fun q0 => z_bo_0.mp q0 ⟨(mt (show _ ↔ t < 0 from z_ltN rfl rfl (by omega) (by omega)).mp (by omega)), (z_plt h_n rfl (by omega) (by omega))⟩) ?_
  refine z_evL ?_
  refine z_evG 4 (y := z_ild (z_ia E 161 (I, J, RF w) 129) (nI t) fun vv => z_go 29 [some (.ref 127), some (.int (nI t)), some (.int (nI u)), none, none] [.int vv] 161 (I, J, RF w)) (fun _ => rfl) ?_
  refine z_evBn (N := 20) (f := (I 129)) (k := t) rfl rfl (by omega) ?_
  refine z_evL ?_
  rw [show I 129 t = 4 from hK]
  refine z_evG 3 (y := if (nI u) = 0 then z_go 64 [some (.ref 127), some (.int (nI t)), some (.int (nI u)), some (.int 4), none] [] 161 (I, J, RF w) else z_go 34 [some (.ref 127), some (.int (nI t)), some (.int (nI u)), some (.int 4), none] [] 161 (I, J, RF w)) (fun _ => rfl) ?_
  refine z_evIN (show _ ↔ u = 0 from z_eqN rfl rfl (by omega) (by omega)) (fun h3 => ?_) (fun h3 => ?_)
  · refine z_evL ?_
    refine z_evG 5 (y := if 1 = 0 then z_go 85 [some (.ref 127), some (.int (nI t)), some (.int (nI u)), some (.int 4), some (.int 1)] [] 161 (I, J, RF w) else z_go 76 [some (.ref 127), some (.int (nI t)), some (.int (nI u)), some (.int 4), some (.int 1)] [] 161 (I, J, RF w)) (fun _ => rfl) ?_
    refine z_evI (fun q => absurd q (by decide)) (fun _ => ?_)
    refine z_evL ?_
    refine z_evG 4 (y := z_ild (z_ia E 161 (I, J, RF w) 131) (nI t) fun vv => z_go 82 [some (.ref 127), some (.int (nI t)), some (.int (nI u)), some (.int 4), some (.int 1)] [.int vv] 161 (I, J, RF w)) (fun _ => rfl) ?_
    refine z_evBn (N := 20) (f := (I 131)) (k := t) rfl rfl (by omega) ?_
    refine z_evL ?_
    refine z_evG 2 (y := some (.inr (some (.int (I 131 t)), 161, I, J, RF w))) (fun _ => rfl) ?_
    exact z_evR (by rw [if_pos (by omega)])
  · refine z_evL ?_
    refine z_evG 3 (y := if 4 = (nI u) then z_go 64 [some (.ref 127), some (.int (nI t)), some (.int (nI u)), some (.int 4), none] [] 161 (I, J, RF w) else z_go 39 [some (.ref 127), some (.int (nI t)), some (.int (nI u)), some (.int 4), none] [] 161 (I, J, RF w)) (fun _ => rfl) ?_
    refine z_evIN (show _ ↔ 4 = u from z_eqN rfl rfl (by omega) (by omega)) (fun h5 => ?_) (fun h5 => ?_)
    · refine z_evL ?_
      refine z_evG 5 (y := if 1 = 0 then z_go 85 [some (.ref 127), some (.int (nI t)), some (.int (nI u)), some (.int 4), some (.int 1)] [] 161 (I, J, RF w) else z_go 76 [some (.ref 127), some (.int (nI t)), some (.int (nI u)), some (.int 4), some (.int 1)] [] 161 (I, J, RF w)) (fun _ => rfl) ?_
      refine z_evI (fun q => absurd q (by decide)) (fun _ => ?_)
      refine z_evL ?_
      refine z_evG 4 (y := z_ild (z_ia E 161 (I, J, RF w) 131) (nI t) fun vv => z_go 82 [some (.ref 127), some (.int (nI t)), some (.int (nI u)), some (.int 4), some (.int 1)] [.int vv] 161 (I, J, RF w)) (fun _ => rfl) ?_
      refine z_evBn (N := 20) (f := (I 131)) (k := t) rfl rfl (by omega) ?_
      refine z_evL ?_
      refine z_evG 2 (y := some (.inr (some (.int (I 131 t)), 161, I, J, RF w))) (fun _ => rfl) ?_
      exact z_evR (by rw [if_pos (by omega)])
    · refine z_evL ?_
      refine z_evG 3 (y := if (nI u) = 1 then z_go 44 [some (.ref 127), some (.int (nI t)), some (.int (nI u)), some (.int 4), none] [] 161 (I, J, RF w) else z_go 49 [some (.ref 127), some (.int (nI t)), some (.int (nI u)), some (.int 4), none] [] 161 (I, J, RF w)) (fun _ => rfl) ?_
      refine z_evIN (show _ ↔ u = 1 from z_eqN rfl rfl (by omega) (by omega)) (fun h7 => ?_) (fun h7 => ?_)
      · refine z_evL ?_
        refine z_evG 3 (y := if 4 = 3 then z_go 64 [some (.ref 127), some (.int (nI t)), some (.int (nI u)), some (.int 4), none] [] 161 (I, J, RF w) else z_go 49 [some (.ref 127), some (.int (nI t)), some (.int (nI u)), some (.int 4), none] [] 161 (I, J, RF w)) (fun _ => rfl) ?_
        refine z_evI (fun q => absurd q (by decide)) (fun _ => ?_)
        refine z_evL ?_
        refine z_evG 3 (y := if (nI u) = 2 then z_go 54 [some (.ref 127), some (.int (nI t)), some (.int (nI u)), some (.int 4), none] [] 161 (I, J, RF w) else z_go 68 [some (.ref 127), some (.int (nI t)), some (.int (nI u)), some (.int 4), none] [] 161 (I, J, RF w)) (fun _ => rfl) ?_
        refine z_evIN (show _ ↔ u = 2 from z_eqN rfl rfl (by omega) (by omega)) (fun h9 => ?_) (fun h9 => ?_)
        · refine z_evL ?_
          refine z_evG 3 (y := if 4 = 4 then z_go 64 [some (.ref 127), some (.int (nI t)), some (.int (nI u)), some (.int 4), none] [] 161 (I, J, RF w) else z_go 59 [some (.ref 127), some (.int (nI t)), some (.int (nI u)), some (.int 4), none] [] 161 (I, J, RF w)) (fun _ => rfl) ?_
          refine z_evI (fun _ => ?_) (fun q => absurd (by decide) q)
          refine z_evL ?_
          refine z_evG 5 (y := if 1 = 0 then z_go 85 [some (.ref 127), some (.int (nI t)), some (.int (nI u)), some (.int 4), some (.int 1)] [] 161 (I, J, RF w) else z_go 76 [some (.ref 127), some (.int (nI t)), some (.int (nI u)), some (.int 4), some (.int 1)] [] 161 (I, J, RF w)) (fun _ => rfl) ?_
          refine z_evI (fun q => absurd q (by decide)) (fun _ => ?_)
          refine z_evL ?_
          refine z_evG 4 (y := z_ild (z_ia E 161 (I, J, RF w) 131) (nI t) fun vv => z_go 82 [some (.ref 127), some (.int (nI t)), some (.int (nI u)), some (.int 4), some (.int 1)] [.int vv] 161 (I, J, RF w)) (fun _ => rfl) ?_
          refine z_evBn (N := 20) (f := (I 131)) (k := t) rfl rfl (by omega) ?_
          refine z_evL ?_
          refine z_evG 2 (y := some (.inr (some (.int (I 131 t)), 161, I, J, RF w))) (fun _ => rfl) ?_
          exact z_evR (by rw [if_pos (by omega)])
        · refine z_evL ?_
          refine z_evG 4 (y := if 0 = 0 then z_go 85 [some (.ref 127), some (.int (nI t)), some (.int (nI u)), some (.int 4), some (.int 0)] [] 161 (I, J, RF w) else z_go 76 [some (.ref 127), some (.int (nI t)), some (.int (nI u)), some (.int 4), some (.int 0)] [] 161 (I, J, RF w)) (fun _ => rfl) ?_
          refine z_evI (fun _ => ?_) (fun q => absurd (by decide) q)
          refine z_evL ?_
          refine z_evG 2 (y := some (.inr (some (.int (-13)), 161, I, J, RF w))) (fun _ => rfl) ?_
          exact z_evR (by rw [if_neg (by omega)])
      · refine z_evL ?_
        refine z_evG 3 (y := if (nI u) = 2 then z_go 54 [some (.ref 127), some (.int (nI t)), some (.int (nI u)), some (.int 4), none] [] 161 (I, J, RF w) else z_go 68 [some (.ref 127), some (.int (nI t)), some (.int (nI u)), some (.int 4), none] [] 161 (I, J, RF w)) (fun _ => rfl) ?_
        refine z_evIN (show _ ↔ u = 2 from z_eqN rfl rfl (by omega) (by omega)) (fun h13 => ?_) (fun h13 => ?_)
        · refine z_evL ?_
          refine z_evG 3 (y := if 4 = 4 then z_go 64 [some (.ref 127), some (.int (nI t)), some (.int (nI u)), some (.int 4), none] [] 161 (I, J, RF w) else z_go 59 [some (.ref 127), some (.int (nI t)), some (.int (nI u)), some (.int 4), none] [] 161 (I, J, RF w)) (fun _ => rfl) ?_
          refine z_evI (fun _ => ?_) (fun q => absurd (by decide) q)
          refine z_evL ?_
          refine z_evG 5 (y := if 1 = 0 then z_go 85 [some (.ref 127), some (.int (nI t)), some (.int (nI u)), some (.int 4), some (.int 1)] [] 161 (I, J, RF w) else z_go 76 [some (.ref 127), some (.int (nI t)), some (.int (nI u)), some (.int 4), some (.int 1)] [] 161 (I, J, RF w)) (fun _ => rfl) ?_
          refine z_evI (fun q => absurd q (by decide)) (fun _ => ?_)
          refine z_evL ?_
          refine z_evG 4 (y := z_ild (z_ia E 161 (I, J, RF w) 131) (nI t) fun vv => z_go 82 [some (.ref 127), some (.int (nI t)), some (.int (nI u)), some (.int 4), some (.int 1)] [.int vv] 161 (I, J, RF w)) (fun _ => rfl) ?_
          refine z_evBn (N := 20) (f := (I 131)) (k := t) rfl rfl (by omega) ?_
          refine z_evL ?_
          refine z_evG 2 (y := some (.inr (some (.int (I 131 t)), 161, I, J, RF w))) (fun _ => rfl) ?_
          exact z_evR (by rw [if_pos (by omega)])
        · refine z_evL ?_
          refine z_evG 4 (y := if 0 = 0 then z_go 85 [some (.ref 127), some (.int (nI t)), some (.int (nI u)), some (.int 4), some (.int 0)] [] 161 (I, J, RF w) else z_go 76 [some (.ref 127), some (.int (nI t)), some (.int (nI u)), some (.int 4), some (.int 0)] [] 161 (I, J, RF w)) (fun _ => rfl) ?_
          refine z_evI (fun _ => ?_) (fun q => absurd (by decide) q)
          refine z_evL ?_
          refine z_evG 2 (y := some (.inr (some (.int (-13)), 161, I, J, RF w))) (fun _ => rfl) ?_
          exact z_evR (by rw [if_neg (by omega)])
set_option maxRecDepth 20000 in
/-- LampHouse.taken -/
theorem x_taken_5 (E : zE) (d : Nat) (I : Nat → Nat → Int32) (J : Nat → Nat → Int64) (w : Nat) (t u n : Nat) (h_n : I 37 7 = nI n) (hm_n : n ≤ 20) (hl_t : t < n) (hl_u : u < 6) (hK : I 38 t = 5) : z_cl E (d + 3) 165 [.ref 0, .int (nI t), .int (nI u)] (161, I, J, RF w) = some (some (.int (if 5 = u ∨ 2 = u ∨ 0 = u then I 40 t else (-13))), 161, I, J, RF w) := by
  refine z_call (d := d + 2) (M := z_m165) rfl rfl ?_
  refine z_evG 2 (y := z_ret (z_cl E (d + 2) 105 [.int (nI u)] (161, (I, J, RF w))) 4 [some (.ref 0), some (.int (nI t)), some (.int (nI u))] []) (fun _ => rfl) ?_
  refine z_evK (v := .int (z_bo (¬ (nI u) < 0 ∧ (nI u) < 6))) (z' := 161) (σ' := (I, J, RF w)) (x_isKind E (d + 1) I J w (nI u)) ?_
  refine z_evG 1 (y := if (z_bo (¬ (nI u) < 0 ∧ (nI u) < 6)) = 0 then z_go 7 [some (.ref 0), some (.int (nI t)), some (.int (nI u))] [] 161 (I, J, RF w) else z_go 10 [some (.ref 0), some (.int (nI t)), some (.int (nI u))] [] 161 (I, J, RF w)) (fun _ => rfl) ?_
  refine z_evF (fun q0 => z_bo_0.mp q0 ⟨(mt (show _ ↔ u < 0 from z_ltN rfl rfl (by omega) (by omega)).mp (by omega)), ((show _ ↔ u < 6 from z_ltN rfl rfl (by omega) (by omega)).mpr (by omega))⟩) ?_
  refine z_evL ?_
  refine z_evG 4 (y := z_ret (z_cl E (d + 2) 108 [.ref 37, .int (nI t)] (161, (I, J, RF w))) 18 [some (.ref 0), some (.int (nI t)), some (.int (nI u))] []) (fun _ => rfl) ?_
  refine z_evK (v := .int (z_bo (¬ (nI t) < 0 ∧ (nI t) < I 37 7))) (z' := 161) (σ' := (I, J, RF w)) (x_things_has E (d + 1) I J w (nI t)) ?_
  refine z_evG 1 (y := if (z_bo (¬ (nI t) < 0 ∧ (nI t) < I 37 7)) = 0 then z_go 21 [some (.ref 0), some (.int (nI t)), some (.int (nI u))] [] 161 (I, J, RF w) else z_go 24 [some (.ref 0), some (.int (nI t)), some (.int (nI u))] [] 161 (I, J, RF w)) (fun _ => rfl) ?_
  refine z_evF (fun q0 => z_bo_0.mp q0 ⟨(mt (show _ ↔ t < 0 from z_ltN rfl rfl (by omega) (by omega)).mp (by omega)), ((show _ ↔ t < n from z_ltN rfl h_n (by omega) (by omega)).mpr (by omega))⟩) ?_
  refine z_evL ?_
  refine z_evG 4 (y := z_ret (z_cl E (d + 2) 113 [.ref 37, .int (nI t)] (161, (I, J, RF w))) 32 [some (.ref 0), some (.int (nI t)), some (.int (nI u))] []) (fun _ => rfl) ?_
  refine z_evK (v := .int (I 38 t)) (z' := 161) (σ' := (I, J, RF w)) (x_things_kindOfN E (d + 1) I J w t (by omega)) ?_
  refine z_evG 2 (y := z_ret (z_cl E (d + 2) 106 [.int (I 38 t), .int (nI u)] (161, (I, J, RF w))) 36 [some (.ref 0), some (.int (nI t)), some (.int (nI u))] []) (fun _ => rfl) ?_
  rw [hK]
  refine z_evK (v := .int (z_bo (5 = u ∨ 2 = u ∨ 0 = u))) (z' := 161) (σ' := (I, J, RF w)) (x_isUnder_5 E d I J w u (by omega)) ?_
  refine z_evG 1 (y := if (z_bo (5 = u ∨ 2 = u ∨ 0 = u)) = 0 then z_go 50 [some (.ref 0), some (.int (nI t)), some (.int (nI u))] [] 161 (I, J, RF w) else z_go 39 [some (.ref 0), some (.int (nI t)), some (.int (nI u))] [] 161 (I, J, RF w)) (fun _ => rfl) ?_
  refine z_evO (fun h3 => ?_) (fun h3 => ?_)
  · refine z_evL ?_
    refine z_evG 2 (y := some (.inr (some (.int (-13)), 161, I, J, RF w))) (fun _ => rfl) ?_
    exact z_evR (by rw [if_neg (by omega)])
  · refine z_evL ?_
    refine z_evG 4 (y := z_ret (z_cl E (d + 2) 115 [.ref 37, .int (nI t)] (161, (I, J, RF w))) 47 [some (.ref 0), some (.int (nI t)), some (.int (nI u))] []) (fun _ => rfl) ?_
    refine z_evK (v := .int (I 40 t)) (z' := 161) (σ' := (I, J, RF w)) (x_things_numberOfN E (d + 1) I J w t (by omega)) ?_
    refine z_evG 2 (y := some (.inr (some (.int (I 40 t)), 161, I, J, RF w))) (fun _ => rfl) ?_
    exact z_evR (by rw [if_pos (by omega)])
set_option maxRecDepth 20000 in
/-- LampHouseModel.taken -/
theorem m_taken_5 (E : zE) (d : Nat) (I : Nat → Nat → Int32) (J : Nat → Nat → Int64) (w : Nat) (t u n : Nat) (h_n : I 127 3 = nI n) (hm_n : n ≤ 20) (hl_t : t < n) (hl_u : u < 6) (hK : I 129 t = 5) : z_cl E (d + 3) 252 [.ref 127, .int (nI t), .int (nI u)] (161, I, J, RF w) = some (some (.int (if 5 = u ∨ 2 = u ∨ 0 = u then I 131 t else (-13))), 161, I, J, RF w) := by
  refine z_call (d := d + 2) (M := z_m252) rfl rfl ?_
  refine z_evG 4 (y := z_ret (z_cl E (d + 2) 178 [.int (nI u), .int 0, .int 5] (161, (I, J, RF w))) 6 [some (.ref 127), some (.int (nI t)), some (.int (nI u)), none, none] []) (fun _ => rfl) ?_
  refine z_evK (v := .int (z_bo (¬ (nI u) < 0 ∧ ¬ 5 < (nI u)))) (z' := 161) (σ' := (I, J, RF w)) (m_in E (d + 1) I J w (nI u) 0 5) ?_
  refine z_evG 1 (y := if (z_bo (¬ (nI u) < 0 ∧ ¬ 5 < (nI u))) = 0 then z_go 9 [some (.ref 127), some (.int (nI t)), some (.int (nI u)), none, none] [] 161 (I, J, RF w) else z_go 12 [some (.ref 127), some (.int (nI t)), some (.int (nI u)), none, none] [] 161 (I, J, RF w)) (fun _ => rfl) ?_
  refine z_evF (fun q0 => z_bo_0.mp q0 ⟨(mt (show _ ↔ u < 0 from z_ltN rfl rfl (by omega) (by omega)).mp (by omega)), (mt (show _ ↔ 5 < u from z_ltN rfl rfl (by omega) (by omega)).mp (by omega))⟩) ?_
  refine z_evL ?_
  refine z_evG 3 (y := z_ret (z_cl E (d + 2) 183 [.ref 127, .int (nI t)] (161, (I, J, RF w))) 17 [some (.ref 127), some (.int (nI t)), some (.int (nI u)), none, none] []) (fun _ => rfl) ?_
  refine z_evK (v := .int (z_bo (¬ (nI t) < 0 ∧ ¬ I 127 3 - 1 < (nI t)))) (z' := 161) (σ' := (I, J, RF w)) (m_isThing E d I J w (nI t)) ?_
  refine z_evG 1 (y := if (z_bo (¬ (nI t) < 0 ∧ ¬ I 127 3 - 1 < (nI t))) = 0 then z_go 20 [some (.ref 127), some (.int (nI t)), some (.int (nI u)), none, none] [] 161 (I, J, RF w) else z_go 23 [some (.ref 127), some (.int (nI t)), some (.int (nI u)), none, none] [] 161 (I, J, RF w)) (fun _ => rfl) ?_
  refine z_evF (fun q0 => z_bo_0.mp q0 ⟨(mt (show _ ↔ t < 0 from z_ltN rfl rfl (by omega) (by omega)).mp (by omega)), (z_plt h_n rfl (by omega) (by omega))⟩) ?_
  refine z_evL ?_
  refine z_evG 4 (y := z_ild (z_ia E 161 (I, J, RF w) 129) (nI t) fun vv => z_go 29 [some (.ref 127), some (.int (nI t)), some (.int (nI u)), none, none] [.int vv] 161 (I, J, RF w)) (fun _ => rfl) ?_
  refine z_evBn (N := 20) (f := (I 129)) (k := t) rfl rfl (by omega) ?_
  refine z_evL ?_
  rw [show I 129 t = 5 from hK]
  refine z_evG 3 (y := if (nI u) = 0 then z_go 64 [some (.ref 127), some (.int (nI t)), some (.int (nI u)), some (.int 5), none] [] 161 (I, J, RF w) else z_go 34 [some (.ref 127), some (.int (nI t)), some (.int (nI u)), some (.int 5), none] [] 161 (I, J, RF w)) (fun _ => rfl) ?_
  refine z_evIN (show _ ↔ u = 0 from z_eqN rfl rfl (by omega) (by omega)) (fun h3 => ?_) (fun h3 => ?_)
  · refine z_evL ?_
    refine z_evG 5 (y := if 1 = 0 then z_go 85 [some (.ref 127), some (.int (nI t)), some (.int (nI u)), some (.int 5), some (.int 1)] [] 161 (I, J, RF w) else z_go 76 [some (.ref 127), some (.int (nI t)), some (.int (nI u)), some (.int 5), some (.int 1)] [] 161 (I, J, RF w)) (fun _ => rfl) ?_
    refine z_evI (fun q => absurd q (by decide)) (fun _ => ?_)
    refine z_evL ?_
    refine z_evG 4 (y := z_ild (z_ia E 161 (I, J, RF w) 131) (nI t) fun vv => z_go 82 [some (.ref 127), some (.int (nI t)), some (.int (nI u)), some (.int 5), some (.int 1)] [.int vv] 161 (I, J, RF w)) (fun _ => rfl) ?_
    refine z_evBn (N := 20) (f := (I 131)) (k := t) rfl rfl (by omega) ?_
    refine z_evL ?_
    refine z_evG 2 (y := some (.inr (some (.int (I 131 t)), 161, I, J, RF w))) (fun _ => rfl) ?_
    exact z_evR (by rw [if_pos (by omega)])
  · refine z_evL ?_
    refine z_evG 3 (y := if 5 = (nI u) then z_go 64 [some (.ref 127), some (.int (nI t)), some (.int (nI u)), some (.int 5), none] [] 161 (I, J, RF w) else z_go 39 [some (.ref 127), some (.int (nI t)), some (.int (nI u)), some (.int 5), none] [] 161 (I, J, RF w)) (fun _ => rfl) ?_
    refine z_evIN (show _ ↔ 5 = u from z_eqN rfl rfl (by omega) (by omega)) (fun h5 => ?_) (fun h5 => ?_)
    · refine z_evL ?_
      refine z_evG 5 (y := if 1 = 0 then z_go 85 [some (.ref 127), some (.int (nI t)), some (.int (nI u)), some (.int 5), some (.int 1)] [] 161 (I, J, RF w) else z_go 76 [some (.ref 127), some (.int (nI t)), some (.int (nI u)), some (.int 5), some (.int 1)] [] 161 (I, J, RF w)) (fun _ => rfl) ?_
      refine z_evI (fun q => absurd q (by decide)) (fun _ => ?_)
      refine z_evL ?_
      refine z_evG 4 (y := z_ild (z_ia E 161 (I, J, RF w) 131) (nI t) fun vv => z_go 82 [some (.ref 127), some (.int (nI t)), some (.int (nI u)), some (.int 5), some (.int 1)] [.int vv] 161 (I, J, RF w)) (fun _ => rfl) ?_
      refine z_evBn (N := 20) (f := (I 131)) (k := t) rfl rfl (by omega) ?_
      refine z_evL ?_
      refine z_evG 2 (y := some (.inr (some (.int (I 131 t)), 161, I, J, RF w))) (fun _ => rfl) ?_
      exact z_evR (by rw [if_pos (by omega)])
    · refine z_evL ?_
      refine z_evG 3 (y := if (nI u) = 1 then z_go 44 [some (.ref 127), some (.int (nI t)), some (.int (nI u)), some (.int 5), none] [] 161 (I, J, RF w) else z_go 49 [some (.ref 127), some (.int (nI t)), some (.int (nI u)), some (.int 5), none] [] 161 (I, J, RF w)) (fun _ => rfl) ?_
      refine z_evIN (show _ ↔ u = 1 from z_eqN rfl rfl (by omega) (by omega)) (fun h7 => ?_) (fun h7 => ?_)
      · refine z_evL ?_
        refine z_evG 3 (y := if 5 = 3 then z_go 64 [some (.ref 127), some (.int (nI t)), some (.int (nI u)), some (.int 5), none] [] 161 (I, J, RF w) else z_go 49 [some (.ref 127), some (.int (nI t)), some (.int (nI u)), some (.int 5), none] [] 161 (I, J, RF w)) (fun _ => rfl) ?_
        refine z_evI (fun q => absurd q (by decide)) (fun _ => ?_)
        refine z_evL ?_
        refine z_evG 3 (y := if (nI u) = 2 then z_go 54 [some (.ref 127), some (.int (nI t)), some (.int (nI u)), some (.int 5), none] [] 161 (I, J, RF w) else z_go 68 [some (.ref 127), some (.int (nI t)), some (.int (nI u)), some (.int 5), none] [] 161 (I, J, RF w)) (fun _ => rfl) ?_
        refine z_evIN (show _ ↔ u = 2 from z_eqN rfl rfl (by omega) (by omega)) (fun h9 => ?_) (fun h9 => ?_)
        · refine z_evL ?_
          refine z_evG 3 (y := if 5 = 4 then z_go 64 [some (.ref 127), some (.int (nI t)), some (.int (nI u)), some (.int 5), none] [] 161 (I, J, RF w) else z_go 59 [some (.ref 127), some (.int (nI t)), some (.int (nI u)), some (.int 5), none] [] 161 (I, J, RF w)) (fun _ => rfl) ?_
          refine z_evI (fun q => absurd q (by decide)) (fun _ => ?_)
          refine z_evL ?_
          refine z_evG 3 (y := if 5 = 5 then z_go 64 [some (.ref 127), some (.int (nI t)), some (.int (nI u)), some (.int 5), none] [] 161 (I, J, RF w) else z_go 68 [some (.ref 127), some (.int (nI t)), some (.int (nI u)), some (.int 5), none] [] 161 (I, J, RF w)) (fun _ => rfl) ?_
          refine z_evI (fun _ => ?_) (fun q => absurd (by decide) q)
          refine z_evL ?_
          refine z_evG 5 (y := if 1 = 0 then z_go 85 [some (.ref 127), some (.int (nI t)), some (.int (nI u)), some (.int 5), some (.int 1)] [] 161 (I, J, RF w) else z_go 76 [some (.ref 127), some (.int (nI t)), some (.int (nI u)), some (.int 5), some (.int 1)] [] 161 (I, J, RF w)) (fun _ => rfl) ?_
          refine z_evI (fun q => absurd q (by decide)) (fun _ => ?_)
          refine z_evL ?_
          refine z_evG 4 (y := z_ild (z_ia E 161 (I, J, RF w) 131) (nI t) fun vv => z_go 82 [some (.ref 127), some (.int (nI t)), some (.int (nI u)), some (.int 5), some (.int 1)] [.int vv] 161 (I, J, RF w)) (fun _ => rfl) ?_
          refine z_evBn (N := 20) (f := (I 131)) (k := t) rfl rfl (by omega) ?_
          refine z_evL ?_
          refine z_evG 2 (y := some (.inr (some (.int (I 131 t)), 161, I, J, RF w))) (fun _ => rfl) ?_
          exact z_evR (by rw [if_pos (by omega)])
        · refine z_evL ?_
          refine z_evG 4 (y := if 0 = 0 then z_go 85 [some (.ref 127), some (.int (nI t)), some (.int (nI u)), some (.int 5), some (.int 0)] [] 161 (I, J, RF w) else z_go 76 [some (.ref 127), some (.int (nI t)), some (.int (nI u)), some (.int 5), some (.int 0)] [] 161 (I, J, RF w)) (fun _ => rfl) ?_
          refine z_evI (fun _ => ?_) (fun q => absurd (by decide) q)
          refine z_evL ?_
          refine z_evG 2 (y := some (.inr (some (.int (-13)), 161, I, J, RF w))) (fun _ => rfl) ?_
          exact z_evR (by rw [if_neg (by omega)])
      · refine z_evL ?_
        refine z_evG 3 (y := if (nI u) = 2 then z_go 54 [some (.ref 127), some (.int (nI t)), some (.int (nI u)), some (.int 5), none] [] 161 (I, J, RF w) else z_go 68 [some (.ref 127), some (.int (nI t)), some (.int (nI u)), some (.int 5), none] [] 161 (I, J, RF w)) (fun _ => rfl) ?_
        refine z_evIN (show _ ↔ u = 2 from z_eqN rfl rfl (by omega) (by omega)) (fun h14 => ?_) (fun h14 => ?_)
        · refine z_evL ?_
          refine z_evG 3 (y := if 5 = 4 then z_go 64 [some (.ref 127), some (.int (nI t)), some (.int (nI u)), some (.int 5), none] [] 161 (I, J, RF w) else z_go 59 [some (.ref 127), some (.int (nI t)), some (.int (nI u)), some (.int 5), none] [] 161 (I, J, RF w)) (fun _ => rfl) ?_
          refine z_evI (fun q => absurd q (by decide)) (fun _ => ?_)
          refine z_evL ?_
          refine z_evG 3 (y := if 5 = 5 then z_go 64 [some (.ref 127), some (.int (nI t)), some (.int (nI u)), some (.int 5), none] [] 161 (I, J, RF w) else z_go 68 [some (.ref 127), some (.int (nI t)), some (.int (nI u)), some (.int 5), none] [] 161 (I, J, RF w)) (fun _ => rfl) ?_
          refine z_evI (fun _ => ?_) (fun q => absurd (by decide) q)
          refine z_evL ?_
          refine z_evG 5 (y := if 1 = 0 then z_go 85 [some (.ref 127), some (.int (nI t)), some (.int (nI u)), some (.int 5), some (.int 1)] [] 161 (I, J, RF w) else z_go 76 [some (.ref 127), some (.int (nI t)), some (.int (nI u)), some (.int 5), some (.int 1)] [] 161 (I, J, RF w)) (fun _ => rfl) ?_
          refine z_evI (fun q => absurd q (by decide)) (fun _ => ?_)
          refine z_evL ?_
          refine z_evG 4 (y := z_ild (z_ia E 161 (I, J, RF w) 131) (nI t) fun vv => z_go 82 [some (.ref 127), some (.int (nI t)), some (.int (nI u)), some (.int 5), some (.int 1)] [.int vv] 161 (I, J, RF w)) (fun _ => rfl) ?_
          refine z_evBn (N := 20) (f := (I 131)) (k := t) rfl rfl (by omega) ?_
          refine z_evL ?_
          refine z_evG 2 (y := some (.inr (some (.int (I 131 t)), 161, I, J, RF w))) (fun _ => rfl) ?_
          exact z_evR (by rw [if_pos (by omega)])
        · refine z_evL ?_
          refine z_evG 4 (y := if 0 = 0 then z_go 85 [some (.ref 127), some (.int (nI t)), some (.int (nI u)), some (.int 5), some (.int 0)] [] 161 (I, J, RF w) else z_go 76 [some (.ref 127), some (.int (nI t)), some (.int (nI u)), some (.int 5), some (.int 0)] [] 161 (I, J, RF w)) (fun _ => rfl) ?_
          refine z_evI (fun _ => ?_) (fun q => absurd (by decide) q)
          refine z_evL ?_
          refine z_evG 2 (y := some (.inr (some (.int (-13)), 161, I, J, RF w))) (fun _ => rfl) ?_
          exact z_evR (by rw [if_neg (by omega)])
set_option maxRecDepth 20000 in
/-- LampHouse.areNumbersOfRow -/
theorem x_areNumbers (E : zE) (d : Nat) (I : Nat → Nat → Int32) (J : Nat → Nat → Int64) (w : Nat) (n : Nat) (hn : n = 8) : z_cl E (d + 1) 169 [.ref 125] (161, I, J, RF w) = some (some (.int (z_bo (∀ t, t < n → ¬ I 125 t < 0 ∧ ¬ 999 < I 125 t))), 161, I, J, RF w) := by
  refine z_call (d := d + 0) (M := z_m169) rfl rfl ?_
  refine z_evG 7 (y := z_go 7 [some (.ref 125), some (.ref 125), some (.int 8), some (.int 0), none] [] 161 (I, J, RF w)) (fun _ => rfl) ?_
  refine z_evL ?_
  refine z_loop (F := fun k => ([some (.ref 125), some (.ref 125), some (.int 8), some (.int (nI k)), z_di (I 125) k], (I, J, RF w))) (P := fun k => ∀ t, t < k → ¬ I 125 t < 0 ∧ ¬ 999 < I 125 t) n z_all0 (fun hP => ?_) (fun k hk hP next => ?_)
  · show z_Ev E d z_m169 7 [some (.ref 125), some (.ref 125), some (.int 8), some (.int (nI n)), z_di (I 125) n] [] 161 (I, J, RF w) _
    refine z_evG 3 (y := if (nI n) < 8 then z_go 12 [some (.ref 125), some (.ref 125), some (.int 8), some (.int (nI n)), z_di (I 125) n] [] 161 (I, J, RF w) else z_go 38 [some (.ref 125), some (.ref 125), some (.int 8), some (.int (nI n)), z_di (I 125) n] [] 161 (I, J, RF w)) (fun _ => rfl) ?_
    refine z_evF (mt (show _ ↔ n < 8 from z_ltN rfl rfl (by omega) (by omega)).mp (by omega)) ?_
    refine z_evL ?_
    refine z_evG 2 (y := some (.inr (some (.int 1), 161, I, J, RF w))) (fun _ => rfl) ?_
    exact z_evR (by rw [z_bo_t hP])
  · show z_Ev E d z_m169 7 [some (.ref 125), some (.ref 125), some (.int 8), some (.int (nI k)), z_di (I 125) k] [] 161 (I, J, RF w) _
    have nx : (∀ t, t < (k + 1) → ¬ I 125 t < 0 ∧ ¬ 999 < I 125 t) → z_Ev E d z_m169 7 [some (.ref 125), some (.ref 125), some (.int 8), some (.int (nI (k + 1))), z_di (I 125) (k + 1)] [] 161 (I, J, RF w) _ := next
    refine z_evG 3 (y := if (nI k) < 8 then z_go 12 [some (.ref 125), some (.ref 125), some (.int 8), some (.int (nI k)), z_di (I 125) k] [] 161 (I, J, RF w) else z_go 38 [some (.ref 125), some (.ref 125), some (.int 8), some (.int (nI k)), z_di (I 125) k] [] 161 (I, J, RF w)) (fun _ => rfl) ?_
    refine z_evT ((show _ ↔ k < 8 from z_ltN rfl rfl (by omega) (by omega)).mpr (by omega)) ?_
    refine z_evL ?_
    refine z_evG 3 (y := z_ild (z_ia E 161 (I, J, RF w) 125) (nI k) fun vv => z_go 15 [some (.ref 125), some (.ref 125), some (.int 8), some (.int (nI k)), z_di (I 125) k] [.int vv] 161 (I, J, RF w)) (fun _ => rfl) ?_
    refine z_evBn (N := 8) (f := (I 125)) (k := k) rfl rfl (by omega) ?_
    refine z_evL ?_
    refine z_evG 3 (y := if (I 125 k) < 0 then z_go 30 [some (.ref 125), some (.ref 125), some (.int 8), some (.int (nI k)), some (.int (I 125 k))] [] 161 (I, J, RF w) else z_go 22 [some (.ref 125), some (.ref 125), some (.int 8), some (.int (nI k)), some (.int (I 125 k))] [] 161 (I, J, RF w)) (fun _ => rfl) ?_
    refine z_evI (fun h3 => ?_) (fun h3 => ?_)
    · refine z_evL ?_
      refine z_evG 2 (y := some (.inr (some (.int 0), 161, I, J, RF w))) (fun _ => rfl) ?_
      exact z_evR (by rw [z_bo_f (fun q => (q k hk).1 h3)])
    · refine z_evL ?_
      refine z_evG 3 (y := if 999 < (I 125 k) then z_go 30 [some (.ref 125), some (.ref 125), some (.int 8), some (.int (nI k)), some (.int (I 125 k))] [] 161 (I, J, RF w) else z_go 32 [some (.ref 125), some (.ref 125), some (.int 8), some (.int (nI k)), some (.int (I 125 k))] [] 161 (I, J, RF w)) (fun _ => rfl) ?_
      refine z_evI (fun h4 => ?_) (fun h4 => ?_)
      · refine z_evL ?_
        refine z_evG 2 (y := some (.inr (some (.int 0), 161, I, J, RF w))) (fun _ => rfl) ?_
        exact z_evR (by rw [z_bo_f (fun q => (q k hk).2 h4)])
      · refine z_evL ?_
        refine z_evG 2 (y := z_go 7 [some (.ref 125), some (.ref 125), some (.int 8), some (.int ((nI k) + 1)), some (.int (I 125 k))] [] 161 (I, J, RF w)) (fun _ => rfl) ?_
        refine z_evL ?_
        rw [nI_1 k]
        exact nx (z_allS hP ⟨h3, h4⟩)
