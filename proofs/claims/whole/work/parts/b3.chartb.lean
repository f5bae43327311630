-- WORST begins; CHART
set_option maxRecDepth 20000 in
/-- LampHouse.worst -/
theorem x_worst_bad (E : zE) (d : Nat) (I : Nat → Nat → Int32) (J : Nat → Nat → Int64) (w : Nat) (e b x y : Int32) (hbad : ¬ ((¬ e < 0 ∧ e < I 65 3) ∧ (¬ b = 0 ∧ (b &&& ((-1) <<< (I 37 7 &&& 31))) = 0) ∧ (¬ x < 0 ∧ x < I 43 1) ∧ (¬ y < 0 ∧ y < I 43 1))) : z_cl E (d + 6) 147 [.ref 0, .int e, .int b, .int x, .int y] (161, I, J, RF w) = some (some (.int (-2)), 161, I, J, RF w) := by
  refine z_call (d := d + 5) (M := z_m147) rfl rfl ?_
  refine z_evG 4 (y := z_ret (z_cl E (d + 5) 15 [.ref 65, .int e] (161, (I, J, RF w))) 8 [some (.ref 0), some (.int e), some (.int b), some (.int x), some (.int y), none, none, none, none] []) (fun _ => rfl) ?_
  refine z_evK (v := .int (z_bo (¬ e < 0 ∧ e < I 65 3))) (z' := 161) (σ' := (I, J, RF w)) (x_eyes_has E (d + 4) I J w e) ?_
  refine z_evG 1 (y := if (z_bo (¬ e < 0 ∧ e < I 65 3)) = 0 then z_go 45 [some (.ref 0), some (.int e), some (.int b), some (.int x), some (.int y), none, none, none, none] [] 161 (I, J, RF w) else z_go 11 [some (.ref 0), some (.int e), some (.int b), some (.int x), some (.int y), none, none, none, none] [] 161 (I, J, RF w)) (fun _ => rfl) ?_
  refine z_evO (fun h1 => ?_) (fun h1 => ?_)
  · refine z_evL ?_
    refine z_evG 2 (y := some (.inr (some (.int (-2)), 161, I, J, RF w))) (fun _ => rfl) ?_
    exact z_evR rfl
  · refine z_evL ?_
    refine z_evG 4 (y := z_ret (z_cl E (d + 5) 110 [.ref 37, .int b] (161, (I, J, RF w))) 19 [some (.ref 0), some (.int e), some (.int b), some (.int x), some (.int y), none, none, none, none] []) (fun _ => rfl) ?_
    refine z_evK (v := .int (z_bo (¬ b = 0 ∧ (b &&& ((-1) <<< (I 37 7 &&& 31))) = 0))) (z' := 161) (σ' := (I, J, RF w)) (x_things_hasSome E (d + 2) I J w b) ?_
    refine z_evG 1 (y := if (z_bo (¬ b = 0 ∧ (b &&& ((-1) <<< (I 37 7 &&& 31))) = 0)) = 0 then z_go 45 [some (.ref 0), some (.int e), some (.int b), some (.int x), some (.int y), none, none, none, none] [] 161 (I, J, RF w) else z_go 22 [some (.ref 0), some (.int e), some (.int b), some (.int x), some (.int y), none, none, none, none] [] 161 (I, J, RF w)) (fun _ => rfl) ?_
    refine z_evO (fun h2 => ?_) (fun h2 => ?_)
    · refine z_evL ?_
      refine z_evG 2 (y := some (.inr (some (.int (-2)), 161, I, J, RF w))) (fun _ => rfl) ?_
      exact z_evR rfl
    · refine z_evL ?_
      refine z_evG 4 (y := z_ret (z_cl E (d + 5) 8 [.ref 43, .int x] (161, (I, J, RF w))) 30 [some (.ref 0), some (.int e), some (.int b), some (.int x), some (.int y), none, none, none, none] []) (fun _ => rfl) ?_
      refine z_evK (v := .int (z_bo (¬ x < 0 ∧ x < I 43 1))) (z' := 161) (σ' := (I, J, RF w)) (x_lights_has E (d + 4) I J w x) ?_
      refine z_evG 1 (y := if (z_bo (¬ x < 0 ∧ x < I 43 1)) = 0 then z_go 45 [some (.ref 0), some (.int e), some (.int b), some (.int x), some (.int y), none, none, none, none] [] 161 (I, J, RF w) else z_go 33 [some (.ref 0), some (.int e), some (.int b), some (.int x), some (.int y), none, none, none, none] [] 161 (I, J, RF w)) (fun _ => rfl) ?_
      refine z_evO (fun h3 => ?_) (fun h3 => ?_)
      · refine z_evL ?_
        refine z_evG 2 (y := some (.inr (some (.int (-2)), 161, I, J, RF w))) (fun _ => rfl) ?_
        exact z_evR rfl
      · refine z_evL ?_
        refine z_evG 4 (y := z_ret (z_cl E (d + 5) 8 [.ref 43, .int y] (161, (I, J, RF w))) 42 [some (.ref 0), some (.int e), some (.int b), some (.int x), some (.int y), none, none, none, none] []) (fun _ => rfl) ?_
        refine z_evK (v := .int (z_bo (¬ y < 0 ∧ y < I 43 1))) (z' := 161) (σ' := (I, J, RF w)) (x_lights_has E (d + 4) I J w y) ?_
        refine z_evG 1 (y := if (z_bo (¬ y < 0 ∧ y < I 43 1)) = 0 then z_go 45 [some (.ref 0), some (.int e), some (.int b), some (.int x), some (.int y), none, none, none, none] [] 161 (I, J, RF w) else z_go 48 [some (.ref 0), some (.int e), some (.int b), some (.int x), some (.int y), none, none, none, none] [] 161 (I, J, RF w)) (fun _ => rfl) ?_
        refine z_evO (fun h4 => ?_) (fun h4 => ?_)
        · refine z_evL ?_
          refine z_evG 2 (y := some (.inr (some (.int (-2)), 161, I, J, RF w))) (fun _ => rfl) ?_
          exact z_evR rfl
        · refine z_evL ?_
          exact absurd ⟨h1, h2, h3, h4⟩ hbad
set_option maxRecDepth 20000 in
/-- LampHouseModel.worst -/
theorem m_worst_bad (E : zE) (d : Nat) (I : Nat → Nat → Int32) (J : Nat → Nat → Int64) (w : Nat) (e b x y : Int32) (hbad : ¬ ((¬ e < 0 ∧ ¬ I 127 11 - 1 < e) ∧ (¬ b < 0 ∧ b < 1 <<< (I 127 3 &&& 31) ∧ ¬ s_pi b 31 < 1 ∧ ¬ 20 < s_pi b 31) ∧ (¬ x < 0 ∧ ¬ I 127 9 - 1 < x) ∧ (¬ y < 0 ∧ ¬ I 127 9 - 1 < y))) : z_cl E (d + 8) 224 [.ref 127, .int e, .int b, .int x, .int y] (161, I, J, RF w) = some (some (.int (-2)), 161, I, J, RF w) := by
  refine z_call (d := d + 7) (M := z_m224) rfl rfl ?_
  refine z_evG 3 (y := z_ret (z_cl E (d + 7) 185 [.ref 127, .int e] (161, (I, J, RF w))) 5 [some (.ref 127), some (.int e), some (.int b), some (.int x), some (.int y), none, none, none, none] []) (fun _ => rfl) ?_
  refine z_evK (v := .int (z_bo (¬ e < 0 ∧ ¬ I 127 11 - 1 < e))) (z' := 161) (σ' := (I, J, RF w)) (m_isEye E (d + 5) I J w e) ?_
  refine z_evG 1 (y := if (z_bo (¬ e < 0 ∧ ¬ I 127 11 - 1 < e)) = 0 then z_go 39 [some (.ref 127), some (.int e), some (.int b), some (.int x), some (.int y), none, none, none, none] [] 161 (I, J, RF w) else z_go 8 [some (.ref 127), some (.int e), some (.int b), some (.int x), some (.int y), none, none, none, none] [] 161 (I, J, RF w)) (fun _ => rfl) ?_
  refine z_evO (fun h1 => ?_) (fun h1 => ?_)
  · refine z_evL ?_
    refine z_evG 2 (y := some (.inr (some (.int (-2)), 161, I, J, RF w))) (fun _ => rfl) ?_
    exact z_evR rfl
  · refine z_evL ?_
    refine z_evG 6 (y := z_ret (z_cl E (d + 7) 223 [.int b, .int (I 127 3), .int 1, .int 20] (161, (I, J, RF w))) 19 [some (.ref 127), some (.int e), some (.int b), some (.int x), some (.int y), none, none, none, none] []) (fun _ => rfl) ?_
    refine z_evK (v := .int (z_bo (¬ b < 0 ∧ b < 1 <<< ((I 127 3) &&& 31) ∧ ¬ s_pi b 31 < 1 ∧ ¬ 20 < s_pi b 31))) (z' := 161) (σ' := (I, J, RF w)) (m_isSet E (d + 5) I J w b (I 127 3) 1 20) ?_
    refine z_evG 1 (y := if (z_bo (¬ b < 0 ∧ b < 1 <<< ((I 127 3) &&& 31) ∧ ¬ s_pi b 31 < 1 ∧ ¬ 20 < s_pi b 31)) = 0 then z_go 39 [some (.ref 127), some (.int e), some (.int b), some (.int x), some (.int y), none, none, none, none] [] 161 (I, J, RF w) else z_go 22 [some (.ref 127), some (.int e), some (.int b), some (.int x), some (.int y), none, none, none, none] [] 161 (I, J, RF w)) (fun _ => rfl) ?_
    refine z_evO (fun h2 => ?_) (fun h2 => ?_)
    · refine z_evL ?_
      refine z_evG 2 (y := some (.inr (some (.int (-2)), 161, I, J, RF w))) (fun _ => rfl) ?_
      exact z_evR rfl
    · refine z_evL ?_
      refine z_evG 3 (y := z_ret (z_cl E (d + 7) 184 [.ref 127, .int x] (161, (I, J, RF w))) 27 [some (.ref 127), some (.int e), some (.int b), some (.int x), some (.int y), none, none, none, none] []) (fun _ => rfl) ?_
      refine z_evK (v := .int (z_bo (¬ x < 0 ∧ ¬ I 127 9 - 1 < x))) (z' := 161) (σ' := (I, J, RF w)) (m_isLight E (d + 5) I J w x) ?_
      refine z_evG 1 (y := if (z_bo (¬ x < 0 ∧ ¬ I 127 9 - 1 < x)) = 0 then z_go 39 [some (.ref 127), some (.int e), some (.int b), some (.int x), some (.int y), none, none, none, none] [] 161 (I, J, RF w) else z_go 30 [some (.ref 127), some (.int e), some (.int b), some (.int x), some (.int y), none, none, none, none] [] 161 (I, J, RF w)) (fun _ => rfl) ?_
      refine z_evO (fun h3 => ?_) (fun h3 => ?_)
      · refine z_evL ?_
        refine z_evG 2 (y := some (.inr (some (.int (-2)), 161, I, J, RF w))) (fun _ => rfl) ?_
        exact z_evR rfl
      · refine z_evL ?_
        refine z_evG 3 (y := z_ret (z_cl E (d + 7) 184 [.ref 127, .int y] (161, (I, J, RF w))) 36 [some (.ref 127), some (.int e), some (.int b), some (.int x), some (.int y), none, none, none, none] []) (fun _ => rfl) ?_
        refine z_evK (v := .int (z_bo (¬ y < 0 ∧ ¬ I 127 9 - 1 < y))) (z' := 161) (σ' := (I, J, RF w)) (m_isLight E (d + 5) I J w y) ?_
        refine z_evG 1 (y := if (z_bo (¬ y < 0 ∧ ¬ I 127 9 - 1 < y)) = 0 then z_go 39 [some (.ref 127), some (.int e), some (.int b), some (.int x), some (.int y), none, none, none, none] [] 161 (I, J, RF w) else z_go 42 [some (.ref 127), some (.int e), some (.int b), some (.int x), some (.int y), none, none, none, none] [] 161 (I, J, RF w)) (fun _ => rfl) ?_
        refine z_evO (fun h4 => ?_) (fun h4 => ?_)
        · refine z_evL ?_
          refine z_evG 2 (y := some (.inr (some (.int (-2)), 161, I, J, RF w))) (fun _ => rfl) ?_
          exact z_evR rfl
        · refine z_evL ?_
          exact absurd ⟨h1, h2, h3, h4⟩ hbad
set_option maxRecDepth 20000 in
theorem x_wo_st (E : zE) (d : Nat) (I : Nat → Nat → Int32) (J : Nat → Nat → Int64) (w : Nat) {r : zR} (e b x y : Int32) (h90 : ¬ e < 0 ∧ e < I 65 3) (h91 : ¬ b = 0 ∧ (b &&& ((-1) <<< (I 37 7 &&& 31))) = 0) (h92 : ¬ x < 0 ∧ x < I 43 1) (h93 : ¬ y < 0 ∧ y < I 43 1) (hz : z_Ev E (d + 5) z_m147 57 [some (.ref 0), some (.int e), some (.int b), some (.int x), some (.int y), some (.int (-1)), some (.int 0), some (.int 0), none] [] 161 (I, J, RF w) r) : z_Ev E (d + 5) z_m147 0 [some (.ref 0), some (.int e), some (.int b), some (.int x), some (.int y), none, none, none, none] [] 161 (I, J, RF w) r := by
  refine z_evG 4 (y := z_ret (z_cl E (d + 5) 15 [.ref 65, .int e] (161, (I, J, RF w))) 8 [some (.ref 0), some (.int e), some (.int b), some (.int x), some (.int y), none, none, none, none] []) (fun _ => rfl) ?_
  refine z_evK (v := .int (z_bo (¬ e < 0 ∧ e < I 65 3))) (z' := 161) (σ' := (I, J, RF w)) (x_eyes_has E (d + 4) I J w e) ?_
  refine z_evG 1 (y := if (z_bo (¬ e < 0 ∧ e < I 65 3)) = 0 then z_go 45 [some (.ref 0), some (.int e), some (.int b), some (.int x), some (.int y), none, none, none, none] [] 161 (I, J, RF w) else z_go 11 [some (.ref 0), some (.int e), some (.int b), some (.int x), some (.int y), none, none, none, none] [] 161 (I, J, RF w)) (fun _ => rfl) ?_
  refine z_evF (fun q0 => z_bo_0.mp q0 h90) ?_
  refine z_evL ?_
  refine z_evG 4 (y := z_ret (z_cl E (d + 5) 110 [.ref 37, .int b] (161, (I, J, RF w))) 19 [some (.ref 0), some (.int e), some (.int b), some (.int x), some (.int y), none, none, none, none] []) (fun _ => rfl) ?_
  refine z_evK (v := .int (z_bo (¬ b = 0 ∧ (b &&& ((-1) <<< (I 37 7 &&& 31))) = 0))) (z' := 161) (σ' := (I, J, RF w)) (x_things_hasSome E (d + 2) I J w b) ?_
  refine z_evG 1 (y := if (z_bo (¬ b = 0 ∧ (b &&& ((-1) <<< (I 37 7 &&& 31))) = 0)) = 0 then z_go 45 [some (.ref 0), some (.int e), some (.int b), some (.int x), some (.int y), none, none, none, none] [] 161 (I, J, RF w) else z_go 22 [some (.ref 0), some (.int e), some (.int b), some (.int x), some (.int y), none, none, none, none] [] 161 (I, J, RF w)) (fun _ => rfl) ?_
  refine z_evF (fun q0 => z_bo_0.mp q0 h91) ?_
  refine z_evL ?_
  refine z_evG 4 (y := z_ret (z_cl E (d + 5) 8 [.ref 43, .int x] (161, (I, J, RF w))) 30 [some (.ref 0), some (.int e), some (.int b), some (.int x), some (.int y), none, none, none, none] []) (fun _ => rfl) ?_
  refine z_evK (v := .int (z_bo (¬ x < 0 ∧ x < I 43 1))) (z' := 161) (σ' := (I, J, RF w)) (x_lights_has E (d + 4) I J w x) ?_
  refine z_evG 1 (y := if (z_bo (¬ x < 0 ∧ x < I 43 1)) = 0 then z_go 45 [some (.ref 0), some (.int e), some (.int b), some (.int x), some (.int y), none, none, none, none] [] 161 (I, J, RF w) else z_go 33 [some (.ref 0), some (.int e), some (.int b), some (.int x), some (.int y), none, none, none, none] [] 161 (I, J, RF w)) (fun _ => rfl) ?_
  refine z_evF (fun q0 => z_bo_0.mp q0 h92) ?_
  refine z_evL ?_
  refine z_evG 4 (y := z_ret (z_cl E (d + 5) 8 [.ref 43, .int y] (161, (I, J, RF w))) 42 [some (.ref 0), some (.int e), some (.int b), some (.int x), some (.int y), none, none, none, none] []) (fun _ => rfl) ?_
  refine z_evK (v := .int (z_bo (¬ y < 0 ∧ y < I 43 1))) (z' := 161) (σ' := (I, J, RF w)) (x_lights_has E (d + 4) I J w y) ?_
  refine z_evG 1 (y := if (z_bo (¬ y < 0 ∧ y < I 43 1)) = 0 then z_go 45 [some (.ref 0), some (.int e), some (.int b), some (.int x), some (.int y), none, none, none, none] [] 161 (I, J, RF w) else z_go 48 [some (.ref 0), some (.int e), some (.int b), some (.int x), some (.int y), none, none, none, none] [] 161 (I, J, RF w)) (fun _ => rfl) ?_
  refine z_evF (fun q0 => z_bo_0.mp q0 h93) ?_
  refine z_evL ?_
  refine z_evG 6 (y := z_go 57 [some (.ref 0), some (.int e), some (.int b), some (.int x), some (.int y), some (.int (-1)), some (.int 0), some (.int 0), none] [] 161 (I, J, RF w)) (fun _ => rfl) ?_
  refine z_evL ?_
  exact hz
set_option maxRecDepth 20000 in
theorem m_wo_st (E : zE) (d : Nat) (I : Nat → Nat → Int32) (J : Nat → Nat → Int64) (w : Nat) {r : zR} (e b x y : Int32) (h90 : ¬ e < 0 ∧ ¬ I 127 11 - 1 < e) (h91 : ¬ b < 0 ∧ b < 1 <<< (I 127 3 &&& 31) ∧ ¬ s_pi b 31 < 1 ∧ ¬ 20 < s_pi b 31) (h92 : ¬ x < 0 ∧ ¬ I 127 9 - 1 < x) (h93 : ¬ y < 0 ∧ ¬ I 127 9 - 1 < y) (hz : z_Ev E (d + 7) z_m224 51 [some (.ref 127), some (.int e), some (.int b), some (.int x), some (.int y), some (.int (-1)), some (.int 0), some (.int 0), none] [] 161 (I, J, RF w) r) : z_Ev E (d + 7) z_m224 0 [some (.ref 127), some (.int e), some (.int b), some (.int x), some (.int y), none, none, none, none] [] 161 (I, J, RF w) r := by
  refine z_evG 3 (y := z_ret (z_cl E (d + 7) 185 [.ref 127, .int e] (161, (I, J, RF w))) 5 [some (.ref 127), some (.int e), some (.int b), some (.int x), some (.int y), none, none, none, none] []) (fun _ => rfl) ?_
  refine z_evK (v := .int (z_bo (¬ e < 0 ∧ ¬ I 127 11 - 1 < e))) (z' := 161) (σ' := (I, J, RF w)) (m_isEye E (d + 5) I J w e) ?_
  refine z_evG 1 (y := if (z_bo (¬ e < 0 ∧ ¬ I 127 11 - 1 < e)) = 0 then z_go 39 [some (.ref 127), some (.int e), some (.int b), some (.int x), some (.int y), none, none, none, none] [] 161 (I, J, RF w) else z_go 8 [some (.ref 127), some (.int e), some (.int b), some (.int x), some (.int y), none, none, none, none] [] 161 (I, J, RF w)) (fun _ => rfl) ?_
  refine z_evF (fun q0 => z_bo_0.mp q0 h90) ?_
  refine z_evL ?_
  refine z_evG 6 (y := z_ret (z_cl E (d + 7) 223 [.int b, .int (I 127 3), .int 1, .int 20] (161, (I, J, RF w))) 19 [some (.ref 127), some (.int e), some (.int b), some (.int x), some (.int y), none, none, none, none] []) (fun _ => rfl) ?_
  refine z_evK (v := .int (z_bo (¬ b < 0 ∧ b < 1 <<< ((I 127 3) &&& 31) ∧ ¬ s_pi b 31 < 1 ∧ ¬ 20 < s_pi b 31))) (z' := 161) (σ' := (I, J, RF w)) (m_isSet E (d + 5) I J w b (I 127 3) 1 20) ?_
  refine z_evG 1 (y := if (z_bo (¬ b < 0 ∧ b < 1 <<< ((I 127 3) &&& 31) ∧ ¬ s_pi b 31 < 1 ∧ ¬ 20 < s_pi b 31)) = 0 then z_go 39 [some (.ref 127), some (.int e), some (.int b), some (.int x), some (.int y), none, none, none, none] [] 161 (I, J, RF w) else z_go 22 [some (.ref 127), some (.int e), some (.int b), some (.int x), some (.int y), none, none, none, none] [] 161 (I, J, RF w)) (fun _ => rfl) ?_
  refine z_evF (fun q0 => z_bo_0.mp q0 h91) ?_
  refine z_evL ?_
  refine z_evG 3 (y := z_ret (z_cl E (d + 7) 184 [.ref 127, .int x] (161, (I, J, RF w))) 27 [some (.ref 127), some (.int e), some (.int b), some (.int x), some (.int y), none, none, none, none] []) (fun _ => rfl) ?_
  refine z_evK (v := .int (z_bo (¬ x < 0 ∧ ¬ I 127 9 - 1 < x))) (z' := 161) (σ' := (I, J, RF w)) (m_isLight E (d + 5) I J w x) ?_
  refine z_evG 1 (y := if (z_bo (¬ x < 0 ∧ ¬ I 127 9 - 1 < x)) = 0 then z_go 39 [some (.ref 127), some (.int e), some (.int b), some (.int x), some (.int y), none, none, none, none] [] 161 (I, J, RF w) else z_go 30 [some (.ref 127), some (.int e), some (.int b), some (.int x), some (.int y), none, none, none, none] [] 161 (I, J, RF w)) (fun _ => rfl) ?_
  refine z_evF (fun q0 => z_bo_0.mp q0 h92) ?_
  refine z_evL ?_
  refine z_evG 3 (y := z_ret (z_cl E (d + 7) 184 [.ref 127, .int y] (161, (I, J, RF w))) 36 [some (.ref 127), some (.int e), some (.int b), some (.int x), some (.int y), none, none, none, none] []) (fun _ => rfl) ?_
  refine z_evK (v := .int (z_bo (¬ y < 0 ∧ ¬ I 127 9 - 1 < y))) (z' := 161) (σ' := (I, J, RF w)) (m_isLight E (d + 5) I J w y) ?_
  refine z_evG 1 (y := if (z_bo (¬ y < 0 ∧ ¬ I 127 9 - 1 < y)) = 0 then z_go 39 [some (.ref 127), some (.int e), some (.int b), some (.int x), some (.int y), none, none, none, none] [] 161 (I, J, RF w) else z_go 42 [some (.ref 127), some (.int e), some (.int b), some (.int x), some (.int y), none, none, none, none] [] 161 (I, J, RF w)) (fun _ => rfl) ?_
  refine z_evF (fun q0 => z_bo_0.mp q0 h93) ?_
  refine z_evL ?_
  refine z_evG 6 (y := z_go 51 [some (.ref 127), some (.int e), some (.int b), some (.int x), some (.int y), some (.int (-1)), some (.int 0), some (.int 0), none] [] 161 (I, J, RF w)) (fun _ => rfl) ?_
  refine z_evL ?_
  exact hz
