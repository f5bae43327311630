-- COUNT
set_option maxRecDepth 20000 in
/-- LampHouse.count -/
theorem x_count_0 (E : zE) (d : Nat) (I : Nat → Nat → Int32) (J : Nat → Nat → Int64) (w : Nat) : z_cl E (d + 2) 160 [.ref 0, .int 0] (161, I, J, RF w) = some (some (.int (I 0 13)), 161, I, J, RF w) := by
  refine z_call (d := d + 1) (M := z_m160) rfl rfl ?_
  refine z_evG 5 (y := some (.inr (some (.int (I 0 13)), 161, I, J, RF w))) (fun _ => rfl) ?_
  exact z_evR rfl
set_option maxRecDepth 20000 in
/-- LampHouseModel.count -/
theorem m_count_0 (E : zE) (d : Nat) (I : Nat → Nat → Int32) (J : Nat → Nat → Int64) (w : Nat) : z_cl E (d + 1) 246 [.ref 127, .int 0] (161, I, J, RF w) = some (some (.int (I 127 0)), 161, I, J, RF w) := by
  refine z_call (d := d + 0) (M := z_m246) rfl rfl ?_
  refine z_evG 5 (y := some (.inr (some (.int (I 127 0)), 161, I, J, RF w))) (fun _ => rfl) ?_
  exact z_evR rfl
set_option maxRecDepth 20000 in
/-- LampHouse.count -/
theorem x_count_1 (E : zE) (d : Nat) (I : Nat → Nat → Int32) (J : Nat → Nat → Int64) (w : Nat) : z_cl E (d + 2) 160 [.ref 0, .int 1] (161, I, J, RF w) = some (some (.int (I 1 1)), 161, I, J, RF w) := by
  refine z_call (d := d + 1) (M := z_m160) rfl rfl ?_
  refine z_evG 5 (y := z_ret (z_cl E (d + 1) 7 [.ref 1] (161, (I, J, RF w))) 72 [some (.ref 0), some (.int 1)] []) (fun _ => rfl) ?_
  refine z_evK (v := .int (I 1 1)) (z' := 161) (σ' := (I, J, RF w)) (x_rows_size E d I J w) ?_
  refine z_evG 1 (y := some (.inr (some (.int (I 1 1)), 161, I, J, RF w))) (fun _ => rfl) ?_
  exact z_evR rfl
set_option maxRecDepth 20000 in
/-- LampHouseModel.count -/
theorem m_count_1 (E : zE) (d : Nat) (I : Nat → Nat → Int32) (J : Nat → Nat → Int64) (w : Nat) : z_cl E (d + 1) 246 [.ref 127, .int 1] (161, I, J, RF w) = some (some (.int (I 127 1)), 161, I, J, RF w) := by
  refine z_call (d := d + 0) (M := z_m246) rfl rfl ?_
  refine z_evG 5 (y := some (.inr (some (.int (I 127 1)), 161, I, J, RF w))) (fun _ => rfl) ?_
  exact z_evR rfl
set_option maxRecDepth 20000 in
/-- LampHouse.count -/
theorem x_count_2 (E : zE) (d : Nat) (I : Nat → Nat → Int32) (J : Nat → Nat → Int64) (w : Nat) : z_cl E (d + 2) 160 [.ref 0, .int 2] (161, I, J, RF w) = some (some (.int (I 37 7)), 161, I, J, RF w) := by
  refine z_call (d := d + 1) (M := z_m160) rfl rfl ?_
  refine z_evG 5 (y := z_ret (z_cl E (d + 1) 107 [.ref 37] (161, (I, J, RF w))) 80 [some (.ref 0), some (.int 2)] []) (fun _ => rfl) ?_
  refine z_evK (v := .int (I 37 7)) (z' := 161) (σ' := (I, J, RF w)) (x_things_size E d I J w) ?_
  refine z_evG 1 (y := some (.inr (some (.int (I 37 7)), 161, I, J, RF w))) (fun _ => rfl) ?_
  exact z_evR rfl
set_option maxRecDepth 20000 in
/-- LampHouseModel.count -/
theorem m_count_2 (E : zE) (d : Nat) (I : Nat → Nat → Int32) (J : Nat → Nat → Int64) (w : Nat) : z_cl E (d + 1) 246 [.ref 127, .int 2] (161, I, J, RF w) = some (some (.int (I 127 3)), 161, I, J, RF w) := by
  refine z_call (d := d + 0) (M := z_m246) rfl rfl ?_
  refine z_evG 5 (y := some (.inr (some (.int (I 127 3)), 161, I, J, RF w))) (fun _ => rfl) ?_
  exact z_evR rfl
set_option maxRecDepth 20000 in
/-- LampHouse.count -/
theorem x_count_3 (E : zE) (d : Nat) (I : Nat → Nat → Int32) (J : Nat → Nat → Int64) (w : Nat) : z_cl E (d + 2) 160 [.ref 0, .int 3] (161, I, J, RF w) = some (some (.int (I 43 1)), 161, I, J, RF w) := by
  refine z_call (d := d + 1) (M := z_m160) rfl rfl ?_
  refine z_evG 5 (y := z_ret (z_cl E (d + 1) 7 [.ref 43] (161, (I, J, RF w))) 88 [some (.ref 0), some (.int 3)] []) (fun _ => rfl) ?_
  refine z_evK (v := .int (I 43 1)) (z' := 161) (σ' := (I, J, RF w)) (x_lights_size E d I J w) ?_
  refine z_evG 1 (y := some (.inr (some (.int (I 43 1)), 161, I, J, RF w))) (fun _ => rfl) ?_
  exact z_evR rfl
set_option maxRecDepth 20000 in
/-- LampHouseModel.count -/
theorem m_count_3 (E : zE) (d : Nat) (I : Nat → Nat → Int32) (J : Nat → Nat → Int64) (w : Nat) : z_cl E (d + 1) 246 [.ref 127, .int 3] (161, I, J, RF w) = some (some (.int (I 127 9)), 161, I, J, RF w) := by
  refine z_call (d := d + 0) (M := z_m246) rfl rfl ?_
  refine z_evG 5 (y := some (.inr (some (.int (I 127 9)), 161, I, J, RF w))) (fun _ => rfl) ?_
  exact z_evR rfl
set_option maxRecDepth 20000 in
/-- LampHouse.count -/
theorem x_count_4 (E : zE) (d : Nat) (I : Nat → Nat → Int32) (J : Nat → Nat → Int64) (w : Nat) : z_cl E (d + 2) 160 [.ref 0, .int 4] (161, I, J, RF w) = some (some (.int (I 65 3)), 161, I, J, RF w) := by
  refine z_call (d := d + 1) (M := z_m160) rfl rfl ?_
  refine z_evG 5 (y := z_ret (z_cl E (d + 1) 14 [.ref 65] (161, (I, J, RF w))) 96 [some (.ref 0), some (.int 4)] []) (fun _ => rfl) ?_
  refine z_evK (v := .int (I 65 3)) (z' := 161) (σ' := (I, J, RF w)) (x_eyes_size E d I J w) ?_
  refine z_evG 1 (y := some (.inr (some (.int (I 65 3)), 161, I, J, RF w))) (fun _ => rfl) ?_
  exact z_evR rfl
set_option maxRecDepth 20000 in
/-- LampHouseModel.count -/
theorem m_count_4 (E : zE) (d : Nat) (I : Nat → Nat → Int32) (J : Nat → Nat → Int64) (w : Nat) : z_cl E (d + 1) 246 [.ref 127, .int 4] (161, I, J, RF w) = some (some (.int (I 127 11)), 161, I, J, RF w) := by
  refine z_call (d := d + 0) (M := z_m246) rfl rfl ?_
  refine z_evG 5 (y := some (.inr (some (.int (I 127 11)), 161, I, J, RF w))) (fun _ => rfl) ?_
  exact z_evR rfl
set_option maxRecDepth 20000 in
/-- LampHouse.count -/
theorem x_count_5 (E : zE) (d : Nat) (I : Nat → Nat → Int32) (J : Nat → Nat → Int64) (w : Nat) : z_cl E (d + 2) 160 [.ref 0, .int 5] (161, I, J, RF w) = some (some (.int (I 79 6)), 161, I, J, RF w) := by
  refine z_call (d := d + 1) (M := z_m160) rfl rfl ?_
  refine z_evG 5 (y := z_ret (z_cl E (d + 1) 81 [.ref 79] (161, (I, J, RF w))) 104 [some (.ref 0), some (.int 5)] []) (fun _ => rfl) ?_
  refine z_evK (v := .int (I 79 6)) (z' := 161) (σ' := (I, J, RF w)) (x_rules_size E d I J w) ?_
  refine z_evG 1 (y := some (.inr (some (.int (I 79 6)), 161, I, J, RF w))) (fun _ => rfl) ?_
  exact z_evR rfl
set_option maxRecDepth 20000 in
/-- LampHouseModel.count -/
theorem m_count_5 (E : zE) (d : Nat) (I : Nat → Nat → Int32) (J : Nat → Nat → Int64) (w : Nat) : z_cl E (d + 1) 246 [.ref 127, .int 5] (161, I, J, RF w) = some (some (.int (I 127 16)), 161, I, J, RF w) := by
  refine z_call (d := d + 0) (M := z_m246) rfl rfl ?_
  refine z_evG 5 (y := some (.inr (some (.int (I 127 16)), 161, I, J, RF w))) (fun _ => rfl) ?_
  exact z_evR rfl
set_option maxRecDepth 20000 in
/-- LampHouse.count -/
theorem x_count_6 (E : zE) (d : Nat) (I : Nat → Nat → Int32) (J : Nat → Nat → Int64) (w : Nat) : z_cl E (d + 2) 160 [.ref 0, .int 6] (161, I, J, RF w) = some (some (.int (I 76 1)), 161, I, J, RF w) := by
  refine z_call (d := d + 1) (M := z_m160) rfl rfl ?_
  refine z_evG 5 (y := z_ret (z_cl E (d + 1) 56 [.ref 76] (161, (I, J, RF w))) 112 [some (.ref 0), some (.int 6)] []) (fun _ => rfl) ?_
  refine z_evK (v := .int (I 76 1)) (z' := 161) (σ' := (I, J, RF w)) (x_reader_size E d I J w) ?_
  refine z_evG 1 (y := some (.inr (some (.int (I 76 1)), 161, I, J, RF w))) (fun _ => rfl) ?_
  exact z_evR rfl
set_option maxRecDepth 20000 in
/-- LampHouseModel.count -/
theorem m_count_6 (E : zE) (d : Nat) (I : Nat → Nat → Int32) (J : Nat → Nat → Int64) (w : Nat) : z_cl E (d + 1) 246 [.ref 127, .int 6] (161, I, J, RF w) = some (some (.int (I 127 15)), 161, I, J, RF w) := by
  refine z_call (d := d + 0) (M := z_m246) rfl rfl ?_
  refine z_evG 5 (y := some (.inr (some (.int (I 127 15)), 161, I, J, RF w))) (fun _ => rfl) ?_
  exact z_evR rfl
set_option maxRecDepth 20000 in
/-- LampHouse.count -/
theorem x_count_7 (E : zE) (d : Nat) (I : Nat → Nat → Int32) (J : Nat → Nat → Int64) (w : Nat) : z_cl E (d + 2) 160 [.ref 0, .int 7] (161, I, J, RF w) = some (some (.int (I 79 7)), 161, I, J, RF w) := by
  refine z_call (d := d + 1) (M := z_m160) rfl rfl ?_
  refine z_evG 5 (y := z_ret (z_cl E (d + 1) 84 [.ref 79] (161, (I, J, RF w))) 120 [some (.ref 0), some (.int 7)] []) (fun _ => rfl) ?_
  refine z_evK (v := .int (I 79 7)) (z' := 161) (σ' := (I, J, RF w)) (x_rules_chosen E d I J w) ?_
  refine z_evG 1 (y := some (.inr (some (.int (I 79 7)), 161, I, J, RF w))) (fun _ => rfl) ?_
  exact z_evR rfl
set_option maxRecDepth 20000 in
/-- LampHouseModel.count -/
theorem m_count_7 (E : zE) (d : Nat) (I : Nat → Nat → Int32) (J : Nat → Nat → Int64) (w : Nat) : z_cl E (d + 1) 246 [.ref 127, .int 7] (161, I, J, RF w) = some (some (.int (I 127 20)), 161, I, J, RF w) := by
  refine z_call (d := d + 0) (M := z_m246) rfl rfl ?_
  refine z_evG 5 (y := some (.inr (some (.int (I 127 20)), 161, I, J, RF w))) (fun _ => rfl) ?_
  exact z_evR rfl
set_option maxRecDepth 20000 in
/-- LampHouse.count -/
theorem x_count_8 (E : zE) (d : Nat) (I : Nat → Nat → Int32) (J : Nat → Nat → Int64) (w : Nat) : z_cl E (d + 2) 160 [.ref 0, .int 8] (161, I, J, RF w) = some (some (.int (I 106 6)), 161, I, J, RF w) := by
  refine z_call (d := d + 1) (M := z_m160) rfl rfl ?_
  refine z_evG 5 (y := z_ret (z_cl E (d + 1) 47 [.ref 106] (161, (I, J, RF w))) 128 [some (.ref 0), some (.int 8)] []) (fun _ => rfl) ?_
  refine z_evK (v := .int (I 106 6)) (z' := 161) (σ' := (I, J, RF w)) (x_plates_size E d I J w) ?_
  refine z_evG 1 (y := some (.inr (some (.int (I 106 6)), 161, I, J, RF w))) (fun _ => rfl) ?_
  exact z_evR rfl
set_option maxRecDepth 20000 in
/-- LampHouseModel.count -/
theorem m_count_8 (E : zE) (d : Nat) (I : Nat → Nat → Int32) (J : Nat → Nat → Int64) (w : Nat) : z_cl E (d + 1) 246 [.ref 127, .int 8] (161, I, J, RF w) = some (some (.int (I 127 43)), 161, I, J, RF w) := by
  refine z_call (d := d + 0) (M := z_m246) rfl rfl ?_
  refine z_evG 5 (y := some (.inr (some (.int (I 127 43)), 161, I, J, RF w))) (fun _ => rfl) ?_
  exact z_evR rfl
set_option maxRecDepth 20000 in
/-- LampHouse.count -/
theorem x_count_9 (E : zE) (d : Nat) (I : Nat → Nat → Int32) (J : Nat → Nat → Int64) (w : Nat) : z_cl E (d + 2) 160 [.ref 0, .int 9] (161, I, J, RF w) = some (some (.int (I 33 3)), 161, I, J, RF w) := by
  refine z_call (d := d + 1) (M := z_m160) rfl rfl ?_
  refine z_evG 5 (y := z_ret (z_cl E (d + 1) 1 [.ref 33] (161, (I, J, RF w))) 136 [some (.ref 0), some (.int 9)] []) (fun _ => rfl) ?_
  refine z_evK (v := .int (I 33 3)) (z' := 161) (σ' := (I, J, RF w)) (x_ages_size E d I J w) ?_
  refine z_evG 1 (y := some (.inr (some (.int (I 33 3)), 161, I, J, RF w))) (fun _ => rfl) ?_
  exact z_evR rfl
set_option maxRecDepth 20000 in
/-- LampHouseModel.count -/
theorem m_count_9 (E : zE) (d : Nat) (I : Nat → Nat → Int32) (J : Nat → Nat → Int64) (w : Nat) : z_cl E (d + 1) 246 [.ref 127, .int 9] (161, I, J, RF w) = some (some (.int (I 127 47)), 161, I, J, RF w) := by
  refine z_call (d := d + 0) (M := z_m246) rfl rfl ?_
  refine z_evG 5 (y := some (.inr (some (.int (I 127 47)), 161, I, J, RF w))) (fun _ => rfl) ?_
  exact z_evR rfl
set_option maxRecDepth 20000 in
/-- LampHouse.count -/
theorem x_count_10 (E : zE) (d : Nat) (I : Nat → Nat → Int32) (J : Nat → Nat → Int64) (w : Nat) : z_cl E (d + 2) 160 [.ref 0, .int 10] (161, I, J, RF w) = some (some (.int (I 110 2)), 161, I, J, RF w) := by
  refine z_call (d := d + 1) (M := z_m160) rfl rfl ?_
  refine z_evG 5 (y := z_ret (z_cl E (d + 1) 25 [.ref 110] (161, (I, J, RF w))) 144 [some (.ref 0), some (.int 10)] []) (fun _ => rfl) ?_
  refine z_evK (v := .int (I 110 2)) (z' := 161) (σ' := (I, J, RF w)) (x_filters_size E d I J w) ?_
  refine z_evG 1 (y := some (.inr (some (.int (I 110 2)), 161, I, J, RF w))) (fun _ => rfl) ?_
  exact z_evR rfl
set_option maxRecDepth 20000 in
/-- LampHouseModel.count -/
theorem m_count_10 (E : zE) (d : Nat) (I : Nat → Nat → Int32) (J : Nat → Nat → Int64) (w : Nat) : z_cl E (d + 1) 246 [.ref 127, .int 10] (161, I, J, RF w) = some (some (.int (I 127 51)), 161, I, J, RF w) := by
  refine z_call (d := d + 0) (M := z_m246) rfl rfl ?_
  refine z_evG 5 (y := some (.inr (some (.int (I 127 51)), 161, I, J, RF w))) (fun _ => rfl) ?_
  exact z_evR rfl
set_option maxRecDepth 20000 in
/-- LampHouse.count -/
theorem x_count_bad (E : zE) (d : Nat) (I : Nat → Nat → Int32) (J : Nat → Nat → Int64) (w : Nat) (i : Int32) (hb : i.toInt < 0 ∨ 10 < i.toInt) : z_cl E (d + 2) 160 [.ref 0, .int i] (161, I, J, RF w) = some (some (.int (-2)), 161, I, J, RF w) := by
  refine z_call (d := d + 1) (M := z_m160) rfl rfl ?_
  refine z_evG 2 (y := if i.toInt < 0 ∨ 10 < i.toInt then z_go 145 [some (.ref 0), some (.int i)] [] 161 (I, J, RF w) else z_sw ([145, 60, 65, 73, 81, 89, 97, 105, 113, 121, 129, 137] : List Nat)[(i.toInt - 0).toNat + 1]? [some (.ref 0), some (.int i)] [] 161 (I, J, RF w)) (fun _ => rfl) ?_
  refine z_evT hb ?_
  refine z_evL ?_
  refine z_evG 2 (y := some (.inr (some (.int (-2)), 161, I, J, RF w))) (fun _ => rfl) ?_
  exact z_evR rfl
set_option maxRecDepth 20000 in
/-- LampHouseModel.count -/
theorem m_count_bad (E : zE) (d : Nat) (I : Nat → Nat → Int32) (J : Nat → Nat → Int64) (w : Nat) (i : Int32) (hb : i.toInt < 0 ∨ 10 < i.toInt) : z_cl E (d + 1) 246 [.ref 127, .int i] (161, I, J, RF w) = some (some (.int (-2)), 161, I, J, RF w) := by
  refine z_call (d := d + 0) (M := z_m246) rfl rfl ?_
  refine z_evG 2 (y := if i.toInt < 0 ∨ 10 < i.toInt then z_go 115 [some (.ref 127), some (.int i)] [] 161 (I, J, RF w) else z_sw ([115, 60, 65, 70, 75, 80, 85, 90, 95, 100, 105, 110] : List Nat)[(i.toInt - 0).toNat + 1]? [some (.ref 127), some (.int i)] [] 161 (I, J, RF w)) (fun _ => rfl) ?_
  refine z_evT hb ?_
  refine z_evL ?_
  refine z_evG 2 (y := some (.inr (some (.int (-2)), 161, I, J, RF w))) (fun _ => rfl) ?_
  exact z_evR rfl
