-- LEAVES: the class's small methods
set_option maxRecDepth 20000 in
/-- LampHouse$Eights.size -/
theorem x_rows_size (E : zE) (d : Nat) (I : Nat → Nat → Int32) (J : Nat → Nat → Int64) (w : Nat) : z_cl E (d + 1) 7 [.ref 1] (161, I, J, RF w) = some (some (.int (I 1 1)), 161, I, J, RF w) := by
  refine z_call (d := d + 0) (M := z_m7) rfl rfl ?_
  refine z_evG 3 (y := some (.inr (some (.int (I 1 1)), 161, I, J, RF w))) (fun _ => rfl) ?_
  exact z_evR rfl
set_option maxRecDepth 20000 in
/-- LampHouse$Eights.has -/
theorem x_rows_has (E : zE) (d : Nat) (I : Nat → Nat → Int32) (J : Nat → Nat → Int64) (w : Nat) (i : Int32) : z_cl E (d + 1) 8 [.ref 1, .int i] (161, I, J, RF w) = some (some (.int (z_bo (¬ i < 0 ∧ i < I 1 1))), 161, I, J, RF w) := by
  refine z_call (d := d + 0) (M := z_m8) rfl rfl ?_
  refine z_evG 2 (y := if i < 0 then z_go 16 [some (.ref 1), some (.int i)] [] 161 (I, J, RF w) else z_go 4 [some (.ref 1), some (.int i)] [] 161 (I, J, RF w)) (fun _ => rfl) ?_
  refine z_evI (fun h1 => ?_) (fun h1 => ?_)
  · refine z_evL ?_
    refine z_evG 2 (y := some (.inr (some (.int 0), 161, I, J, RF w))) (fun _ => rfl) ?_
    exact z_evR (by simp [z_bo, h1])
  · refine z_evL ?_
    refine z_evG 4 (y := if i < (I 1 1) then z_go 12 [some (.ref 1), some (.int i)] [] 161 (I, J, RF w) else z_go 16 [some (.ref 1), some (.int i)] [] 161 (I, J, RF w)) (fun _ => rfl) ?_
    refine z_evI (fun h2 => ?_) (fun h2 => ?_)
    · refine z_evL ?_
      refine z_evG 3 (y := some (.inr (some (.int 1), 161, I, J, RF w))) (fun _ => rfl) ?_
      exact z_evR (by simp [z_bo, h1, h2])
    · refine z_evL ?_
      refine z_evG 2 (y := some (.inr (some (.int 0), 161, I, J, RF w))) (fun _ => rfl) ?_
      exact z_evR (by simp [z_bo, h1, h2])
set_option maxRecDepth 20000 in
/-- LampHouse$Eights.isFull -/
theorem x_rows_isFull (E : zE) (d : Nat) (I : Nat → Nat → Int32) (J : Nat → Nat → Int64) (w : Nat) : z_cl E (d + 1) 10 [.ref 1] (161, I, J, RF w) = some (some (.int (z_bo (¬ I 1 1 < 30))), 161, I, J, RF w) := by
  refine z_call (d := d + 0) (M := z_m10) rfl rfl ?_
  refine z_evG 6 (y := if (I 1 1) < 30 then z_go 16 [some (.ref 1)] [] 161 (I, J, RF w) else z_go 12 [some (.ref 1)] [] 161 (I, J, RF w)) (fun _ => rfl) ?_
  refine z_evI (fun h1 => ?_) (fun h1 => ?_)
  · refine z_evL ?_
    refine z_evG 2 (y := some (.inr (some (.int 0), 161, I, J, RF w))) (fun _ => rfl) ?_
    exact z_evR (by simp [z_bo, h1])
  · refine z_evL ?_
    refine z_evG 3 (y := some (.inr (some (.int 1), 161, I, J, RF w))) (fun _ => rfl) ?_
    exact z_evR (by simp [z_bo, h1])
set_option maxRecDepth 20000 in
/-- LampHouse$Eights.size -/
theorem x_lights_size (E : zE) (d : Nat) (I : Nat → Nat → Int32) (J : Nat → Nat → Int64) (w : Nat) : z_cl E (d + 1) 7 [.ref 43] (161, I, J, RF w) = some (some (.int (I 43 1)), 161, I, J, RF w) := by
  refine z_call (d := d + 0) (M := z_m7) rfl rfl ?_
  refine z_evG 3 (y := some (.inr (some (.int (I 43 1)), 161, I, J, RF w))) (fun _ => rfl) ?_
  exact z_evR rfl
set_option maxRecDepth 20000 in
/-- LampHouse$Eights.has -/
theorem x_lights_has (E : zE) (d : Nat) (I : Nat → Nat → Int32) (J : Nat → Nat → Int64) (w : Nat) (i : Int32) : z_cl E (d + 1) 8 [.ref 43, .int i] (161, I, J, RF w) = some (some (.int (z_bo (¬ i < 0 ∧ i < I 43 1))), 161, I, J, RF w) := by
  refine z_call (d := d + 0) (M := z_m8) rfl rfl ?_
  refine z_evG 2 (y := if i < 0 then z_go 16 [some (.ref 43), some (.int i)] [] 161 (I, J, RF w) else z_go 4 [some (.ref 43), some (.int i)] [] 161 (I, J, RF w)) (fun _ => rfl) ?_
  refine z_evI (fun h1 => ?_) (fun h1 => ?_)
  · refine z_evL ?_
    refine z_evG 2 (y := some (.inr (some (.int 0), 161, I, J, RF w))) (fun _ => rfl) ?_
    exact z_evR (by simp [z_bo, h1])
  · refine z_evL ?_
    refine z_evG 4 (y := if i < (I 43 1) then z_go 12 [some (.ref 43), some (.int i)] [] 161 (I, J, RF w) else z_go 16 [some (.ref 43), some (.int i)] [] 161 (I, J, RF w)) (fun _ => rfl) ?_
    refine z_evI (fun h2 => ?_) (fun h2 => ?_)
    · refine z_evL ?_
      refine z_evG 3 (y := some (.inr (some (.int 1), 161, I, J, RF w))) (fun _ => rfl) ?_
      exact z_evR (by simp [z_bo, h1, h2])
    · refine z_evL ?_
      refine z_evG 2 (y := some (.inr (some (.int 0), 161, I, J, RF w))) (fun _ => rfl) ?_
      exact z_evR (by simp [z_bo, h1, h2])
set_option maxRecDepth 20000 in
/-- LampHouse$Eights.isFull -/
theorem x_lights_isFull (E : zE) (d : Nat) (I : Nat → Nat → Int32) (J : Nat → Nat → Int64) (w : Nat) : z_cl E (d + 1) 10 [.ref 43] (161, I, J, RF w) = some (some (.int (z_bo (¬ I 43 1 < 20))), 161, I, J, RF w) := by
  refine z_call (d := d + 0) (M := z_m10) rfl rfl ?_
  refine z_evG 6 (y := if (I 43 1) < 20 then z_go 16 [some (.ref 43)] [] 161 (I, J, RF w) else z_go 12 [some (.ref 43)] [] 161 (I, J, RF w)) (fun _ => rfl) ?_
  refine z_evI (fun h1 => ?_) (fun h1 => ?_)
  · refine z_evL ?_
    refine z_evG 2 (y := some (.inr (some (.int 0), 161, I, J, RF w))) (fun _ => rfl) ?_
    exact z_evR (by simp [z_bo, h1])
  · refine z_evL ?_
    refine z_evG 3 (y := some (.inr (some (.int 1), 161, I, J, RF w))) (fun _ => rfl) ?_
    exact z_evR (by simp [z_bo, h1])
set_option maxRecDepth 20000 in
/-- LampHouse.pass -/
theorem x_pass (E : zE) (d : Nat) (I : Nat → Nat → Int32) (J : Nat → Nat → Int64) (w : Nat) (n : Int32) : z_cl E (d + 1) 128 [.ref 0, .int n] (161, I, J, RF w) = some (some (.int (if n < 1 then -2 else if 1000 < n then -2 else if 9999 < I 0 13 + n then -4 else I 0 13 + n)), 161, (if n < 1 then I else if 1000 < n then I else if 9999 < I 0 13 + n then I else z_u2 I 0 13 (I 0 13 + n)), J, RF w) := by
  refine z_call (d := d + 0) (M := z_m128) rfl rfl ?_
  refine z_evG 3 (y := if n < 1 then z_go 12 [some (.ref 0), some (.int n)] [] 161 (I, J, RF w) else z_go 5 [some (.ref 0), some (.int n)] [] 161 (I, J, RF w)) (fun _ => rfl) ?_
  refine z_evI (fun h1 => ?_) (fun h1 => ?_)
  · refine z_evL ?_
    refine z_evG 2 (y := some (.inr (some (.int (-2)), 161, I, J, RF w))) (fun _ => rfl) ?_
    exact z_evR (by simp [h1])
  · refine z_evL ?_
    refine z_evG 3 (y := if 1000 < n then z_go 12 [some (.ref 0), some (.int n)] [] 161 (I, J, RF w) else z_go 15 [some (.ref 0), some (.int n)] [] 161 (I, J, RF w)) (fun _ => rfl) ?_
    refine z_evI (fun h2 => ?_) (fun h2 => ?_)
    · refine z_evL ?_
      refine z_evG 2 (y := some (.inr (some (.int (-2)), 161, I, J, RF w))) (fun _ => rfl) ?_
      exact z_evR (by simp [h1, h2])
    · refine z_evL ?_
      refine z_evG 6 (y := if 9999 < ((I 0 13) + n) then z_go 27 [some (.ref 0), some (.int n)] [] 161 (I, J, RF w) else z_go 30 [some (.ref 0), some (.int n)] [] 161 (I, J, RF w)) (fun _ => rfl) ?_
      refine z_evI (fun h3 => ?_) (fun h3 => ?_)
      · refine z_evL ?_
        refine z_evG 2 (y := some (.inr (some (.int (-4)), 161, I, J, RF w))) (fun _ => rfl) ?_
        exact z_evR (by simp [h1, h2, h3])
      · refine z_evL ?_
        refine z_evG 9 (y := some (.inr (some (.int ((I 0 13) + n)), 161, (z_u2 I 0 13 ((I 0 13) + n)), J, RF w))) (fun _ => rfl) ?_
        exact z_evR (by simp [h1, h2, h3])
