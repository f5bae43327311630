-- LEAVES: the class's small methods
set_option maxRecDepth 20000 in
/-- LampHouse$Eights.size -/
theorem x_rows_size (E : zE) (d : Nat) (I : Nat → Nat → Int32) (J : Nat → Nat → Int64) (w : Nat) : z_cl E (d + 1) 7 [.ref 1] (161, I, J, RF w) = some (some (.int (I 1 1)), 161, I, J, RF w) := by
  refine z_call (d := d + 0) (M := z_m7) rfl rfl ?_
  refine z_evG 3 (y := some (.inr (some (.int (I 1 1)), 161, I, J, RF w))) (fun _ => rfl) ?_
  exact z_evR rfl
set_option maxRecDepth 20000 in
/-- LampHouse$Eights.has -/
theorem x_rows_has (E : zE) (d : Nat) (I : Nat → Nat → Int32) (J : Nat → Nat → Int64) (w : Nat) (i : Int32) : z_cl E (d + 1) 8 [.ref 1, .int i] (161, I, J, RF w) = some (some (.int (z_bo (¬ i < 0 ∧ i < I 1 1))), 161, I, J, RF w) := by
  refine z_call (d := d + 0) (M := z_m8) rfl rfl ?_
  refine z_evG 2 (y := if i < 0 then z_go 16 [some (.ref 1), some (.int i)] [] 161 (I, J, RF w) else z_go 4 [some (.ref 1), some (.int i)] [] 161 (I, J, RF w)) (fun _ => rfl) ?_
  refine z_evI (fun h1 => ?_) (fun h1 => ?_)
  · refine z_evL ?_
    refine z_evG 2 (y := some (.inr (some (.int 0), 161, I, J, RF w))) (fun _ => rfl) ?_
    exact z_evR (by simp [z_bo, h1])
  · refine z_evL ?_
    refine z_evG 4 (y := if i < (I 1 1) then z_go 12 [some (.ref 1), some (.int i)] [] 161 (I, J, RF w) else z_go 16 [some (.ref 1), some (.int i)] [] 161 (I, J, RF w)) (fun _ => rfl) ?_
    refine z_evI (fun h2 => ?_) (fun h2 => ?_)
    · refine z_evL ?_
      refine z_evG 3 (y := some (.inr (some (.int 1), 161, I, J, RF w))) (fun _ => rfl) ?_
      exact z_evR (by simp [z_bo, h1, h2])
    · refine z_evL ?_
      refine z_evG 2 (y := some (.inr (some (.int 0), 161, I, J, RF w))) (fun _ => rfl) ?_
      exact z_evR (by simp [z_bo, h1, h2])
set_option maxRecDepth 20000 in
/-- LampHouse$Eights.isFull -/
theorem x_rows_isFull (E : zE) (d : Nat) (I : Nat → Nat → Int32) (J : Nat → Nat → Int64) (w : Nat) : z_cl E (d + 1) 10 [.ref 1] (161, I, J, RF w) = some (some (.int (z_bo (¬ I 1 1 < 30))), 161, I, J, RF w) := by
  refine z_call (d := d + 0) (M := z_m10) rfl rfl ?_
  refine z_evG 6 (y := if (I 1 1) < 30 then z_go 16 [some (.ref 1)] [] 161 (I, J, RF w) else z_go 12 [some (.ref 1)] [] 161 (I, J, RF w)) (fun _ => rfl) ?_
  refine z_evI (fun h1 => ?_) (fun h1 => ?_)
  · refine z_evL ?_
    refine z_evG 2 (y := some (.inr (some (.int 0), 161, I, J, RF w))) (fun _ => rfl) ?_
    exact z_evR (by simp [z_bo, h1])
  · refine z_evL ?_
    refine z_evG 3 (y := some (.inr (some (.int 1), 161, I, J, RF w))) (fun _ => rfl) ?_
    exact z_evR (by simp [z_bo, h1])
set_option maxRecDepth 20000 in
/-- LampHouse$Eights.get -/
theorem x_rows_get (E : zE) (d : Nat) (I : Nat → Nat → Int32) (J : Nat → Nat → Int64) (w : Nat) (i : Int32) (hk : z_in i 30 = true) : z_cl E (d + 1) 11 [.ref 1, .int i] (161, I, J, RF w) = some (some (.ref (3 + i.toNatClampNeg)), 161, I, J, RF w) := by
  refine z_call (d := d + 0) (M := z_m11) rfl rfl ?_
  refine z_evG 4 (y := z_ck (z_in i 30) (z_go 6 [some (.ref 1), some (.int i)] [.ref (3 + (i).toNatClampNeg)] 161 (I, J, RF w))) (fun _ => rfl) ?_
  refine z_evC hk ?_
  refine z_evL ?_
  refine z_evG 1 (y := some (.inr (some (.ref (3 + (i).toNatClampNeg)), 161, I, J, RF w))) (fun _ => rfl) ?_
  exact z_evR rfl
set_option maxRecDepth 20000 in
/-- LampHouse$Eights.size -/
theorem x_lights_size (E : zE) (d : Nat) (I : Nat → Nat → Int32) (J : Nat → Nat → Int64) (w : Nat) : z_cl E (d + 1) 7 [.ref 43] (161, I, J, RF w) = some (some (.int (I 43 1)), 161, I, J, RF w) := by
  refine z_call (d := d + 0) (M := z_m7) rfl rfl ?_
  refine z_evG 3 (y := some (.inr (some (.int (I 43 1)), 161, I, J, RF w))) (fun _ => rfl) ?_
  exact z_evR rfl
set_option maxRecDepth 20000 in
/-- LampHouse$Eights.has -/
theorem x_lights_has (E : zE) (d : Nat) (I : Nat → Nat → Int32) (J : Nat → Nat → Int64) (w : Nat) (i : Int32) : z_cl E (d + 1) 8 [.ref 43, .int i] (161, I, J, RF w) = some (some (.int (z_bo (¬ i < 0 ∧ i < I 43 1))), 161, I, J, RF w) := by
  refine z_call (d := d + 0) (M := z_m8) rfl rfl ?_
  refine z_evG 2 (y := if i < 0 then z_go 16 [some (.ref 43), some (.int i)] [] 161 (I, J, RF w) else z_go 4 [some (.ref 43), some (.int i)] [] 161 (I, J, RF w)) (fun _ => rfl) ?_
  refine z_evI (fun h1 => ?_) (fun h1 => ?_)
  · refine z_evL ?_
    refine z_evG 2 (y := some (.inr (some (.int 0), 161, I, J, RF w))) (fun _ => rfl) ?_
    exact z_evR (by simp [z_bo, h1])
  · refine z_evL ?_
    refine z_evG 4 (y := if i < (I 43 1) then z_go 12 [some (.ref 43), some (.int i)] [] 161 (I, J, RF w) else z_go 16 [some (.ref 43), some (.int i)] [] 161 (I, J, RF w)) (fun _ => rfl) ?_
    refine z_evI (fun h2 => ?_) (fun h2 => ?_)
    · refine z_evL ?_
      refine z_evG 3 (y := some (.inr (some (.int 1), 161, I, J, RF w))) (fun _ => rfl) ?_
      exact z_evR (by simp [z_bo, h1, h2])
    · refine z_evL ?_
      refine z_evG 2 (y := some (.inr (some (.int 0), 161, I, J, RF w))) (fun _ => rfl) ?_
      exact z_evR (by simp [z_bo, h1, h2])
set_option maxRecDepth 20000 in
/-- LampHouse$Eights.isFull -/
theorem x_lights_isFull (E : zE) (d : Nat) (I : Nat → Nat → Int32) (J : Nat → Nat → Int64) (w : Nat) : z_cl E (d + 1) 10 [.ref 43] (161, I, J, RF w) = some (some (.int (z_bo (¬ I 43 1 < 20))), 161, I, J, RF w) := by
  refine z_call (d := d + 0) (M := z_m10) rfl rfl ?_
  refine z_evG 6 (y := if (I 43 1) < 20 then z_go 16 [some (.ref 43)] [] 161 (I, J, RF w) else z_go 12 [some (.ref 43)] [] 161 (I, J, RF w)) (fun _ => rfl) ?_
  refine z_evI (fun h1 => ?_) (fun h1 => ?_)
  · refine z_evL ?_
    refine z_evG 2 (y := some (.inr (some (.int 0), 161, I, J, RF w))) (fun _ => rfl) ?_
    exact z_evR (by simp [z_bo, h1])
  · refine z_evL ?_
    refine z_evG 3 (y := some (.inr (some (.int 1), 161, I, J, RF w))) (fun _ => rfl) ?_
    exact z_evR (by simp [z_bo, h1])
set_option maxRecDepth 20000 in
/-- LampHouse$Eights.get -/
theorem x_lights_get (E : zE) (d : Nat) (I : Nat → Nat → Int32) (J : Nat → Nat → Int64) (w : Nat) (i : Int32) (hk : z_in i 20 = true) : z_cl E (d + 1) 11 [.ref 43, .int i] (161, I, J, RF w) = some (some (.ref (45 + i.toNatClampNeg)), 161, I, J, RF w) := by
  refine z_call (d := d + 0) (M := z_m11) rfl rfl ?_
  refine z_evG 4 (y := z_ck (z_in i 20) (z_go 6 [some (.ref 43), some (.int i)] [.ref (45 + (i).toNatClampNeg)] 161 (I, J, RF w))) (fun _ => rfl) ?_
  refine z_evC hk ?_
  refine z_evL ?_
  refine z_evG 1 (y := some (.inr (some (.ref (45 + (i).toNatClampNeg)), 161, I, J, RF w))) (fun _ => rfl) ?_
  exact z_evR rfl
set_option maxRecDepth 20000 in
/-- LampHouse.areBelow -/
theorem x_areBelow (E : zE) (d : Nat) (I : Nat → Nat → Int32) (J : Nat → Nat → Int64) (w : Nat) (b n : Int32) : z_cl E (d + 1) 176 [.int b, .int n] (161, I, J, RF w) = some (some (.int (z_bo ((b &&& ((-1) <<< (n &&& 31))) = 0))), 161, I, J, RF w) := by
  refine z_call (d := d + 0) (M := z_m176) rfl rfl ?_
  refine z_evG 6 (y := if (b &&& ((-1) <<< (n &&& 31))) = 0 then z_go 8 [some (.int b), some (.int n)] [] 161 (I, J, RF w) else z_go 12 [some (.int b), some (.int n)] [] 161 (I, J, RF w)) (fun _ => rfl) ?_
  refine z_evI (fun h1 => ?_) (fun h1 => ?_)
  · refine z_evL ?_
    refine z_evG 3 (y := some (.inr (some (.int 1), 161, I, J, RF w))) (fun _ => rfl) ?_
    exact z_evR (by simp [z_bo, h1])
  · refine z_evL ?_
    refine z_evG 2 (y := some (.inr (some (.int 0), 161, I, J, RF w))) (fun _ => rfl) ?_
    exact z_evR (by simp [z_bo, h1])
set_option maxRecDepth 20000 in
/-- LampHouse.isTold -/
theorem x_isTold (E : zE) (d : Nat) (I : Nat → Nat → Int32) (J : Nat → Nat → Int64) (w : Nat) (b i : Int32) : z_cl E (d + 1) 175 [.int b, .int i] (161, I, J, RF w) = some (some (.int (z_bo (((b >>> (i &&& 31)) &&& 1) = 1))), 161, I, J, RF w) := by
  refine z_call (d := d + 0) (M := z_m175) rfl rfl ?_
  refine z_evG 7 (y := if ((b >>> (i &&& 31)) &&& 1) = 1 then z_go 9 [some (.int b), some (.int i)] [] 161 (I, J, RF w) else z_go 13 [some (.int b), some (.int i)] [] 161 (I, J, RF w)) (fun _ => rfl) ?_
  refine z_evI (fun h1 => ?_) (fun h1 => ?_)
  · refine z_evL ?_
    refine z_evG 3 (y := some (.inr (some (.int 1), 161, I, J, RF w))) (fun _ => rfl) ?_
    exact z_evR (by simp [z_bo, h1])
  · refine z_evL ?_
    refine z_evG 2 (y := some (.inr (some (.int 0), 161, I, J, RF w))) (fun _ => rfl) ?_
    exact z_evR (by simp [z_bo, h1])
set_option maxRecDepth 20000 in
/-- LampHouse.isColour -/
theorem x_isColour (E : zE) (d : Nat) (I : Nat → Nat → Int32) (J : Nat → Nat → Int64) (w : Nat) (i : Int32) : z_cl E (d + 1) 172 [.int i] (161, I, J, RF w) = some (some (.int (z_bo (¬ i < 0 ∧ i < 8))), 161, I, J, RF w) := by
  refine z_call (d := d + 0) (M := z_m172) rfl rfl ?_
  refine z_evG 2 (y := if i < 0 then z_go 14 [some (.int i)] [] 161 (I, J, RF w) else z_go 4 [some (.int i)] [] 161 (I, J, RF w)) (fun _ => rfl) ?_
  refine z_evI (fun h1 => ?_) (fun h1 => ?_)
  · refine z_evL ?_
    refine z_evG 2 (y := some (.inr (some (.int 0), 161, I, J, RF w))) (fun _ => rfl) ?_
    exact z_evR (by simp [z_bo, h1])
  · refine z_evL ?_
    refine z_evG 3 (y := if i < 8 then z_go 10 [some (.int i)] [] 161 (I, J, RF w) else z_go 14 [some (.int i)] [] 161 (I, J, RF w)) (fun _ => rfl) ?_
    refine z_evI (fun h2 => ?_) (fun h2 => ?_)
    · refine z_evL ?_
      refine z_evG 3 (y := some (.inr (some (.int 1), 161, I, J, RF w))) (fun _ => rfl) ?_
      exact z_evR (by simp [z_bo, h1, h2])
    · refine z_evL ?_
      refine z_evG 2 (y := some (.inr (some (.int 0), 161, I, J, RF w))) (fun _ => rfl) ?_
      exact z_evR (by simp [z_bo, h1, h2])
set_option maxRecDepth 20000 in
/-- LampHouse.isHour -/
theorem x_isHour (E : zE) (d : Nat) (I : Nat → Nat → Int32) (J : Nat → Nat → Int64) (w : Nat) (i : Int32) : z_cl E (d + 1) 173 [.int i] (161, I, J, RF w) = some (some (.int (z_bo (¬ i < 0 ∧ ¬ 9999 < i))), 161, I, J, RF w) := by
  refine z_call (d := d + 0) (M := z_m173) rfl rfl ?_
  refine z_evG 2 (y := if i < 0 then z_go 15 [some (.int i)] [] 161 (I, J, RF w) else z_go 4 [some (.int i)] [] 161 (I, J, RF w)) (fun _ => rfl) ?_
  refine z_evI (fun h1 => ?_) (fun h1 => ?_)
  · refine z_evL ?_
    refine z_evG 2 (y := some (.inr (some (.int 0), 161, I, J, RF w))) (fun _ => rfl) ?_
    exact z_evR (by simp [z_bo, h1])
  · refine z_evL ?_
    refine z_evG 3 (y := if 9999 < i then z_go 15 [some (.int i)] [] 161 (I, J, RF w) else z_go 11 [some (.int i)] [] 161 (I, J, RF w)) (fun _ => rfl) ?_
    refine z_evI (fun h2 => ?_) (fun h2 => ?_)
    · refine z_evL ?_
      refine z_evG 2 (y := some (.inr (some (.int 0), 161, I, J, RF w))) (fun _ => rfl) ?_
      exact z_evR (by simp [z_bo, h1, h2])
    · refine z_evL ?_
      refine z_evG 3 (y := some (.inr (some (.int 1), 161, I, J, RF w))) (fun _ => rfl) ?_
      exact z_evR (by simp [z_bo, h1, h2])
set_option maxRecDepth 20000 in
/-- LampHouse.isFilm -/
theorem x_isFilm (E : zE) (d : Nat) (I : Nat → Nat → Int32) (J : Nat → Nat → Int64) (w : Nat) (n s v : Int32) : z_cl E (d + 1) 174 [.int n, .int s, .int v] (161, I, J, RF w) = some (some (.int (z_bo (¬ n < 1 ∧ ¬ 16 < n ∧ ¬ s < 0 ∧ s < 16 ∧ ¬ v < 1 ∧ ¬ 16 < v))), 161, I, J, RF w) := by
  refine z_call (d := d + 0) (M := z_m174) rfl rfl ?_
  refine z_evG 3 (y := if n < 1 then z_go 36 [some (.int n), some (.int s), some (.int v)] [] 161 (I, J, RF w) else z_go 5 [some (.int n), some (.int s), some (.int v)] [] 161 (I, J, RF w)) (fun _ => rfl) ?_
  refine z_evI (fun h1 => ?_) (fun h1 => ?_)
  · refine z_evL ?_
    refine z_evG 2 (y := some (.inr (some (.int 0), 161, I, J, RF w))) (fun _ => rfl) ?_
    exact z_evR (by simp [z_bo, h1])
  · refine z_evL ?_
    refine z_evG 3 (y := if 16 < n then z_go 36 [some (.int n), some (.int s), some (.int v)] [] 161 (I, J, RF w) else z_go 11 [some (.int n), some (.int s), some (.int v)] [] 161 (I, J, RF w)) (fun _ => rfl) ?_
    refine z_evI (fun h2 => ?_) (fun h2 => ?_)
    · refine z_evL ?_
      refine z_evG 2 (y := some (.inr (some (.int 0), 161, I, J, RF w))) (fun _ => rfl) ?_
      exact z_evR (by simp [z_bo, h1, h2])
    · refine z_evL ?_
      refine z_evG 2 (y := if s < 0 then z_go 36 [some (.int n), some (.int s), some (.int v)] [] 161 (I, J, RF w) else z_go 15 [some (.int n), some (.int s), some (.int v)] [] 161 (I, J, RF w)) (fun _ => rfl) ?_
      refine z_evI (fun h3 => ?_) (fun h3 => ?_)
      · refine z_evL ?_
        refine z_evG 2 (y := some (.inr (some (.int 0), 161, I, J, RF w))) (fun _ => rfl) ?_
        exact z_evR (by simp [z_bo, h1, h2, h3])
      · refine z_evL ?_
        refine z_evG 3 (y := if s < 16 then z_go 21 [some (.int n), some (.int s), some (.int v)] [] 161 (I, J, RF w) else z_go 36 [some (.int n), some (.int s), some (.int v)] [] 161 (I, J, RF w)) (fun _ => rfl) ?_
        refine z_evI (fun h4 => ?_) (fun h4 => ?_)
        · refine z_evL ?_
          refine z_evG 3 (y := if v < 1 then z_go 36 [some (.int n), some (.int s), some (.int v)] [] 161 (I, J, RF w) else z_go 26 [some (.int n), some (.int s), some (.int v)] [] 161 (I, J, RF w)) (fun _ => rfl) ?_
          refine z_evI (fun h5 => ?_) (fun h5 => ?_)
          · refine z_evL ?_
            refine z_evG 2 (y := some (.inr (some (.int 0), 161, I, J, RF w))) (fun _ => rfl) ?_
            exact z_evR (by simp [z_bo, h1, h2, h3, h4, h5])
          · refine z_evL ?_
            refine z_evG 3 (y := if 16 < v then z_go 36 [some (.int n), some (.int s), some (.int v)] [] 161 (I, J, RF w) else z_go 32 [some (.int n), some (.int s), some (.int v)] [] 161 (I, J, RF w)) (fun _ => rfl) ?_
            refine z_evI (fun h6 => ?_) (fun h6 => ?_)
            · refine z_evL ?_
              refine z_evG 2 (y := some (.inr (some (.int 0), 161, I, J, RF w))) (fun _ => rfl) ?_
              exact z_evR (by simp [z_bo, h1, h2, h3, h4, h5, h6])
            · refine z_evL ?_
              refine z_evG 3 (y := some (.inr (some (.int 1), 161, I, J, RF w))) (fun _ => rfl) ?_
              exact z_evR (by simp [z_bo, h1, h2, h3, h4, h5, h6])
        · refine z_evL ?_
          refine z_evG 2 (y := some (.inr (some (.int 0), 161, I, J, RF w))) (fun _ => rfl) ?_
          exact z_evR (by simp [z_bo, h1, h2, h3, h4])
set_option maxRecDepth 20000 in
/-- LampHouse.isFourDigits -/
theorem x_isFour (E : zE) (d : Nat) (I : Nat → Nat → Int32) (J : Nat → Nat → Int64) (w : Nat) (n : Int64) : z_cl E (d + 1) 167 [.long n] (161, I, J, RF w) = some (some (.int (z_bo (¬ n < 0 ∧ n < 1000000000000))), 161, I, J, RF w) := by
  refine z_call (d := d + 0) (M := z_m167) rfl rfl ?_
  refine z_evG 4 (y := if (lg_cmp n 0) < 0 then z_go 18 [some (.long n), none] [] 161 (I, J, RF w) else z_go 6 [some (.long n), none] [] 161 (I, J, RF w)) (fun _ => rfl) ?_
  refine z_evIN (lg_cmp_lt _ _) (fun h1 => ?_) (fun h1 => ?_)
  · refine z_evL ?_
    refine z_evG 2 (y := some (.inr (some (.int 0), 161, I, J, RF w))) (fun _ => rfl) ?_
    exact z_evR (by simp [z_bo, h1])
  · refine z_evL ?_
    refine z_evG 4 (y := if (lg_cmp n 1000000000000) < 0 then z_go 14 [some (.long n), none] [] 161 (I, J, RF w) else z_go 18 [some (.long n), none] [] 161 (I, J, RF w)) (fun _ => rfl) ?_
    refine z_evIN (lg_cmp_lt _ _) (fun h2 => ?_) (fun h2 => ?_)
    · refine z_evL ?_
      refine z_evG 3 (y := some (.inr (some (.int 1), 161, I, J, RF w))) (fun _ => rfl) ?_
      exact z_evR (by simp [z_bo, h1, h2])
    · refine z_evL ?_
      refine z_evG 2 (y := some (.inr (some (.int 0), 161, I, J, RF w))) (fun _ => rfl) ?_
      exact z_evR (by simp [z_bo, h1, h2])
set_option maxRecDepth 20000 in
/-- LampHouse.limited -/
theorem x_limited (E : zE) (d : Nat) (I : Nat → Nat → Int32) (J : Nat → Nat → Int64) (w : Nat) (n : Int64) : z_cl E (d + 1) 170 [.long n] (161, I, J, RF w) = some (some (.int ((if 1000000000 < n then 1000000000 else n).toInt32)), 161, I, J, RF w) := by
  refine z_call (d := d + 0) (M := z_m170) rfl rfl ?_
  refine z_evG 5 (y := some (.inr (some (.int ((if 1000000000 < n then 1000000000 else n).toInt32)), 161, I, J, RF w))) (fun _ => rfl) ?_
  exact z_evR rfl
set_option maxRecDepth 20000 in
/-- LampHouse$Eights.hasAll -/
theorem x_rows_hasAll (E : zE) (d : Nat) (I : Nat → Nat → Int32) (J : Nat → Nat → Int64) (w : Nat) (b : Int32) : z_cl E (d + 2) 9 [.ref 1, .int b] (161, I, J, RF w) = some (some (.int (z_bo ((b &&& ((-1) <<< (I 1 1 &&& 31))) = 0))), 161, I, J, RF w) := by
  refine z_call (d := d + 1) (M := z_m9) rfl rfl ?_
  refine z_evG 4 (y := z_ret (z_cl E (d + 1) 176 [.int b, .int (I 1 1)] (161, (I, J, RF w))) 8 [some (.ref 1), some (.int b)] []) (fun _ => rfl) ?_
  refine z_evK (v := .int (z_bo ((b &&& ((-1) <<< ((I 1 1) &&& 31))) = 0))) (z' := 161) (σ' := (I, J, RF w)) (x_areBelow E d I J w b (I 1 1)) ?_
  refine z_evG 1 (y := z_ck (z_b01 (z_bo ((b &&& ((-1) <<< ((I 1 1) &&& 31))) = 0))) (some (.inr (some (.int (z_bo ((b &&& ((-1) <<< ((I 1 1) &&& 31))) = 0))), 161, I, J, RF w)))) (fun _ => rfl) ?_
  refine z_evC (z_b01o _) ?_
  exact z_evR rfl
set_option maxRecDepth 20000 in
/-- LampHouse$Eights.hasAll -/
theorem x_lights_hasAll (E : zE) (d : Nat) (I : Nat → Nat → Int32) (J : Nat → Nat → Int64) (w : Nat) (b : Int32) : z_cl E (d + 2) 9 [.ref 43, .int b] (161, I, J, RF w) = some (some (.int (z_bo ((b &&& ((-1) <<< (I 43 1 &&& 31))) = 0))), 161, I, J, RF w) := by
  refine z_call (d := d + 1) (M := z_m9) rfl rfl ?_
  refine z_evG 4 (y := z_ret (z_cl E (d + 1) 176 [.int b, .int (I 43 1)] (161, (I, J, RF w))) 8 [some (.ref 43), some (.int b)] []) (fun _ => rfl) ?_
  refine z_evK (v := .int (z_bo ((b &&& ((-1) <<< ((I 43 1) &&& 31))) = 0))) (z' := 161) (σ' := (I, J, RF w)) (x_areBelow E d I J w b (I 43 1)) ?_
  refine z_evG 1 (y := z_ck (z_b01 (z_bo ((b &&& ((-1) <<< ((I 43 1) &&& 31))) = 0))) (some (.inr (some (.int (z_bo ((b &&& ((-1) <<< ((I 43 1) &&& 31))) = 0))), 161, I, J, RF w)))) (fun _ => rfl) ?_
  refine z_evC (z_b01o _) ?_
  exact z_evR rfl
set_option maxRecDepth 20000 in
/-- LampHouse$Ages.size -/
theorem x_ages_size (E : zE) (d : Nat) (I : Nat → Nat → Int32) (J : Nat → Nat → Int64) (w : Nat) : z_cl E (d + 1) 1 [.ref 33] (161, I, J, RF w) = some (some (.int (I 33 3)), 161, I, J, RF w) := by
  refine z_call (d := d + 0) (M := z_m1) rfl rfl ?_
  refine z_evG 3 (y := some (.inr (some (.int (I 33 3)), 161, I, J, RF w))) (fun _ => rfl) ?_
  exact z_evR rfl
set_option maxRecDepth 20000 in
/-- LampHouse$Ages.isFull -/
theorem x_ages_isFull (E : zE) (d : Nat) (I : Nat → Nat → Int32) (J : Nat → Nat → Int64) (w : Nat) : z_cl E (d + 1) 2 [.ref 33] (161, I, J, RF w) = some (some (.int (z_bo (¬ I 33 3 < 40))), 161, I, J, RF w) := by
  refine z_call (d := d + 0) (M := z_m2) rfl rfl ?_
  refine z_evG 4 (y := if (I 33 3) < 40 then z_go 13 [some (.ref 33)] [] 161 (I, J, RF w) else z_go 9 [some (.ref 33)] [] 161 (I, J, RF w)) (fun _ => rfl) ?_
  refine z_evI (fun h1 => ?_) (fun h1 => ?_)
  · refine z_evL ?_
    refine z_evG 2 (y := some (.inr (some (.int 0), 161, I, J, RF w))) (fun _ => rfl) ?_
    exact z_evR (by simp [z_bo, h1])
  · refine z_evL ?_
    refine z_evG 3 (y := some (.inr (some (.int 1), 161, I, J, RF w))) (fun _ => rfl) ?_
    exact z_evR (by simp [z_bo, h1])
set_option maxRecDepth 20000 in
/-- LampHouse$Things.isKind -/
theorem x_isKind (E : zE) (d : Nat) (I : Nat → Nat → Int32) (J : Nat → Nat → Int64) (w : Nat) (i : Int32) : z_cl E (d + 1) 105 [.int i] (161, I, J, RF w) = some (some (.int (z_bo (¬ i < 0 ∧ i < 6))), 161, I, J, RF w) := by
  refine z_call (d := d + 0) (M := z_m105) rfl rfl ?_
  refine z_evG 2 (y := if i < 0 then z_go 16 [some (.int i)] [] 161 (I, J, RF w) else z_go 4 [some (.int i)] [] 161 (I, J, RF w)) (fun _ => rfl) ?_
  refine z_evI (fun h1 => ?_) (fun h1 => ?_)
  · refine z_evL ?_
    refine z_evG 2 (y := some (.inr (some (.int 0), 161, I, J, RF w))) (fun _ => rfl) ?_
    exact z_evR (by simp [z_bo, h1])
  · refine z_evL ?_
    refine z_evG 4 (y := if i < 6 then z_go 12 [some (.int i)] [] 161 (I, J, RF w) else z_go 16 [some (.int i)] [] 161 (I, J, RF w)) (fun _ => rfl) ?_
    refine z_evI (fun h2 => ?_) (fun h2 => ?_)
    · refine z_evL ?_
      refine z_evG 3 (y := some (.inr (some (.int 1), 161, I, J, RF w))) (fun _ => rfl) ?_
      exact z_evR (by simp [z_bo, h1, h2])
    · refine z_evL ?_
      refine z_evG 2 (y := some (.inr (some (.int 0), 161, I, J, RF w))) (fun _ => rfl) ?_
      exact z_evR (by simp [z_bo, h1, h2])
set_option maxRecDepth 20000 in
/-- LampHouse$Things.size -/
theorem x_things_size (E : zE) (d : Nat) (I : Nat → Nat → Int32) (J : Nat → Nat → Int64) (w : Nat) : z_cl E (d + 1) 107 [.ref 37] (161, I, J, RF w) = some (some (.int (I 37 7)), 161, I, J, RF w) := by
  refine z_call (d := d + 0) (M := z_m107) rfl rfl ?_
  refine z_evG 3 (y := some (.inr (some (.int (I 37 7)), 161, I, J, RF w))) (fun _ => rfl) ?_
  exact z_evR rfl
set_option maxRecDepth 20000 in
/-- LampHouse$Things.has -/
theorem x_things_has (E : zE) (d : Nat) (I : Nat → Nat → Int32) (J : Nat → Nat → Int64) (w : Nat) (i : Int32) : z_cl E (d + 1) 108 [.ref 37, .int i] (161, I, J, RF w) = some (some (.int (z_bo (¬ i < 0 ∧ i < I 37 7))), 161, I, J, RF w) := by
  refine z_call (d := d + 0) (M := z_m108) rfl rfl ?_
  refine z_evG 2 (y := if i < 0 then z_go 16 [some (.ref 37), some (.int i)] [] 161 (I, J, RF w) else z_go 4 [some (.ref 37), some (.int i)] [] 161 (I, J, RF w)) (fun _ => rfl) ?_
  refine z_evI (fun h1 => ?_) (fun h1 => ?_)
  · refine z_evL ?_
    refine z_evG 2 (y := some (.inr (some (.int 0), 161, I, J, RF w))) (fun _ => rfl) ?_
    exact z_evR (by simp [z_bo, h1])
  · refine z_evL ?_
    refine z_evG 4 (y := if i < (I 37 7) then z_go 12 [some (.ref 37), some (.int i)] [] 161 (I, J, RF w) else z_go 16 [some (.ref 37), some (.int i)] [] 161 (I, J, RF w)) (fun _ => rfl) ?_
    refine z_evI (fun h2 => ?_) (fun h2 => ?_)
    · refine z_evL ?_
      refine z_evG 3 (y := some (.inr (some (.int 1), 161, I, J, RF w))) (fun _ => rfl) ?_
      exact z_evR (by simp [z_bo, h1, h2])
    · refine z_evL ?_
      refine z_evG 2 (y := some (.inr (some (.int 0), 161, I, J, RF w))) (fun _ => rfl) ?_
      exact z_evR (by simp [z_bo, h1, h2])
set_option maxRecDepth 20000 in
/-- LampHouse$Things.hasAll -/
theorem x_things_hasAll (E : zE) (d : Nat) (I : Nat → Nat → Int32) (J : Nat → Nat → Int64) (w : Nat) (b : Int32) : z_cl E (d + 2) 109 [.ref 37, .int b] (161, I, J, RF w) = some (some (.int (z_bo ((b &&& ((-1) <<< (I 37 7 &&& 31))) = 0))), 161, I, J, RF w) := by
  refine z_call (d := d + 1) (M := z_m109) rfl rfl ?_
  refine z_evG 4 (y := z_ret (z_cl E (d + 1) 176 [.int b, .int (I 37 7)] (161, (I, J, RF w))) 8 [some (.ref 37), some (.int b)] []) (fun _ => rfl) ?_
  refine z_evK (v := .int (z_bo ((b &&& ((-1) <<< ((I 37 7) &&& 31))) = 0))) (z' := 161) (σ' := (I, J, RF w)) (x_areBelow E d I J w b (I 37 7)) ?_
  refine z_evG 1 (y := z_ck (z_b01 (z_bo ((b &&& ((-1) <<< ((I 37 7) &&& 31))) = 0))) (some (.inr (some (.int (z_bo ((b &&& ((-1) <<< ((I 37 7) &&& 31))) = 0))), 161, I, J, RF w)))) (fun _ => rfl) ?_
  refine z_evC (z_b01o _) ?_
  exact z_evR rfl
set_option maxRecDepth 20000 in
/-- LampHouse$Things.hasSome -/
theorem x_things_hasSome (E : zE) (d : Nat) (I : Nat → Nat → Int32) (J : Nat → Nat → Int64) (w : Nat) (b : Int32) : z_cl E (d + 3) 110 [.ref 37, .int b] (161, I, J, RF w) = some (some (.int (z_bo (¬ b = 0 ∧ (b &&& ((-1) <<< (I 37 7 &&& 31))) = 0))), 161, I, J, RF w) := by
  refine z_call (d := d + 2) (M := z_m110) rfl rfl ?_
  refine z_evG 2 (y := if b = 0 then z_go 16 [some (.ref 37), some (.int b)] [] 161 (I, J, RF w) else z_go 4 [some (.ref 37), some (.int b)] [] 161 (I, J, RF w)) (fun _ => rfl) ?_
  refine z_evI (fun h1 => ?_) (fun h1 => ?_)
  · refine z_evL ?_
    refine z_evG 2 (y := some (.inr (some (.int 0), 161, I, J, RF w))) (fun _ => rfl) ?_
    exact z_evR (by simp [z_bo, h1])
  · refine z_evL ?_
    refine z_evG 3 (y := z_ret (z_cl E (d + 2) 109 [.ref 37, .int b] (161, (I, J, RF w))) 9 [some (.ref 37), some (.int b)] []) (fun _ => rfl) ?_
    refine z_evK (v := .int (z_bo ((b &&& ((-1) <<< (I 37 7 &&& 31))) = 0))) (z' := 161) (σ' := (I, J, RF w)) (x_things_hasAll E d I J w b) ?_
    refine z_evG 1 (y := if (z_bo ((b &&& ((-1) <<< (I 37 7 &&& 31))) = 0)) = 0 then z_go 16 [some (.ref 37), some (.int b)] [] 161 (I, J, RF w) else z_go 12 [some (.ref 37), some (.int b)] [] 161 (I, J, RF w)) (fun _ => rfl) ?_
    refine z_evO (fun h2 => ?_) (fun h2 => ?_)
    · refine z_evL ?_
      refine z_evG 2 (y := some (.inr (some (.int 0), 161, I, J, RF w))) (fun _ => rfl) ?_
      exact z_evR (by simp [z_bo, h1, h2])
    · refine z_evL ?_
      refine z_evG 3 (y := some (.inr (some (.int 1), 161, I, J, RF w))) (fun _ => rfl) ?_
      exact z_evR (by simp [z_bo, h1, h2])
set_option maxRecDepth 20000 in
/-- LampHouse$Things.isFull -/
theorem x_things_isFull (E : zE) (d : Nat) (I : Nat → Nat → Int32) (J : Nat → Nat → Int64) (w : Nat) : z_cl E (d + 1) 111 [.ref 37] (161, I, J, RF w) = some (some (.int (z_bo (¬ I 37 7 < 20))), 161, I, J, RF w) := by
  refine z_call (d := d + 0) (M := z_m111) rfl rfl ?_
  refine z_evG 4 (y := if (I 37 7) < 20 then z_go 13 [some (.ref 37)] [] 161 (I, J, RF w) else z_go 9 [some (.ref 37)] [] 161 (I, J, RF w)) (fun _ => rfl) ?_
  refine z_evI (fun h1 => ?_) (fun h1 => ?_)
  · refine z_evL ?_
    refine z_evG 2 (y := some (.inr (some (.int 0), 161, I, J, RF w))) (fun _ => rfl) ?_
    exact z_evR (by simp [z_bo, h1])
  · refine z_evL ?_
    refine z_evG 3 (y := some (.inr (some (.int 1), 161, I, J, RF w))) (fun _ => rfl) ?_
    exact z_evR (by simp [z_bo, h1])
set_option maxRecDepth 20000 in
/-- LampHouse$Things.kindOf -/
theorem x_things_kindOf (E : zE) (d : Nat) (I : Nat → Nat → Int32) (J : Nat → Nat → Int64) (w : Nat) (i : Int32) (hk : z_in i 20 = true) : z_cl E (d + 1) 113 [.ref 37, .int i] (161, I, J, RF w) = some (some (.int (I 38 i.toNatClampNeg)), 161, I, J, RF w) := by
  refine z_call (d := d + 0) (M := z_m113) rfl rfl ?_
  refine z_evG 4 (y := z_ild (z_ia E 161 (I, J, RF w) 38) i fun vv => z_go 6 [some (.ref 37), some (.int i)] [.int vv] 161 (I, J, RF w)) (fun _ => rfl) ?_
  refine z_evB (N := 20) (f := (I 38)) rfl hk ?_
  refine z_evL ?_
  refine z_evG 1 (y := some (.inr (some (.int ((I 38) (i).toNatClampNeg)), 161, I, J, RF w))) (fun _ => rfl) ?_
  exact z_evR rfl
set_option maxRecDepth 20000 in
/-- LampHouse$Things.rowUsed -/
theorem x_things_rowUsed (E : zE) (d : Nat) (I : Nat → Nat → Int32) (J : Nat → Nat → Int64) (w : Nat) (i : Int32) (hk : z_in i 20 = true) : z_cl E (d + 1) 114 [.ref 37, .int i] (161, I, J, RF w) = some (some (.int (I 39 i.toNatClampNeg)), 161, I, J, RF w) := by
  refine z_call (d := d + 0) (M := z_m114) rfl rfl ?_
  refine z_evG 4 (y := z_ild (z_ia E 161 (I, J, RF w) 39) i fun vv => z_go 6 [some (.ref 37), some (.int i)] [.int vv] 161 (I, J, RF w)) (fun _ => rfl) ?_
  refine z_evB (N := 20) (f := (I 39)) rfl hk ?_
  refine z_evL ?_
  refine z_evG 1 (y := some (.inr (some (.int ((I 39) (i).toNatClampNeg)), 161, I, J, RF w))) (fun _ => rfl) ?_
  exact z_evR rfl
set_option maxRecDepth 20000 in
/-- LampHouse$Things.numberOf -/
theorem x_things_numberOf (E : zE) (d : Nat) (I : Nat → Nat → Int32) (J : Nat → Nat → Int64) (w : Nat) (i : Int32) (hk : z_in i 20 = true) : z_cl E (d + 1) 115 [.ref 37, .int i] (161, I, J, RF w) = some (some (.int (I 40 i.toNatClampNeg)), 161, I, J, RF w) := by
  refine z_call (d := d + 0) (M := z_m115) rfl rfl ?_
  refine z_evG 4 (y := z_ild (z_ia E 161 (I, J, RF w) 40) i fun vv => z_go 6 [some (.ref 37), some (.int i)] [.int vv] 161 (I, J, RF w)) (fun _ => rfl) ?_
  refine z_evB (N := 20) (f := (I 40)) rfl hk ?_
  refine z_evL ?_
  refine z_evG 1 (y := some (.inr (some (.int ((I 40) (i).toNatClampNeg)), 161, I, J, RF w))) (fun _ => rfl) ?_
  exact z_evR rfl
set_option maxRecDepth 20000 in
/-- LampHouse$Things.hourTold -/
theorem x_things_hourTold (E : zE) (d : Nat) (I : Nat → Nat → Int32) (J : Nat → Nat → Int64) (w : Nat) (i : Int32) (hk : z_in i 20 = true) : z_cl E (d + 1) 116 [.ref 37, .int i] (161, I, J, RF w) = some (some (.int (I 41 i.toNatClampNeg)), 161, I, J, RF w) := by
  refine z_call (d := d + 0) (M := z_m116) rfl rfl ?_
  refine z_evG 4 (y := z_ild (z_ia E 161 (I, J, RF w) 41) i fun vv => z_go 6 [some (.ref 37), some (.int i)] [.int vv] 161 (I, J, RF w)) (fun _ => rfl) ?_
  refine z_evB (N := 20) (f := (I 41)) rfl hk ?_
  refine z_evL ?_
  refine z_evG 1 (y := some (.inr (some (.int ((I 41) (i).toNatClampNeg)), 161, I, J, RF w))) (fun _ => rfl) ?_
  exact z_evR rfl
set_option maxRecDepth 20000 in
/-- LampHouse$Things.stepsOf -/
theorem x_things_stepsOf (E : zE) (d : Nat) (I : Nat → Nat → Int32) (J : Nat → Nat → Int64) (w : Nat) (i : Int32) (hk : z_in i 20 = true) : z_cl E (d + 1) 117 [.ref 37, .int i] (161, I, J, RF w) = some (some (.int (I 42 i.toNatClampNeg)), 161, I, J, RF w) := by
  refine z_call (d := d + 0) (M := z_m117) rfl rfl ?_
  refine z_evG 4 (y := z_ild (z_ia E 161 (I, J, RF w) 42) i fun vv => z_go 6 [some (.ref 37), some (.int i)] [.int vv] 161 (I, J, RF w)) (fun _ => rfl) ?_
  refine z_evB (N := 20) (f := (I 42)) rfl hk ?_
  refine z_evL ?_
  refine z_evG 1 (y := some (.inr (some (.int ((I 42) (i).toNatClampNeg)), 161, I, J, RF w))) (fun _ => rfl) ?_
  exact z_evR rfl
set_option maxRecDepth 20000 in
/-- LampHouse$Things.changeSteps -/
theorem x_things_changeSteps (E : zE) (d : Nat) (I : Nat → Nat → Int32) (J : Nat → Nat → Int64) (w : Nat) (i v : Int32) (hk : z_in i 20 = true) : z_cl E (d + 1) 119 [.ref 37, .int i, .int v] (161, I, J, RF w) = some (some (.int (I 42 i.toNatClampNeg)), 161, (z_u2 I 42 i.toNatClampNeg v), J, RF w) := by
  refine z_call (d := d + 0) (M := z_m119) rfl rfl ?_
  refine z_evG 4 (y := z_ild (z_ia E 161 (I, J, RF w) 42) i fun vv => z_go 6 [some (.ref 37), some (.int i), some (.int v), none] [.int vv] 161 (I, J, RF w)) (fun _ => rfl) ?_
  refine z_evB (N := 20) (f := (I 42)) rfl hk ?_
  refine z_evL ?_
  refine z_evG 6 (y := z_ck (z_in i 20) (z_go 14 [some (.ref 37), some (.int i), some (.int v), some (.int ((I 42) (i).toNatClampNeg))] [] 161 ((z_u2 I 42 ((i).toNatClampNeg) v), J, RF w))) (fun _ => rfl) ?_
  refine z_evC hk ?_
  refine z_evL ?_
  refine z_evG 2 (y := some (.inr (some (.int ((I 42) (i).toNatClampNeg)), 161, (z_u2 I 42 ((i).toNatClampNeg) v), J, RF w))) (fun _ => rfl) ?_
  exact z_evR rfl
set_option maxRecDepth 20000 in
/-- LampHouse$Things.asThing -/
theorem x_asThing (E : zE) (d : Nat) (I : Nat → Nat → Int32) (J : Nat → Nat → Int64) (w : Nat) (u v : Int64) : z_cl E (d + 1) 122 [.long u, .long v] (161, I, J, RF w) = some (some (.long (u * v / 1000)), 161, I, J, RF w) := by
  refine z_call (d := d + 0) (M := z_m122) rfl rfl ?_
  refine z_evG 5 (y := z_ck (!decide ((1000 : Int64) = 0)) (z_go 7 [some (.long u), none, some (.long v), none] [.long ((u * v) / 1000)] 161 (I, J, RF w))) (fun _ => rfl) ?_
  refine z_evC (by decide) ?_
  refine z_evL ?_
  refine z_evG 1 (y := some (.inr (some (.long ((u * v) / 1000)), 161, I, J, RF w))) (fun _ => rfl) ?_
  exact z_evR rfl
set_option maxRecDepth 20000 in
/-- LampHouse$Things.asGlass -/
theorem x_asGlass (E : zE) (d : Nat) (I : Nat → Nat → Int32) (J : Nat → Nat → Int64) (w : Nat) (u v : Int64) : z_cl E (d + 2) 123 [.long u, .long v] (161, I, J, RF w) = some (some (.long (u * (500 + v / 2) / 1000)), 161, I, J, RF w) := by
  refine z_call (d := d + 1) (M := z_m123) rfl rfl ?_
  refine z_evG 5 (y := z_ck (!decide ((2 : Int64) = 0)) (z_go 9 [some (.long u), none, some (.long v), none] [.long (v / 2), .long 500, .long u] 161 (I, J, RF w))) (fun _ => rfl) ?_
  refine z_evC (by decide) ?_
  refine z_evL ?_
  refine z_evG 2 (y := z_ret (z_cl E (d + 1) 122 [.long u, .long (500 + (v / 2))] (161, (I, J, RF w))) 13 [some (.long u), none, some (.long v), none] []) (fun _ => rfl) ?_
  refine z_evK (v := .long (u * (500 + (v / 2)) / 1000)) (z' := 161) (σ' := (I, J, RF w)) (x_asThing E d I J w u (500 + (v / 2))) ?_
  refine z_evG 1 (y := some (.inr (some (.long (u * (500 + (v / 2)) / 1000)), 161, I, J, RF w))) (fun _ => rfl) ?_
  exact z_evR rfl
set_option maxRecDepth 20000 in
/-- LampHouse$Eyes.size -/
theorem x_eyes_size (E : zE) (d : Nat) (I : Nat → Nat → Int32) (J : Nat → Nat → Int64) (w : Nat) : z_cl E (d + 1) 14 [.ref 65] (161, I, J, RF w) = some (some (.int (I 65 3)), 161, I, J, RF w) := by
  refine z_call (d := d + 0) (M := z_m14) rfl rfl ?_
  refine z_evG 3 (y := some (.inr (some (.int (I 65 3)), 161, I, J, RF w))) (fun _ => rfl) ?_
  exact z_evR rfl
set_option maxRecDepth 20000 in
/-- LampHouse$Eyes.has -/
theorem x_eyes_has (E : zE) (d : Nat) (I : Nat → Nat → Int32) (J : Nat → Nat → Int64) (w : Nat) (i : Int32) : z_cl E (d + 1) 15 [.ref 65, .int i] (161, I, J, RF w) = some (some (.int (z_bo (¬ i < 0 ∧ i < I 65 3))), 161, I, J, RF w) := by
  refine z_call (d := d + 0) (M := z_m15) rfl rfl ?_
  refine z_evG 2 (y := if i < 0 then z_go 16 [some (.ref 65), some (.int i)] [] 161 (I, J, RF w) else z_go 4 [some (.ref 65), some (.int i)] [] 161 (I, J, RF w)) (fun _ => rfl) ?_
  refine z_evI (fun h1 => ?_) (fun h1 => ?_)
  · refine z_evL ?_
    refine z_evG 2 (y := some (.inr (some (.int 0), 161, I, J, RF w))) (fun _ => rfl) ?_
    exact z_evR (by simp [z_bo, h1])
  · refine z_evL ?_
    refine z_evG 4 (y := if i < (I 65 3) then z_go 12 [some (.ref 65), some (.int i)] [] 161 (I, J, RF w) else z_go 16 [some (.ref 65), some (.int i)] [] 161 (I, J, RF w)) (fun _ => rfl) ?_
    refine z_evI (fun h2 => ?_) (fun h2 => ?_)
    · refine z_evL ?_
      refine z_evG 3 (y := some (.inr (some (.int 1), 161, I, J, RF w))) (fun _ => rfl) ?_
      exact z_evR (by simp [z_bo, h1, h2])
    · refine z_evL ?_
      refine z_evG 2 (y := some (.inr (some (.int 0), 161, I, J, RF w))) (fun _ => rfl) ?_
      exact z_evR (by simp [z_bo, h1, h2])
set_option maxRecDepth 20000 in
/-- LampHouse$Eyes.hasAll -/
theorem x_eyes_hasAll (E : zE) (d : Nat) (I : Nat → Nat → Int32) (J : Nat → Nat → Int64) (w : Nat) (b : Int32) : z_cl E (d + 2) 16 [.ref 65, .int b] (161, I, J, RF w) = some (some (.int (z_bo ((b &&& ((-1) <<< (I 65 3 &&& 31))) = 0))), 161, I, J, RF w) := by
  refine z_call (d := d + 1) (M := z_m16) rfl rfl ?_
  refine z_evG 4 (y := z_ret (z_cl E (d + 1) 176 [.int b, .int (I 65 3)] (161, (I, J, RF w))) 8 [some (.ref 65), some (.int b)] []) (fun _ => rfl) ?_
  refine z_evK (v := .int (z_bo ((b &&& ((-1) <<< ((I 65 3) &&& 31))) = 0))) (z' := 161) (σ' := (I, J, RF w)) (x_areBelow E d I J w b (I 65 3)) ?_
  refine z_evG 1 (y := z_ck (z_b01 (z_bo ((b &&& ((-1) <<< ((I 65 3) &&& 31))) = 0))) (some (.inr (some (.int (z_bo ((b &&& ((-1) <<< ((I 65 3) &&& 31))) = 0))), 161, I, J, RF w)))) (fun _ => rfl) ?_
  refine z_evC (z_b01o _) ?_
  exact z_evR rfl
set_option maxRecDepth 20000 in
/-- LampHouse$Eyes.isFull -/
theorem x_eyes_isFull (E : zE) (d : Nat) (I : Nat → Nat → Int32) (J : Nat → Nat → Int64) (w : Nat) : z_cl E (d + 1) 18 [.ref 65] (161, I, J, RF w) = some (some (.int (z_bo (¬ I 65 3 < 8))), 161, I, J, RF w) := by
  refine z_call (d := d + 0) (M := z_m18) rfl rfl ?_
  refine z_evG 4 (y := if (I 65 3) < 8 then z_go 13 [some (.ref 65)] [] 161 (I, J, RF w) else z_go 9 [some (.ref 65)] [] 161 (I, J, RF w)) (fun _ => rfl) ?_
  refine z_evI (fun h1 => ?_) (fun h1 => ?_)
  · refine z_evL ?_
    refine z_evG 2 (y := some (.inr (some (.int 0), 161, I, J, RF w))) (fun _ => rfl) ?_
    exact z_evR (by simp [z_bo, h1])
  · refine z_evL ?_
    refine z_evG 3 (y := some (.inr (some (.int 1), 161, I, J, RF w))) (fun _ => rfl) ?_
    exact z_evR (by simp [z_bo, h1])
set_option maxRecDepth 20000 in
/-- LampHouse$Eyes.hasTaker -/
theorem x_eyes_hasTaker (E : zE) (d : Nat) (I : Nat → Nat → Int32) (J : Nat → Nat → Int64) (w : Nat) (i t : Int32) (hk : z_in i 8 = true) : z_cl E (d + 1) 17 [.ref 65, .int i, .int t] (161, I, J, RF w) = some (some (.int (z_bo (¬ t < 0 ∧ t < I 75 i.toNatClampNeg))), 161, I, J, RF w) := by
  refine z_call (d := d + 0) (M := z_m17) rfl rfl ?_
  refine z_evG 2 (y := if t < 0 then z_go 18 [some (.ref 65), some (.int i), some (.int t)] [] 161 (I, J, RF w) else z_go 4 [some (.ref 65), some (.int i), some (.int t)] [] 161 (I, J, RF w)) (fun _ => rfl) ?_
  refine z_evI (fun h1 => ?_) (fun h1 => ?_)
  · refine z_evL ?_
    refine z_evG 2 (y := some (.inr (some (.int 0), 161, I, J, RF w))) (fun _ => rfl) ?_
    exact z_evR (by simp [z_bo, h1])
  · refine z_evL ?_
    refine z_evG 5 (y := z_ild (z_ia E 161 (I, J, RF w) 75) i fun vv => z_go 11 [some (.ref 65), some (.int i), some (.int t)] [.int vv, .int t] 161 (I, J, RF w)) (fun _ => rfl) ?_
    refine z_evB (N := 8) (f := (I 75)) rfl hk ?_
    refine z_evL ?_
    refine z_evG 1 (y := if t < ((I 75) (i).toNatClampNeg) then z_go 14 [some (.ref 65), some (.int i), some (.int t)] [] 161 (I, J, RF w) else z_go 18 [some (.ref 65), some (.int i), some (.int t)] [] 161 (I, J, RF w)) (fun _ => rfl) ?_
    refine z_evI (fun h2 => ?_) (fun h2 => ?_)
    · refine z_evL ?_
      refine z_evG 3 (y := some (.inr (some (.int 1), 161, I, J, RF w))) (fun _ => rfl) ?_
      exact z_evR (by simp [z_bo, h1, h2])
    · refine z_evL ?_
      refine z_evG 2 (y := some (.inr (some (.int 0), 161, I, J, RF w))) (fun _ => rfl) ?_
      exact z_evR (by simp [z_bo, h1, h2])
set_option maxRecDepth 20000 in
/-- LampHouse$Eyes.takerCount -/
theorem x_eyes_takerCount (E : zE) (d : Nat) (I : Nat → Nat → Int32) (J : Nat → Nat → Int64) (w : Nat) (i : Int32) (hk : z_in i 8 = true) : z_cl E (d + 1) 20 [.ref 65, .int i] (161, I, J, RF w) = some (some (.int (I 75 i.toNatClampNeg)), 161, I, J, RF w) := by
  refine z_call (d := d + 0) (M := z_m20) rfl rfl ?_
  refine z_evG 4 (y := z_ild (z_ia E 161 (I, J, RF w) 75) i fun vv => z_go 6 [some (.ref 65), some (.int i)] [.int vv] 161 (I, J, RF w)) (fun _ => rfl) ?_
  refine z_evB (N := 8) (f := (I 75)) rfl hk ?_
  refine z_evL ?_
  refine z_evG 1 (y := some (.inr (some (.int ((I 75) (i).toNatClampNeg)), 161, I, J, RF w))) (fun _ => rfl) ?_
  exact z_evR rfl
set_option maxRecDepth 20000 in
/-- LampHouse$Reader.isName -/
theorem x_isName (E : zE) (d : Nat) (I : Nat → Nat → Int32) (J : Nat → Nat → Int64) (w : Nat) (i : Int32) : z_cl E (d + 1) 55 [.int i] (161, I, J, RF w) = some (some (.int (z_bo (¬ i < 8 ∧ ¬ 13 < i))), 161, I, J, RF w) := by
  refine z_call (d := d + 0) (M := z_m55) rfl rfl ?_
  refine z_evG 3 (y := if i < 8 then z_go 16 [some (.int i)] [] 161 (I, J, RF w) else z_go 6 [some (.int i)] [] 161 (I, J, RF w)) (fun _ => rfl) ?_
  refine z_evI (fun h1 => ?_) (fun h1 => ?_)
  · refine z_evL ?_
    refine z_evG 2 (y := some (.inr (some (.int 0), 161, I, J, RF w))) (fun _ => rfl) ?_
    exact z_evR (by simp [z_bo, h1])
  · refine z_evL ?_
    refine z_evG 3 (y := if 13 < i then z_go 16 [some (.int i)] [] 161 (I, J, RF w) else z_go 12 [some (.int i)] [] 161 (I, J, RF w)) (fun _ => rfl) ?_
    refine z_evI (fun h2 => ?_) (fun h2 => ?_)
    · refine z_evL ?_
      refine z_evG 2 (y := some (.inr (some (.int 0), 161, I, J, RF w))) (fun _ => rfl) ?_
      exact z_evR (by simp [z_bo, h1, h2])
    · refine z_evL ?_
      refine z_evG 3 (y := some (.inr (some (.int 1), 161, I, J, RF w))) (fun _ => rfl) ?_
      exact z_evR (by simp [z_bo, h1, h2])
set_option maxRecDepth 20000 in
/-- LampHouse$Reader.size -/
theorem x_reader_size (E : zE) (d : Nat) (I : Nat → Nat → Int32) (J : Nat → Nat → Int64) (w : Nat) : z_cl E (d + 1) 56 [.ref 76] (161, I, J, RF w) = some (some (.int (I 76 1)), 161, I, J, RF w) := by
  refine z_call (d := d + 0) (M := z_m56) rfl rfl ?_
  refine z_evG 3 (y := some (.inr (some (.int (I 76 1)), 161, I, J, RF w))) (fun _ => rfl) ?_
  exact z_evR rfl
set_option maxRecDepth 20000 in
/-- LampHouse$Reader.hasRoom -/
theorem x_reader_hasRoom (E : zE) (d : Nat) (I : Nat → Nat → Int32) (J : Nat → Nat → Int64) (w : Nat) (n : Int32) : z_cl E (d + 1) 57 [.ref 76, .int n] (161, I, J, RF w) = some (some (.int (z_bo (¬ 160 < I 76 1 + n))), 161, I, J, RF w) := by
  refine z_call (d := d + 0) (M := z_m57) rfl rfl ?_
  refine z_evG 6 (y := if 160 < ((I 76 1) + n) then z_go 16 [some (.ref 76), some (.int n)] [] 161 (I, J, RF w) else z_go 12 [some (.ref 76), some (.int n)] [] 161 (I, J, RF w)) (fun _ => rfl) ?_
  refine z_evI (fun h1 => ?_) (fun h1 => ?_)
  · refine z_evL ?_
    refine z_evG 2 (y := some (.inr (some (.int 0), 161, I, J, RF w))) (fun _ => rfl) ?_
    exact z_evR (by simp [z_bo, h1])
  · refine z_evL ?_
    refine z_evG 3 (y := some (.inr (some (.int 1), 161, I, J, RF w))) (fun _ => rfl) ?_
    exact z_evR (by simp [z_bo, h1])
set_option maxRecDepth 20000 in
/-- LampHouse$Reader.empty -/
theorem x_reader_empty (E : zE) (d : Nat) (I : Nat → Nat → Int32) (J : Nat → Nat → Int64) (w : Nat) : z_cl E (d + 1) 59 [.ref 76] (161, I, J, RF w) = some (none, 161, (z_u2 I 76 1 0), J, RF w) := by
  refine z_call (d := d + 0) (M := z_m59) rfl rfl ?_
  refine z_evG 4 (y := some (.inr (none, 161, (z_u2 I 76 1 0), J, RF w))) (fun _ => rfl) ?_
  exact z_evR rfl
set_option maxRecDepth 20000 in
/-- LampHouse$Reader.place -/
theorem x_reader_place (E : zE) (d : Nat) (I : Nat → Nat → Int32) (J : Nat → Nat → Int64) (w : Nat) : z_cl E (d + 1) 60 [.ref 76] (161, I, J, RF w) = some (some (.int (I 76 3)), 161, I, J, RF w) := by
  refine z_call (d := d + 0) (M := z_m60) rfl rfl ?_
  refine z_evG 3 (y := some (.inr (some (.int (I 76 3)), 161, I, J, RF w))) (fun _ => rfl) ?_
  exact z_evR rfl
set_option maxRecDepth 20000 in
/-- LampHouse$Reader.code -/
theorem x_reader_code (E : zE) (d : Nat) (I : Nat → Nat → Int32) (J : Nat → Nat → Int64) (w : Nat) : z_cl E (d + 1) 61 [.ref 76] (161, I, J, RF w) = some (some (.ref 78), 161, I, J, RF w) := by
  refine z_call (d := d + 0) (M := z_m61) rfl rfl ?_
  refine z_evG 3 (y := some (.inr (some (.ref 78), 161, I, J, RF w))) (fun _ => rfl) ?_
  exact z_evR rfl
set_option maxRecDepth 20000 in
/-- LampHouse$Reader.codeSize -/
theorem x_reader_codeSize (E : zE) (d : Nat) (I : Nat → Nat → Int32) (J : Nat → Nat → Int64) (w : Nat) : z_cl E (d + 1) 62 [.ref 76] (161, I, J, RF w) = some (some (.int (I 76 7)), 161, I, J, RF w) := by
  refine z_call (d := d + 0) (M := z_m62) rfl rfl ?_
  refine z_evG 3 (y := some (.inr (some (.int (I 76 7)), 161, I, J, RF w))) (fun _ => rfl) ?_
  exact z_evR rfl
set_option maxRecDepth 20000 in
/-- LampHouse$Reader.trueStart -/
theorem x_reader_trueStart (E : zE) (d : Nat) (I : Nat → Nat → Int32) (J : Nat → Nat → Int64) (w : Nat) : z_cl E (d + 1) 63 [.ref 76] (161, I, J, RF w) = some (some (.int (I 76 8)), 161, I, J, RF w) := by
  refine z_call (d := d + 0) (M := z_m63) rfl rfl ?_
  refine z_evG 3 (y := some (.inr (some (.int (I 76 8)), 161, I, J, RF w))) (fun _ => rfl) ?_
  exact z_evR rfl
set_option maxRecDepth 20000 in
/-- LampHouse$Reader.isDigit -/
theorem x_isDigit (E : zE) (d : Nat) (I : Nat → Nat → Int32) (J : Nat → Nat → Int64) (w : Nat) (i : Int32) : z_cl E (d + 1) 78 [.int i] (161, I, J, RF w) = some (some (.int (z_bo (¬ i < 48 ∧ ¬ 57 < i))), 161, I, J, RF w) := by
  refine z_call (d := d + 0) (M := z_m78) rfl rfl ?_
  refine z_evG 3 (y := if i < 48 then z_go 16 [some (.int i)] [] 161 (I, J, RF w) else z_go 6 [some (.int i)] [] 161 (I, J, RF w)) (fun _ => rfl) ?_
  refine z_evI (fun h1 => ?_) (fun h1 => ?_)
  · refine z_evL ?_
    refine z_evG 2 (y := some (.inr (some (.int 0), 161, I, J, RF w))) (fun _ => rfl) ?_
    exact z_evR (by simp [z_bo, h1])
  · refine z_evL ?_
    refine z_evG 3 (y := if 57 < i then z_go 16 [some (.int i)] [] 161 (I, J, RF w) else z_go 12 [some (.int i)] [] 161 (I, J, RF w)) (fun _ => rfl) ?_
    refine z_evI (fun h2 => ?_) (fun h2 => ?_)
    · refine z_evL ?_
      refine z_evG 2 (y := some (.inr (some (.int 0), 161, I, J, RF w))) (fun _ => rfl) ?_
      exact z_evR (by simp [z_bo, h1, h2])
    · refine z_evL ?_
      refine z_evG 3 (y := some (.inr (some (.int 1), 161, I, J, RF w))) (fun _ => rfl) ?_
      exact z_evR (by simp [z_bo, h1, h2])
set_option maxRecDepth 20000 in
/-- LampHouse$Reader.isLetter -/
theorem x_isLetter (E : zE) (d : Nat) (I : Nat → Nat → Int32) (J : Nat → Nat → Int64) (w : Nat) (i : Int32) : z_cl E (d + 1) 79 [.int i] (161, I, J, RF w) = some (some (.int (z_bo (¬ i < 97 ∧ ¬ 122 < i))), 161, I, J, RF w) := by
  refine z_call (d := d + 0) (M := z_m79) rfl rfl ?_
  refine z_evG 3 (y := if i < 97 then z_go 16 [some (.int i)] [] 161 (I, J, RF w) else z_go 6 [some (.int i)] [] 161 (I, J, RF w)) (fun _ => rfl) ?_
  refine z_evI (fun h1 => ?_) (fun h1 => ?_)
  · refine z_evL ?_
    refine z_evG 2 (y := some (.inr (some (.int 0), 161, I, J, RF w))) (fun _ => rfl) ?_
    exact z_evR (by simp [z_bo, h1])
  · refine z_evL ?_
    refine z_evG 3 (y := if 122 < i then z_go 16 [some (.int i)] [] 161 (I, J, RF w) else z_go 12 [some (.int i)] [] 161 (I, J, RF w)) (fun _ => rfl) ?_
    refine z_evI (fun h2 => ?_) (fun h2 => ?_)
    · refine z_evL ?_
      refine z_evG 2 (y := some (.inr (some (.int 0), 161, I, J, RF w))) (fun _ => rfl) ?_
      exact z_evR (by simp [z_bo, h1, h2])
    · refine z_evL ?_
      refine z_evG 3 (y := some (.inr (some (.int 1), 161, I, J, RF w))) (fun _ => rfl) ?_
      exact z_evR (by simp [z_bo, h1, h2])
set_option maxRecDepth 20000 in
/-- LampHouse$Rules.size -/
theorem x_rules_size (E : zE) (d : Nat) (I : Nat → Nat → Int32) (J : Nat → Nat → Int64) (w : Nat) : z_cl E (d + 1) 81 [.ref 79] (161, I, J, RF w) = some (some (.int (I 79 6)), 161, I, J, RF w) := by
  refine z_call (d := d + 0) (M := z_m81) rfl rfl ?_
  refine z_evG 3 (y := some (.inr (some (.int (I 79 6)), 161, I, J, RF w))) (fun _ => rfl) ?_
  exact z_evR rfl
set_option maxRecDepth 20000 in
/-- LampHouse$Rules.has -/
theorem x_rules_has (E : zE) (d : Nat) (I : Nat → Nat → Int32) (J : Nat → Nat → Int64) (w : Nat) (i : Int32) : z_cl E (d + 1) 82 [.ref 79, .int i] (161, I, J, RF w) = some (some (.int (z_bo (¬ i < 0 ∧ i < I 79 6))), 161, I, J, RF w) := by
  refine z_call (d := d + 0) (M := z_m82) rfl rfl ?_
  refine z_evG 2 (y := if i < 0 then z_go 16 [some (.ref 79), some (.int i)] [] 161 (I, J, RF w) else z_go 4 [some (.ref 79), some (.int i)] [] 161 (I, J, RF w)) (fun _ => rfl) ?_
  refine z_evI (fun h1 => ?_) (fun h1 => ?_)
  · refine z_evL ?_
    refine z_evG 2 (y := some (.inr (some (.int 0), 161, I, J, RF w))) (fun _ => rfl) ?_
    exact z_evR (by simp [z_bo, h1])
  · refine z_evL ?_
    refine z_evG 4 (y := if i < (I 79 6) then z_go 12 [some (.ref 79), some (.int i)] [] 161 (I, J, RF w) else z_go 16 [some (.ref 79), some (.int i)] [] 161 (I, J, RF w)) (fun _ => rfl) ?_
    refine z_evI (fun h2 => ?_) (fun h2 => ?_)
    · refine z_evL ?_
      refine z_evG 3 (y := some (.inr (some (.int 1), 161, I, J, RF w))) (fun _ => rfl) ?_
      exact z_evR (by simp [z_bo, h1, h2])
    · refine z_evL ?_
      refine z_evG 2 (y := some (.inr (some (.int 0), 161, I, J, RF w))) (fun _ => rfl) ?_
      exact z_evR (by simp [z_bo, h1, h2])
set_option maxRecDepth 20000 in
/-- LampHouse$Rules.isFull -/
theorem x_rules_isFull (E : zE) (d : Nat) (I : Nat → Nat → Int32) (J : Nat → Nat → Int64) (w : Nat) : z_cl E (d + 1) 83 [.ref 79] (161, I, J, RF w) = some (some (.int (z_bo (¬ I 79 6 < 6))), 161, I, J, RF w) := by
  refine z_call (d := d + 0) (M := z_m83) rfl rfl ?_
  refine z_evG 4 (y := if (I 79 6) < 6 then z_go 13 [some (.ref 79)] [] 161 (I, J, RF w) else z_go 9 [some (.ref 79)] [] 161 (I, J, RF w)) (fun _ => rfl) ?_
  refine z_evI (fun h1 => ?_) (fun h1 => ?_)
  · refine z_evL ?_
    refine z_evG 2 (y := some (.inr (some (.int 0), 161, I, J, RF w))) (fun _ => rfl) ?_
    exact z_evR (by simp [z_bo, h1])
  · refine z_evL ?_
    refine z_evG 3 (y := some (.inr (some (.int 1), 161, I, J, RF w))) (fun _ => rfl) ?_
    exact z_evR (by simp [z_bo, h1])
set_option maxRecDepth 20000 in
/-- LampHouse$Rules.chosen -/
theorem x_rules_chosen (E : zE) (d : Nat) (I : Nat → Nat → Int32) (J : Nat → Nat → Int64) (w : Nat) : z_cl E (d + 1) 84 [.ref 79] (161, I, J, RF w) = some (some (.int (I 79 7)), 161, I, J, RF w) := by
  refine z_call (d := d + 0) (M := z_m84) rfl rfl ?_
  refine z_evG 3 (y := some (.inr (some (.int (I 79 7)), 161, I, J, RF w))) (fun _ => rfl) ?_
  exact z_evR rfl
set_option maxRecDepth 20000 in
/-- LampHouse$Rules.choose -/
theorem x_rules_choose (E : zE) (d : Nat) (I : Nat → Nat → Int32) (J : Nat → Nat → Int64) (w : Nat) (i : Int32) : z_cl E (d + 1) 85 [.ref 79, .int i] (161, I, J, RF w) = some (some (.int (I 79 7)), 161, (z_u2 I 79 7 i), J, RF w) := by
  refine z_call (d := d + 0) (M := z_m85) rfl rfl ?_
  refine z_evG 8 (y := some (.inr (some (.int (I 79 7)), 161, (z_u2 I 79 7 i), J, RF w))) (fun _ => rfl) ?_
  exact z_evR rfl
set_option maxRecDepth 20000 in
/-- LampHouse$Rules.truth -/
theorem x_rules_truth (E : zE) (d : Nat) (I : Nat → Nat → Int32) (J : Nat → Nat → Int64) (w : Nat) (i : Int32) : z_cl E (d + 1) 93 [.int i] (161, I, J, RF w) = some (some (.int (z_bo (¬ i = 0))), 161, I, J, RF w) := by
  refine z_call (d := d + 0) (M := z_m93) rfl rfl ?_
  refine z_evG 2 (y := if i = 0 then z_go 8 [some (.int i)] [] 161 (I, J, RF w) else z_go 4 [some (.int i)] [] 161 (I, J, RF w)) (fun _ => rfl) ?_
  refine z_evI (fun h1 => ?_) (fun h1 => ?_)
  · refine z_evL ?_
    refine z_evG 2 (y := some (.inr (some (.int 0), 161, I, J, RF w))) (fun _ => rfl) ?_
    exact z_evR (by simp [z_bo, h1])
  · refine z_evL ?_
    refine z_evG 3 (y := some (.inr (some (.int 1), 161, I, J, RF w))) (fun _ => rfl) ?_
    exact z_evR (by simp [z_bo, h1])
set_option maxRecDepth 20000 in
/-- LampHouse$Rules.setFact -/
theorem x_rules_setFact (E : zE) (d : Nat) (I : Nat → Nat → Int32) (J : Nat → Nat → Int64) (w : Nat) (i v : Int32) (hk : z_in (i - 8) 6 = true) : z_cl E (d + 1) 89 [.ref 79, .int i, .int v] (161, I, J, RF w) = some (none, 161, (z_u2 I 89 (i - 8).toNatClampNeg v), J, RF w) := by
  refine z_call (d := d + 0) (M := z_m89) rfl rfl ?_
  refine z_evG 7 (y := z_ck (z_in (i - 8) 6) (z_go 10 [some (.ref 79), some (.int i), some (.int v)] [] 161 ((z_u2 I 89 ((i - 8).toNatClampNeg) v), J, RF w))) (fun _ => rfl) ?_
  refine z_evC hk ?_
  refine z_evL ?_
  refine z_evG 1 (y := some (.inr (none, 161, (z_u2 I 89 ((i - 8).toNatClampNeg) v), J, RF w))) (fun _ => rfl) ?_
  exact z_evR rfl
set_option maxRecDepth 20000 in
/-- LampHouse$Nearest.likeness -/
theorem x_near_likeness (E : zE) (d : Nat) (I : Nat → Nat → Int32) (J : Nat → Nat → Int64) (w : Nat) : z_cl E (d + 1) 38 [.ref 91] (161, I, J, RF w) = some (some (.int (I 91 7)), 161, I, J, RF w) := by
  refine z_call (d := d + 0) (M := z_m38) rfl rfl ?_
  refine z_evG 3 (y := some (.inr (some (.int (I 91 7)), 161, I, J, RF w))) (fun _ => rfl) ?_
  exact z_evR rfl
set_option maxRecDepth 20000 in
/-- LampHouse$Nearest.layerCount -/
theorem x_near_layerCount (E : zE) (d : Nat) (I : Nat → Nat → Int32) (J : Nat → Nat → Int64) (w : Nat) : z_cl E (d + 1) 40 [.ref 91] (161, I, J, RF w) = some (some (.int (I 91 15)), 161, I, J, RF w) := by
  refine z_call (d := d + 0) (M := z_m40) rfl rfl ?_
  refine z_evG 3 (y := some (.inr (some (.int (I 91 15)), 161, I, J, RF w))) (fun _ => rfl) ?_
  exact z_evR rfl
set_option maxRecDepth 20000 in
/-- LampHouse$Nearest.part -/
theorem x_near_part (E : zE) (d : Nat) (I : Nat → Nat → Int32) (J : Nat → Nat → Int64) (w : Nat) (i : Int32) (hk : z_in i 3 = true) : z_cl E (d + 1) 39 [.ref 91, .int i] (161, I, J, RF w) = some (some (.int (I 94 i.toNatClampNeg)), 161, I, J, RF w) := by
  refine z_call (d := d + 0) (M := z_m39) rfl rfl ?_
  refine z_evG 4 (y := z_ild (z_ia E 161 (I, J, RF w) 94) i fun vv => z_go 6 [some (.ref 91), some (.int i)] [.int vv] 161 (I, J, RF w)) (fun _ => rfl) ?_
  refine z_evB (N := 3) (f := (I 94)) rfl hk ?_
  refine z_evL ?_
  refine z_evG 1 (y := some (.inr (some (.int ((I 94) (i).toNatClampNeg)), 161, I, J, RF w))) (fun _ => rfl) ?_
  exact z_evR rfl
set_option maxRecDepth 20000 in
/-- LampHouse$Nearest.layer -/
theorem x_near_layer (E : zE) (d : Nat) (I : Nat → Nat → Int32) (J : Nat → Nat → Int64) (w : Nat) (i : Int32) (hk : z_in i 5 = true) : z_cl E (d + 1) 41 [.ref 91, .int i] (161, I, J, RF w) = some (some (.int (I 105 i.toNatClampNeg)), 161, I, J, RF w) := by
  refine z_call (d := d + 0) (M := z_m41) rfl rfl ?_
  refine z_evG 4 (y := z_ild (z_ia E 161 (I, J, RF w) 105) i fun vv => z_go 6 [some (.ref 91), some (.int i)] [.int vv] 161 (I, J, RF w)) (fun _ => rfl) ?_
  refine z_evB (N := 5) (f := (I 105)) rfl hk ?_
  refine z_evL ?_
  refine z_evG 1 (y := some (.inr (some (.int ((I 105) (i).toNatClampNeg)), 161, I, J, RF w))) (fun _ => rfl) ?_
  exact z_evR rfl
set_option maxRecDepth 20000 in
/-- LampHouse$Plates.size -/
theorem x_plates_size (E : zE) (d : Nat) (I : Nat → Nat → Int32) (J : Nat → Nat → Int64) (w : Nat) : z_cl E (d + 1) 47 [.ref 106] (161, I, J, RF w) = some (some (.int (I 106 6)), 161, I, J, RF w) := by
  refine z_call (d := d + 0) (M := z_m47) rfl rfl ?_
  refine z_evG 3 (y := some (.inr (some (.int (I 106 6)), 161, I, J, RF w))) (fun _ => rfl) ?_
  exact z_evR rfl
set_option maxRecDepth 20000 in
/-- LampHouse$Plates.isFull -/
theorem x_plates_isFull (E : zE) (d : Nat) (I : Nat → Nat → Int32) (J : Nat → Nat → Int64) (w : Nat) : z_cl E (d + 1) 48 [.ref 106] (161, I, J, RF w) = some (some (.int (z_bo (¬ I 106 6 < 10))), 161, I, J, RF w) := by
  refine z_call (d := d + 0) (M := z_m48) rfl rfl ?_
  refine z_evG 4 (y := if (I 106 6) < 10 then z_go 13 [some (.ref 106)] [] 161 (I, J, RF w) else z_go 9 [some (.ref 106)] [] 161 (I, J, RF w)) (fun _ => rfl) ?_
  refine z_evI (fun h1 => ?_) (fun h1 => ?_)
  · refine z_evL ?_
    refine z_evG 2 (y := some (.inr (some (.int 0), 161, I, J, RF w))) (fun _ => rfl) ?_
    exact z_evR (by simp [z_bo, h1])
  · refine z_evL ?_
    refine z_evG 3 (y := some (.inr (some (.int 1), 161, I, J, RF w))) (fun _ => rfl) ?_
    exact z_evR (by simp [z_bo, h1])
set_option maxRecDepth 20000 in
/-- LampHouse$Filters.size -/
theorem x_filters_size (E : zE) (d : Nat) (I : Nat → Nat → Int32) (J : Nat → Nat → Int64) (w : Nat) : z_cl E (d + 1) 25 [.ref 110] (161, I, J, RF w) = some (some (.int (I 110 2)), 161, I, J, RF w) := by
  refine z_call (d := d + 0) (M := z_m25) rfl rfl ?_
  refine z_evG 3 (y := some (.inr (some (.int (I 110 2)), 161, I, J, RF w))) (fun _ => rfl) ?_
  exact z_evR rfl
set_option maxRecDepth 20000 in
/-- LampHouse$Filters.isFull -/
theorem x_filters_isFull (E : zE) (d : Nat) (I : Nat → Nat → Int32) (J : Nat → Nat → Int64) (w : Nat) : z_cl E (d + 1) 26 [.ref 110] (161, I, J, RF w) = some (some (.int (z_bo (¬ I 110 2 < 4))), 161, I, J, RF w) := by
  refine z_call (d := d + 0) (M := z_m26) rfl rfl ?_
  refine z_evG 4 (y := if (I 110 2) < 4 then z_go 12 [some (.ref 110)] [] 161 (I, J, RF w) else z_go 8 [some (.ref 110)] [] 161 (I, J, RF w)) (fun _ => rfl) ?_
  refine z_evI (fun h1 => ?_) (fun h1 => ?_)
  · refine z_evL ?_
    refine z_evG 2 (y := some (.inr (some (.int 0), 161, I, J, RF w))) (fun _ => rfl) ?_
    exact z_evR (by simp [z_bo, h1])
  · refine z_evL ?_
    refine z_evG 3 (y := some (.inr (some (.int 1), 161, I, J, RF w))) (fun _ => rfl) ?_
    exact z_evR (by simp [z_bo, h1])
set_option maxRecDepth 20000 in
/-- LampHouse$Filters.leastOf -/
theorem x_filters_leastOf (E : zE) (d : Nat) (I : Nat → Nat → Int32) (J : Nat → Nat → Int64) (w : Nat) (i : Int32) (hk : z_in i 8 = true) : z_cl E (d + 1) 29 [.ref 110, .int i] (161, I, J, RF w) = some (some (.int (I 115 i.toNatClampNeg)), 161, I, J, RF w) := by
  refine z_call (d := d + 0) (M := z_m29) rfl rfl ?_
  refine z_evG 4 (y := z_ild (z_ia E 161 (I, J, RF w) 115) i fun vv => z_go 6 [some (.ref 110), some (.int i)] [.int vv] 161 (I, J, RF w)) (fun _ => rfl) ?_
  refine z_evB (N := 8) (f := (I 115)) rfl hk ?_
  refine z_evL ?_
  refine z_evG 1 (y := some (.inr (some (.int ((I 115) (i).toNatClampNeg)), 161, I, J, RF w))) (fun _ => rfl) ?_
  exact z_evR rfl
set_option maxRecDepth 20000 in
/-- LampHouse$Filters.mostOf -/
theorem x_filters_mostOf (E : zE) (d : Nat) (I : Nat → Nat → Int32) (J : Nat → Nat → Int64) (w : Nat) (i : Int32) (hk : z_in i 8 = true) : z_cl E (d + 1) 30 [.ref 110, .int i] (161, I, J, RF w) = some (some (.int (I 116 i.toNatClampNeg)), 161, I, J, RF w) := by
  refine z_call (d := d + 0) (M := z_m30) rfl rfl ?_
  refine z_evG 4 (y := z_ild (z_ia E 161 (I, J, RF w) 116) i fun vv => z_go 6 [some (.ref 110), some (.int i)] [.int vv] 161 (I, J, RF w)) (fun _ => rfl) ?_
  refine z_evB (N := 8) (f := (I 116)) rfl hk ?_
  refine z_evL ?_
  refine z_evG 1 (y := some (.inr (some (.int ((I 116) (i).toNatClampNeg)), 161, I, J, RF w))) (fun _ => rfl) ?_
  exact z_evR rfl
set_option maxRecDepth 20000 in
/-- LampHouse$Filters.digit -/
theorem x_digit (E : zE) (d : Nat) (I : Nat → Nat → Int32) (J : Nat → Nat → Int64) (w : Nat) (h i : Int32) : z_cl E (d + 1) 35 [.int h, .int i] (161, I, J, RF w) = some (some (.int ((h >>> ((2 * i) &&& 31)) &&& 3)), 161, I, J, RF w) := by
  refine z_call (d := d + 0) (M := z_m35) rfl rfl ?_
  refine z_evG 8 (y := some (.inr (some (.int ((h >>> ((2 * i) &&& 31)) &&& 3)), 161, I, J, RF w))) (fun _ => rfl) ?_
  exact z_evR rfl
set_option maxRecDepth 20000 in
/-- LampHouse$Sheets.isPlace -/
theorem x_isPlace (E : zE) (d : Nat) (I : Nat → Nat → Int32) (J : Nat → Nat → Int64) (w : Nat) (i : Int32) : z_cl E (d + 1) 95 [.int i] (161, I, J, RF w) = some (some (.int (z_bo (¬ i < 0 ∧ i < 4))), 161, I, J, RF w) := by
  refine z_call (d := d + 0) (M := z_m95) rfl rfl ?_
  refine z_evG 2 (y := if i < 0 then z_go 13 [some (.int i)] [] 161 (I, J, RF w) else z_go 4 [some (.int i)] [] 161 (I, J, RF w)) (fun _ => rfl) ?_
  refine z_evI (fun h1 => ?_) (fun h1 => ?_)
  · refine z_evL ?_
    refine z_evG 2 (y := some (.inr (some (.int 0), 161, I, J, RF w))) (fun _ => rfl) ?_
    exact z_evR (by simp [z_bo, h1])
  · refine z_evL ?_
    refine z_evG 3 (y := if i < 4 then z_go 9 [some (.int i)] [] 161 (I, J, RF w) else z_go 13 [some (.int i)] [] 161 (I, J, RF w)) (fun _ => rfl) ?_
    refine z_evI (fun h2 => ?_) (fun h2 => ?_)
    · refine z_evL ?_
      refine z_evG 3 (y := some (.inr (some (.int 1), 161, I, J, RF w))) (fun _ => rfl) ?_
      exact z_evR (by simp [z_bo, h1, h2])
    · refine z_evL ?_
      refine z_evG 2 (y := some (.inr (some (.int 0), 161, I, J, RF w))) (fun _ => rfl) ?_
      exact z_evR (by simp [z_bo, h1, h2])
set_option maxRecDepth 20000 in
/-- LampHouse$Sheets.isSort -/
theorem x_isSort (E : zE) (d : Nat) (I : Nat → Nat → Int32) (J : Nat → Nat → Int64) (w : Nat) (i : Int32) : z_cl E (d + 1) 96 [.int i] (161, I, J, RF w) = some (some (.int (z_bo (¬ i < 0 ∧ ¬ 2 < i))), 161, I, J, RF w) := by
  refine z_call (d := d + 0) (M := z_m96) rfl rfl ?_
  refine z_evG 2 (y := if i < 0 then z_go 13 [some (.int i)] [] 161 (I, J, RF w) else z_go 4 [some (.int i)] [] 161 (I, J, RF w)) (fun _ => rfl) ?_
  refine z_evI (fun h1 => ?_) (fun h1 => ?_)
  · refine z_evL ?_
    refine z_evG 2 (y := some (.inr (some (.int 0), 161, I, J, RF w))) (fun _ => rfl) ?_
    exact z_evR (by simp [z_bo, h1])
  · refine z_evL ?_
    refine z_evG 3 (y := if 2 < i then z_go 13 [some (.int i)] [] 161 (I, J, RF w) else z_go 9 [some (.int i)] [] 161 (I, J, RF w)) (fun _ => rfl) ?_
    refine z_evI (fun h2 => ?_) (fun h2 => ?_)
    · refine z_evL ?_
      refine z_evG 2 (y := some (.inr (some (.int 0), 161, I, J, RF w))) (fun _ => rfl) ?_
      exact z_evR (by simp [z_bo, h1, h2])
    · refine z_evL ?_
      refine z_evG 3 (y := some (.inr (some (.int 1), 161, I, J, RF w))) (fun _ => rfl) ?_
      exact z_evR (by simp [z_bo, h1, h2])
set_option maxRecDepth 20000 in
/-- LampHouse$Sheets.isMissing -/
theorem x_sheets_isMissing (E : zE) (d : Nat) (I : Nat → Nat → Int32) (J : Nat → Nat → Int64) (w : Nat) (i : Int32) (hk : z_in i 4 = true) : z_cl E (d + 1) 97 [.ref 117, .int i] (161, I, J, RF w) = some (some (.int (z_bo (I 123 i.toNatClampNeg = (-1)))), 161, I, J, RF w) := by
  refine z_call (d := d + 0) (M := z_m97) rfl rfl ?_
  refine z_evG 4 (y := z_ild (z_ia E 161 (I, J, RF w) 123) i fun vv => z_go 6 [some (.ref 117), some (.int i)] [.int vv] 161 (I, J, RF w)) (fun _ => rfl) ?_
  refine z_evB (N := 4) (f := (I 123)) rfl hk ?_
  refine z_evL ?_
  refine z_evG 2 (y := if ((I 123) (i).toNatClampNeg) = (-1) then z_go 10 [some (.ref 117), some (.int i)] [] 161 (I, J, RF w) else z_go 14 [some (.ref 117), some (.int i)] [] 161 (I, J, RF w)) (fun _ => rfl) ?_
  refine z_evI (fun h1 => ?_) (fun h1 => ?_)
  · refine z_evL ?_
    refine z_evG 3 (y := some (.inr (some (.int 1), 161, I, J, RF w))) (fun _ => rfl) ?_
    exact z_evR (by simp [z_bo, h1])
  · refine z_evL ?_
    refine z_evG 2 (y := some (.inr (some (.int 0), 161, I, J, RF w))) (fun _ => rfl) ?_
    exact z_evR (by simp [z_bo, h1])
set_option maxRecDepth 20000 in
/-- LampHouse$Sheets.sortOf -/
theorem x_sheets_sortOf (E : zE) (d : Nat) (I : Nat → Nat → Int32) (J : Nat → Nat → Int64) (w : Nat) (i : Int32) (hk : z_in i 4 = true) : z_cl E (d + 1) 98 [.ref 117, .int i] (161, I, J, RF w) = some (some (.int (I 123 i.toNatClampNeg)), 161, I, J, RF w) := by
  refine z_call (d := d + 0) (M := z_m98) rfl rfl ?_
  refine z_evG 4 (y := z_ild (z_ia E 161 (I, J, RF w) 123) i fun vv => z_go 6 [some (.ref 117), some (.int i)] [.int vv] 161 (I, J, RF w)) (fun _ => rfl) ?_
  refine z_evB (N := 4) (f := (I 123)) rfl hk ?_
  refine z_evL ?_
  refine z_evG 1 (y := some (.inr (some (.int ((I 123) (i).toNatClampNeg)), 161, I, J, RF w))) (fun _ => rfl) ?_
  exact z_evR rfl
set_option maxRecDepth 20000 in
/-- LampHouse$Sheets.get -/
theorem x_sheets_get (E : zE) (d : Nat) (I : Nat → Nat → Int32) (J : Nat → Nat → Int64) (w : Nat) (i : Int32) (hk : z_in i 4 = true) : z_cl E (d + 1) 99 [.ref 117, .int i] (161, I, J, RF w) = some (some (.ref (119 + i.toNatClampNeg)), 161, I, J, RF w) := by
  refine z_call (d := d + 0) (M := z_m99) rfl rfl ?_
  refine z_evG 4 (y := z_ck (z_in i 4) (z_go 6 [some (.ref 117), some (.int i)] [.ref (119 + (i).toNatClampNeg)] 161 (I, J, RF w))) (fun _ => rfl) ?_
  refine z_evC hk ?_
  refine z_evL ?_
  refine z_evG 1 (y := some (.inr (some (.ref (119 + (i).toNatClampNeg)), 161, I, J, RF w))) (fun _ => rfl) ?_
  exact z_evR rfl
set_option maxRecDepth 20000 in
/-- LampHouse$Sheets.holds -/
theorem x_sheets_holds (E : zE) (d : Nat) (I : Nat → Nat → Int32) (J : Nat → Nat → Int64) (w : Nat) (i f n : Int32) (hk : z_in i 4 = true) : z_cl E (d + 1) 100 [.ref 117, .int i, .int f, .int n] (161, I, J, RF w) = some (some (.int (z_bo (¬ f < 0 ∧ ¬ n < 0 ∧ ¬ I 124 i.toNatClampNeg < f ∧ ¬ I 124 i.toNatClampNeg - f < n))), 161, I, J, RF w) := by
  refine z_call (d := d + 0) (M := z_m100) rfl rfl ?_
  refine z_evG 2 (y := if f < 0 then z_go 34 [some (.ref 117), some (.int i), some (.int f), some (.int n)] [] 161 (I, J, RF w) else z_go 4 [some (.ref 117), some (.int i), some (.int f), some (.int n)] [] 161 (I, J, RF w)) (fun _ => rfl) ?_
  refine z_evI (fun h1 => ?_) (fun h1 => ?_)
  · refine z_evL ?_
    refine z_evG 2 (y := some (.inr (some (.int 0), 161, I, J, RF w))) (fun _ => rfl) ?_
    exact z_evR (by simp [z_bo, h1])
  · refine z_evL ?_
    refine z_evG 2 (y := if n < 0 then z_go 34 [some (.ref 117), some (.int i), some (.int f), some (.int n)] [] 161 (I, J, RF w) else z_go 8 [some (.ref 117), some (.int i), some (.int f), some (.int n)] [] 161 (I, J, RF w)) (fun _ => rfl) ?_
    refine z_evI (fun h2 => ?_) (fun h2 => ?_)
    · refine z_evL ?_
      refine z_evG 2 (y := some (.inr (some (.int 0), 161, I, J, RF w))) (fun _ => rfl) ?_
      exact z_evR (by simp [z_bo, h1, h2])
    · refine z_evL ?_
      refine z_evG 5 (y := z_ild (z_ia E 161 (I, J, RF w) 124) i fun vv => z_go 15 [some (.ref 117), some (.int i), some (.int f), some (.int n)] [.int vv, .int f] 161 (I, J, RF w)) (fun _ => rfl) ?_
      refine z_evB (N := 4) (f := (I 124)) rfl hk ?_
      refine z_evL ?_
      refine z_evG 1 (y := if ((I 124) (i).toNatClampNeg) < f then z_go 34 [some (.ref 117), some (.int i), some (.int f), some (.int n)] [] 161 (I, J, RF w) else z_go 18 [some (.ref 117), some (.int i), some (.int f), some (.int n)] [] 161 (I, J, RF w)) (fun _ => rfl) ?_
      refine z_evI (fun h3 => ?_) (fun h3 => ?_)
      · refine z_evL ?_
        refine z_evG 2 (y := some (.inr (some (.int 0), 161, I, J, RF w))) (fun _ => rfl) ?_
        exact z_evR (by simp [z_bo, h1, h2, h3])
      · refine z_evL ?_
        refine z_evG 5 (y := z_ild (z_ia E 161 (I, J, RF w) 124) i fun vv => z_go 25 [some (.ref 117), some (.int i), some (.int f), some (.int n)] [.int vv, .int n] 161 (I, J, RF w)) (fun _ => rfl) ?_
        refine z_evB (N := 4) (f := (I 124)) rfl hk ?_
        refine z_evL ?_
        refine z_evG 3 (y := if (((I 124) (i).toNatClampNeg) - f) < n then z_go 34 [some (.ref 117), some (.int i), some (.int f), some (.int n)] [] 161 (I, J, RF w) else z_go 30 [some (.ref 117), some (.int i), some (.int f), some (.int n)] [] 161 (I, J, RF w)) (fun _ => rfl) ?_
        refine z_evI (fun h4 => ?_) (fun h4 => ?_)
        · refine z_evL ?_
          refine z_evG 2 (y := some (.inr (some (.int 0), 161, I, J, RF w))) (fun _ => rfl) ?_
          exact z_evR (by simp [z_bo, h1, h2, h3, h4])
        · refine z_evL ?_
          refine z_evG 3 (y := some (.inr (some (.int 1), 161, I, J, RF w))) (fun _ => rfl) ?_
          exact z_evR (by simp [z_bo, h1, h2, h3, h4])
set_option maxRecDepth 20000 in
/-- LampHouse$Sheets.remove -/
theorem x_sheets_remove (E : zE) (d : Nat) (I : Nat → Nat → Int32) (J : Nat → Nat → Int64) (w : Nat) (i : Int32) (hk : z_in i 4 = true) : z_cl E (d + 1) 101 [.ref 117, .int i] (161, I, J, RF w) = some (some (.int 1), 161, (z_u2 I 123 i.toNatClampNeg (-1)), J, RF w) := by
  refine z_call (d := d + 0) (M := z_m101) rfl rfl ?_
  refine z_evG 5 (y := z_ck (z_in i 4) (z_go 7 [some (.ref 117), some (.int i)] [] 161 ((z_u2 I 123 ((i).toNatClampNeg) (-1)), J, RF w))) (fun _ => rfl) ?_
  refine z_evC hk ?_
  refine z_evL ?_
  refine z_evG 2 (y := some (.inr (some (.int 1), 161, (z_u2 I 123 ((i).toNatClampNeg) (-1)), J, RF w))) (fun _ => rfl) ?_
  exact z_evR rfl
