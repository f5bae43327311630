-- THE REFERENCE: leaves, eyes
theorem z_plt {m i : Int32} {n k : Nat} (hm : m = nI n) (hi : i = nI k) (hk : k < n) (hn : n < 2 ^ 31) : ¬ m - 1 < i := by
  subst hm hi
  rw [Int32.lt_iff_toInt_lt, z_toInt_pred hn, nI_toInt (by omega)]
  omega
theorem z_nneg {i m : Int32} {k : Nat} (hi : i = nI k) (hk : k < 2 ^ 31) (hm : m < 0) : ¬ i = m := by
  intro h
  rw [← h, hi] at hm
  exact nI_pos hk hm
theorem z_hsK {i m : Int32} {n : Nat} (hm : m = nI n) (hn : n < 2 ^ 31) : (¬ i < 0 ∧ ¬ m < i) ↔ z_hs i (n + 1) := by
  subst hm
  rw [Int32.lt_iff_toInt_lt, Int32.lt_iff_toInt_lt, nI_toInt hn]
  simp
  omega
set_option maxRecDepth 20000 in
/-- LampHouseModel.in -/
theorem m_in (E : zE) (d : Nat) (I : Nat → Nat → Int32) (J : Nat → Nat → Int64) (w : Nat) (v lo hi : Int32) : z_cl E (d + 1) 178 [.int v, .int lo, .int hi] (161, I, J, RF w) = some (some (.int (z_bo (¬ v < lo ∧ ¬ hi < v))), 161, I, J, RF w) := by
  refine z_call (d := d + 0) (M := z_m178) rfl rfl ?_
  refine z_evG 3 (y := if v < lo then z_go 14 [some (.int v), some (.int lo), some (.int hi)] [] 161 (I, J, RF w) else z_go 5 [some (.int v), some (.int lo), some (.int hi)] [] 161 (I, J, RF w)) (fun _ => rfl) ?_
  refine z_evI (fun h1 => ?_) (fun h1 => ?_)
  · refine z_evL ?_
    refine z_evG 2 (y := some (.inr (some (.int 0), 161, I, J, RF w))) (fun _ => rfl) ?_
    exact z_evR (by simp [z_bo, h1])
  · refine z_evL ?_
    refine z_evG 3 (y := if hi < v then z_go 14 [some (.int v), some (.int lo), some (.int hi)] [] 161 (I, J, RF w) else z_go 10 [some (.int v), some (.int lo), some (.int hi)] [] 161 (I, J, RF w)) (fun _ => rfl) ?_
    refine z_evI (fun h2 => ?_) (fun h2 => ?_)
    · refine z_evL ?_
      refine z_evG 2 (y := some (.inr (some (.int 0), 161, I, J, RF w))) (fun _ => rfl) ?_
      exact z_evR (by simp [z_bo, h1, h2])
    · refine z_evL ?_
      refine z_evG 3 (y := some (.inr (some (.int 1), 161, I, J, RF w))) (fun _ => rfl) ?_
      exact z_evR (by simp [z_bo, h1, h2])
set_option maxRecDepth 20000 in
/-- LampHouseModel.isFour -/
theorem m_isFour (E : zE) (d : Nat) (I : Nat → Nat → Int32) (J : Nat → Nat → Int64) (w : Nat) (v : Int64) : z_cl E (d + 1) 180 [.long v] (161, I, J, RF w) = some (some (.int (z_bo (¬ v < 0 ∧ v < 1000000000000))), 161, I, J, RF w) := by
  refine z_call (d := d + 0) (M := z_m180) rfl rfl ?_
  refine z_evG 4 (y := if (lg_cmp v 0) < 0 then z_go 18 [some (.long v), none] [] 161 (I, J, RF w) else z_go 6 [some (.long v), none] [] 161 (I, J, RF w)) (fun _ => rfl) ?_
  refine z_evIN (lg_cmp_lt _ _) (fun h1 => ?_) (fun h1 => ?_)
  · refine z_evL ?_
    refine z_evG 2 (y := some (.inr (some (.int 0), 161, I, J, RF w))) (fun _ => rfl) ?_
    exact z_evR (by simp [z_bo, h1])
  · refine z_evL ?_
    refine z_evG 4 (y := if (lg_cmp v 1000000000000) < 0 then z_go 14 [some (.long v), none] [] 161 (I, J, RF w) else z_go 18 [some (.long v), none] [] 161 (I, J, RF w)) (fun _ => rfl) ?_
    refine z_evIN (lg_cmp_lt _ _) (fun h2 => ?_) (fun h2 => ?_)
    · refine z_evL ?_
      refine z_evG 3 (y := some (.inr (some (.int 1), 161, I, J, RF w))) (fun _ => rfl) ?_
      exact z_evR (by simp [z_bo, h1, h2])
    · refine z_evL ?_
      refine z_evG 2 (y := some (.inr (some (.int 0), 161, I, J, RF w))) (fun _ => rfl) ?_
      exact z_evR (by simp [z_bo, h1, h2])
set_option maxRecDepth 20000 in
/-- LampHouseModel.isRow -/
theorem m_isRow (E : zE) (d : Nat) (I : Nat → Nat → Int32) (J : Nat → Nat → Int64) (w : Nat) (i : Int32) : z_cl E (d + 2) 182 [.ref 127, .int i] (161, I, J, RF w) = some (some (.int (z_bo (¬ i < 0 ∧ ¬ I 127 1 - 1 < i))), 161, I, J, RF w) := by
  refine z_call (d := d + 1) (M := z_m182) rfl rfl ?_
  refine z_evG 7 (y := z_ret (z_cl E (d + 1) 178 [.int i, .int 0, .int ((I 127 1) - 1)] (161, (I, J, RF w))) 11 [some (.ref 127), some (.int i)] []) (fun _ => rfl) ?_
  refine z_evK (v := .int (z_bo (¬ i < 0 ∧ ¬ ((I 127 1) - 1) < i))) (z' := 161) (σ' := (I, J, RF w)) (m_in E d I J w i 0 ((I 127 1) - 1)) ?_
  refine z_evG 1 (y := z_ck (z_b01 (z_bo (¬ i < 0 ∧ ¬ ((I 127 1) - 1) < i))) (some (.inr (some (.int (z_bo (¬ i < 0 ∧ ¬ ((I 127 1) - 1) < i))), 161, I, J, RF w)))) (fun _ => rfl) ?_
  refine z_evC (z_b01o _) ?_
  exact z_evR rfl
set_option maxRecDepth 20000 in
/-- LampHouseModel.isThing -/
theorem m_isThing (E : zE) (d : Nat) (I : Nat → Nat → Int32) (J : Nat → Nat → Int64) (w : Nat) (i : Int32) : z_cl E (d + 2) 183 [.ref 127, .int i] (161, I, J, RF w) = some (some (.int (z_bo (¬ i < 0 ∧ ¬ I 127 3 - 1 < i))), 161, I, J, RF w) := by
  refine z_call (d := d + 1) (M := z_m183) rfl rfl ?_
  refine z_evG 7 (y := z_ret (z_cl E (d + 1) 178 [.int i, .int 0, .int ((I 127 3) - 1)] (161, (I, J, RF w))) 11 [some (.ref 127), some (.int i)] []) (fun _ => rfl) ?_
  refine z_evK (v := .int (z_bo (¬ i < 0 ∧ ¬ ((I 127 3) - 1) < i))) (z' := 161) (σ' := (I, J, RF w)) (m_in E d I J w i 0 ((I 127 3) - 1)) ?_
  refine z_evG 1 (y := z_ck (z_b01 (z_bo (¬ i < 0 ∧ ¬ ((I 127 3) - 1) < i))) (some (.inr (some (.int (z_bo (¬ i < 0 ∧ ¬ ((I 127 3) - 1) < i))), 161, I, J, RF w)))) (fun _ => rfl) ?_
  refine z_evC (z_b01o _) ?_
  exact z_evR rfl
set_option maxRecDepth 20000 in
/-- LampHouseModel.isLight -/
theorem m_isLight (E : zE) (d : Nat) (I : Nat → Nat → Int32) (J : Nat → Nat → Int64) (w : Nat) (i : Int32) : z_cl E (d + 2) 184 [.ref 127, .int i] (161, I, J, RF w) = some (some (.int (z_bo (¬ i < 0 ∧ ¬ I 127 9 - 1 < i))), 161, I, J, RF w) := by
  refine z_call (d := d + 1) (M := z_m184) rfl rfl ?_
  refine z_evG 7 (y := z_ret (z_cl E (d + 1) 178 [.int i, .int 0, .int ((I 127 9) - 1)] (161, (I, J, RF w))) 11 [some (.ref 127), some (.int i)] []) (fun _ => rfl) ?_
  refine z_evK (v := .int (z_bo (¬ i < 0 ∧ ¬ ((I 127 9) - 1) < i))) (z' := 161) (σ' := (I, J, RF w)) (m_in E d I J w i 0 ((I 127 9) - 1)) ?_
  refine z_evG 1 (y := z_ck (z_b01 (z_bo (¬ i < 0 ∧ ¬ ((I 127 9) - 1) < i))) (some (.inr (some (.int (z_bo (¬ i < 0 ∧ ¬ ((I 127 9) - 1) < i))), 161, I, J, RF w)))) (fun _ => rfl) ?_
  refine z_evC (z_b01o _) ?_
  exact z_evR rfl
set_option maxRecDepth 20000 in
/-- LampHouseModel.isEye -/
theorem m_isEye (E : zE) (d : Nat) (I : Nat → Nat → Int32) (J : Nat → Nat → Int64) (w : Nat) (i : Int32) : z_cl E (d + 2) 185 [.ref 127, .int i] (161, I, J, RF w) = some (some (.int (z_bo (¬ i < 0 ∧ ¬ I 127 11 - 1 < i))), 161, I, J, RF w) := by
  refine z_call (d := d + 1) (M := z_m185) rfl rfl ?_
  refine z_evG 7 (y := z_ret (z_cl E (d + 1) 178 [.int i, .int 0, .int ((I 127 11) - 1)] (161, (I, J, RF w))) 11 [some (.ref 127), some (.int i)] []) (fun _ => rfl) ?_
  refine z_evK (v := .int (z_bo (¬ i < 0 ∧ ¬ ((I 127 11) - 1) < i))) (z' := 161) (σ' := (I, J, RF w)) (m_in E d I J w i 0 ((I 127 11) - 1)) ?_
  refine z_evG 1 (y := z_ck (z_b01 (z_bo (¬ i < 0 ∧ ¬ ((I 127 11) - 1) < i))) (some (.inr (some (.int (z_bo (¬ i < 0 ∧ ¬ ((I 127 11) - 1) < i))), 161, I, J, RF w)))) (fun _ => rfl) ?_
  refine z_evC (z_b01o _) ?_
  exact z_evR rfl
set_option maxRecDepth 20000 in
/-- LampHouseModel.isSheet -/
theorem m_isSheet (E : zE) (d : Nat) (I : Nat → Nat → Int32) (J : Nat → Nat → Int64) (w : Nat) (i : Int32) : z_cl E (d + 2) 247 [.int i] (161, I, J, RF w) = some (some (.int (z_bo (¬ i < 0 ∧ ¬ 3 < i))), 161, I, J, RF w) := by
  refine z_call (d := d + 1) (M := z_m247) rfl rfl ?_
  refine z_evG 4 (y := z_ret (z_cl E (d + 1) 178 [.int i, .int 0, .int 3] (161, (I, J, RF w))) 6 [some (.int i)] []) (fun _ => rfl) ?_
  refine z_evK (v := .int (z_bo (¬ i < 0 ∧ ¬ 3 < i))) (z' := 161) (σ' := (I, J, RF w)) (m_in E d I J w i 0 3) ?_
  refine z_evG 1 (y := z_ck (z_b01 (z_bo (¬ i < 0 ∧ ¬ 3 < i))) (some (.inr (some (.int (z_bo (¬ i < 0 ∧ ¬ 3 < i))), 161, I, J, RF w)))) (fun _ => rfl) ?_
  refine z_evC (z_b01o _) ?_
  exact z_evR rfl
set_option maxRecDepth 20000 in
/-- LampHouseModel.isFilm -/
theorem m_isFilm (E : zE) (d : Nat) (I : Nat → Nat → Int32) (J : Nat → Nat → Int64) (w : Nat) (n s v : Int32) : z_cl E (d + 2) 238 [.int n, .int s, .int v] (161, I, J, RF w) = some (some (.int (z_bo ((¬ n < 1 ∧ ¬ 16 < n) ∧ (¬ s < 0 ∧ ¬ 15 < s) ∧ (¬ v < 1 ∧ ¬ 16 < v)))), 161, I, J, RF w) := by
  refine z_call (d := d + 1) (M := z_m238) rfl rfl ?_
  refine z_evG 4 (y := z_ret (z_cl E (d + 1) 178 [.int n, .int 1, .int 16] (161, (I, J, RF w))) 7 [some (.int n), some (.int s), some (.int v)] []) (fun _ => rfl) ?_
  refine z_evK (v := .int (z_bo (¬ n < 1 ∧ ¬ 16 < n))) (z' := 161) (σ' := (I, J, RF w)) (m_in E d I J w n 1 16) ?_
  refine z_evG 1 (y := if (z_bo (¬ n < 1 ∧ ¬ 16 < n)) = 0 then z_go 34 [some (.int n), some (.int s), some (.int v)] [] 161 (I, J, RF w) else z_go 10 [some (.int n), some (.int s), some (.int v)] [] 161 (I, J, RF w)) (fun _ => rfl) ?_
  refine z_evO (fun h1 => ?_) (fun h1 => ?_)
  · refine z_evL ?_
    refine z_evG 2 (y := some (.inr (some (.int 0), 161, I, J, RF w))) (fun _ => rfl) ?_
    exact z_evR (by simp only [z_bo, h1, and_true, true_and, and_false, false_and, not_true, not_false_iff, if_true, if_false, and_self, reduceIte])
  · refine z_evL ?_
    refine z_evG 4 (y := z_ret (z_cl E (d + 1) 178 [.int s, .int 0, .int 15] (161, (I, J, RF w))) 17 [some (.int n), some (.int s), some (.int v)] []) (fun _ => rfl) ?_
    refine z_evK (v := .int (z_bo (¬ s < 0 ∧ ¬ 15 < s))) (z' := 161) (σ' := (I, J, RF w)) (m_in E d I J w s 0 15) ?_
    refine z_evG 1 (y := if (z_bo (¬ s < 0 ∧ ¬ 15 < s)) = 0 then z_go 34 [some (.int n), some (.int s), some (.int v)] [] 161 (I, J, RF w) else z_go 20 [some (.int n), some (.int s), some (.int v)] [] 161 (I, J, RF w)) (fun _ => rfl) ?_
    refine z_evO (fun h2 => ?_) (fun h2 => ?_)
    · refine z_evL ?_
      refine z_evG 2 (y := some (.inr (some (.int 0), 161, I, J, RF w))) (fun _ => rfl) ?_
      exact z_evR (by simp only [z_bo, h1, h2, and_true, true_and, and_false, false_and, not_true, not_false_iff, if_true, if_false, and_self, reduceIte])
    · refine z_evL ?_
      refine z_evG 4 (y := z_ret (z_cl E (d + 1) 178 [.int v, .int 1, .int 16] (161, (I, J, RF w))) 27 [some (.int n), some (.int s), some (.int v)] []) (fun _ => rfl) ?_
      refine z_evK (v := .int (z_bo (¬ v < 1 ∧ ¬ 16 < v))) (z' := 161) (σ' := (I, J, RF w)) (m_in E d I J w v 1 16) ?_
      refine z_evG 1 (y := if (z_bo (¬ v < 1 ∧ ¬ 16 < v)) = 0 then z_go 34 [some (.int n), some (.int s), some (.int v)] [] 161 (I, J, RF w) else z_go 30 [some (.int n), some (.int s), some (.int v)] [] 161 (I, J, RF w)) (fun _ => rfl) ?_
      refine z_evO (fun h3 => ?_) (fun h3 => ?_)
      · refine z_evL ?_
        refine z_evG 2 (y := some (.inr (some (.int 0), 161, I, J, RF w))) (fun _ => rfl) ?_
        exact z_evR (by simp only [z_bo, h1, h2, h3, and_true, true_and, and_false, false_and, not_true, not_false_iff, if_true, if_false, and_self, reduceIte])
      · refine z_evL ?_
        refine z_evG 3 (y := some (.inr (some (.int 1), 161, I, J, RF w))) (fun _ => rfl) ?_
        exact z_evR (by simp only [z_bo, h1, h2, h3, and_true, true_and, and_false, false_and, not_true, not_false_iff, if_true, if_false, and_self, reduceIte])
set_option maxRecDepth 20000 in
/-- LampHouseModel.apart -/
theorem m_apart (E : zE) (d : Nat) (I : Nat → Nat → Int32) (J : Nat → Nat → Int64) (w : Nat) (a b : Int64) : z_cl E (d + 1) 217 [.long a, .long b] (161, I, J, RF w) = some (some (.int (if 1000000 < (if a < b then b - a else a - b) / 1000 then 1000000 else ((if a < b then b - a else a - b) / 1000).toInt32)), 161, I, J, RF w) := by
  refine z_call (d := d + 0) (M := z_m217) rfl rfl ?_
  refine z_evG 4 (y := if (lg_cmp a b) < 0 then z_go 6 [some (.long a), none, some (.long b), none, none, none] [] 161 (I, J, RF w) else z_go 12 [some (.long a), none, some (.long b), none, none, none] [] 161 (I, J, RF w)) (fun _ => rfl) ?_
  refine z_evIN (lg_cmp_lt _ _) (fun h1 => ?_) (fun h1 => ?_)
  · refine z_evL ?_
    refine z_evG 6 (y := z_ck (!decide ((1000 : Int64) = 0)) (z_go 19 [some (.long a), none, some (.long b), none, none, none] [.long ((b - a) / 1000)] 161 (I, J, RF w))) (fun _ => rfl) ?_
    refine z_evC (by decide) ?_
    refine z_evL ?_
    refine z_evG 5 (y := if 0 < (lg_cmp ((b - a) / 1000) 1000000) then z_go 30 [some (.long a), none, some (.long b), none, some (.long ((b - a) / 1000)), none] [] 161 (I, J, RF w) else z_go 36 [some (.long a), none, some (.long b), none, some (.long ((b - a) / 1000)), none] [] 161 (I, J, RF w)) (fun _ => rfl) ?_
    refine z_evIN (lg_cmp_gt _ _) (fun h2 => ?_) (fun h2 => ?_)
    · refine z_evL ?_
      refine z_evG 3 (y := some (.inr (some (.int 1000000), 161, I, J, RF w))) (fun _ => rfl) ?_
      exact z_evR (by simp [h1, h2])
    · refine z_evL ?_
      refine z_evG 3 (y := some (.inr (some (.int (((b - a) / 1000).toInt32)), 161, I, J, RF w))) (fun _ => rfl) ?_
      exact z_evR (by simp [h1, h2])
  · refine z_evL ?_
    refine z_evG 5 (y := z_ck (!decide ((1000 : Int64) = 0)) (z_go 19 [some (.long a), none, some (.long b), none, none, none] [.long ((a - b) / 1000)] 161 (I, J, RF w))) (fun _ => rfl) ?_
    refine z_evC (by decide) ?_
    refine z_evL ?_
    refine z_evG 5 (y := if 0 < (lg_cmp ((a - b) / 1000) 1000000) then z_go 30 [some (.long a), none, some (.long b), none, some (.long ((a - b) / 1000)), none] [] 161 (I, J, RF w) else z_go 36 [some (.long a), none, some (.long b), none, some (.long ((a - b) / 1000)), none] [] 161 (I, J, RF w)) (fun _ => rfl) ?_
    refine z_evIN (lg_cmp_gt _ _) (fun h3 => ?_) (fun h3 => ?_)
    · refine z_evL ?_
      refine z_evG 3 (y := some (.inr (some (.int 1000000), 161, I, J, RF w))) (fun _ => rfl) ?_
      exact z_evR (by simp [h1, h3])
    · refine z_evL ?_
      refine z_evG 3 (y := some (.inr (some (.int (((a - b) / 1000).toInt32)), 161, I, J, RF w))) (fun _ => rfl) ?_
      exact z_evR (by simp [h1, h3])
set_option maxRecDepth 20000 in
/-- LampHouseModel.seenBy -/
theorem m_seenBy (E : zE) (d : Nat) (I : Nat → Nat → Int32) (J : Nat → Nat → Int64) (w : Nat) (e t l r : Nat) (he : e < 8) (ht : t < 3) (hl : l < 24) (hr : I 135 (3 * e + t) = nI r) (hr3 : r < 30) : z_cl E (d + 1) 196 [.ref 127, .int (nI e), .int (nI t), .int (nI l)] (161, I, J, RF w) = some (some (.long (z_see (fun c => I 134 (8 * l + c)) (fun c => I 128 (8 * r + c)))), 161, I, J, RF w) := by
  refine z_call (d := d + 0) (M := z_m196) rfl rfl ?_
  refine z_evG 4 (y := z_go 6 [some (.ref 127), some (.int (nI e)), some (.int (nI t)), some (.int (nI l)), some (.long 0), none, some (.int 0)] [] 161 (I, J, RF w)) (fun _ => rfl) ?_
  refine z_evL ?_
  refine z_loop (F := fun k => ([some (.ref 127), some (.int (nI e)), some (.int (nI t)), some (.int (nI l)), some (.long (z_fo (fun c s => s + (I 134 (8 * l + c)).toInt64 * (I 128 (8 * r + c)).toInt64) 0 k)), none, some (.int (nI k))], (I, J, RF w))) (P := fun k => True) 8 trivial (fun hP => ?_) (fun k hk hP next => ?_)
  · show z_Ev E d z_m196 6 [some (.ref 127), some (.int (nI e)), some (.int (nI t)), some (.int (nI l)), some (.long (z_fo (fun c s => s + (I 134 (8 * l + c)).toInt64 * (I 128 (8 * r + c)).toInt64) 0 8)), none, some (.int (nI 8))] [] 161 (I, J, RF w) _
    refine z_evG 3 (y := if (nI 8) < 8 then z_go 13 [some (.ref 127), some (.int (nI e)), some (.int (nI t)), some (.int (nI l)), some (.long (z_fo (fun c s => s + (I 134 (8 * l + c)).toInt64 * (I 128 (8 * r + c)).toInt64) 0 8)), none, some (.int (nI 8))] [] 161 (I, J, RF w) else z_go 60 [some (.ref 127), some (.int (nI e)), some (.int (nI t)), some (.int (nI l)), some (.long (z_fo (fun c s => s + (I 134 (8 * l + c)).toInt64 * (I 128 (8 * r + c)).toInt64) 0 8)), none, some (.int (nI 8))] [] 161 (I, J, RF w)) (fun _ => rfl) ?_
    refine z_evF (mt (show _ ↔ 8 < 8 from z_ltN rfl rfl (by omega) (by omega)).mp (by omega)) ?_
    refine z_evL ?_
    refine z_evG 2 (y := some (.inr (some (.long (z_fo (fun c s => s + (I 134 (8 * l + c)).toInt64 * (I 128 (8 * r + c)).toInt64) 0 8)), 161, I, J, RF w))) (fun _ => rfl) ?_
    exact z_evR rfl
  · show z_Ev E d z_m196 6 [some (.ref 127), some (.int (nI e)), some (.int (nI t)), some (.int (nI l)), some (.long (z_fo (fun c s => s + (I 134 (8 * l + c)).toInt64 * (I 128 (8 * r + c)).toInt64) 0 k)), none, some (.int (nI k))] [] 161 (I, J, RF w) _
    have nx : (True) → z_Ev E d z_m196 6 [some (.ref 127), some (.int (nI e)), some (.int (nI t)), some (.int (nI l)), some (.long (z_fo (fun c s => s + (I 134 (8 * l + c)).toInt64 * (I 128 (8 * r + c)).toInt64) 0 (k + 1))), none, some (.int (nI (k + 1)))] [] 161 (I, J, RF w) _ := next
    refine z_evG 3 (y := if (nI k) < 8 then z_go 13 [some (.ref 127), some (.int (nI e)), some (.int (nI t)), some (.int (nI l)), some (.long (z_fo (fun c s => s + (I 134 (8 * l + c)).toInt64 * (I 128 (8 * r + c)).toInt64) 0 k)), none, some (.int (nI k))] [] 161 (I, J, RF w) else z_go 60 [some (.ref 127), some (.int (nI e)), some (.int (nI t)), some (.int (nI l)), some (.long (z_fo (fun c s => s + (I 134 (8 * l + c)).toInt64 * (I 128 (8 * r + c)).toInt64) 0 k)), none, some (.int (nI k))] [] 161 (I, J, RF w)) (fun _ => rfl) ?_
    refine z_evT ((show _ ↔ k < 8 from z_ltN rfl rfl (by omega) (by omega)).mpr (by omega)) ?_
    refine z_evL ?_
    refine z_evG 9 (y := z_ild (z_ia E 161 (I, J, RF w) 134) ((8 * (nI l)) + (nI k)) fun vv => z_go 27 [some (.ref 127), some (.int (nI e)), some (.int (nI t)), some (.int (nI l)), some (.long (z_fo (fun c s => s + (I 134 (8 * l + c)).toInt64 * (I 128 (8 * r + c)).toInt64) 0 k)), none, some (.int (nI k))] [.int vv, .long (z_fo (fun c s => s + (I 134 (8 * l + c)).toInt64 * (I 128 (8 * r + c)).toInt64) 0 k)] 161 (I, J, RF w)) (fun _ => rfl) ?_
    refine z_evBn (N := 192) (f := (I 134)) (k := (8 * l + k)) rfl (z_addE (z_mulE rfl rfl) rfl) (by omega) ?_
    refine z_evL ?_
    refine z_evG 12 (y := z_ild (z_ia E 161 (I, J, RF w) 135) ((3 * (nI e)) + (nI t)) fun vv => z_go 44 [some (.ref 127), some (.int (nI e)), some (.int (nI t)), some (.int (nI l)), some (.long (z_fo (fun c s => s + (I 134 (8 * l + c)).toInt64 * (I 128 (8 * r + c)).toInt64) 0 k)), none, some (.int (nI k))] [.int vv, .int 8, .ref 128, .long ((I 134 (8 * l + k)).toInt64), .long (z_fo (fun c s => s + (I 134 (8 * l + c)).toInt64 * (I 128 (8 * r + c)).toInt64) 0 k)] 161 (I, J, RF w)) (fun _ => rfl) ?_
    refine z_evBn (N := 24) (f := (I 135)) (k := (3 * e + t)) rfl (z_addE (z_mulE rfl rfl) rfl) (by omega) ?_
    refine z_evL ?_
    refine z_evG 4 (y := z_ild (z_ia E 161 (I, J, RF w) 128) ((8 * (I 135 (3 * e + t))) + (nI k)) fun vv => z_go 49 [some (.ref 127), some (.int (nI e)), some (.int (nI t)), some (.int (nI l)), some (.long (z_fo (fun c s => s + (I 134 (8 * l + c)).toInt64 * (I 128 (8 * r + c)).toInt64) 0 k)), none, some (.int (nI k))] [.int vv, .long ((I 134 (8 * l + k)).toInt64), .long (z_fo (fun c s => s + (I 134 (8 * l + c)).toInt64 * (I 128 (8 * r + c)).toInt64) 0 k)] 161 (I, J, RF w)) (fun _ => rfl) ?_
    refine z_evBn (N := 240) (f := (I 128)) (k := (8 * r + k)) rfl (z_addE (z_mulE rfl hr) rfl) (by omega) ?_
    refine z_evL ?_
    refine z_evG 6 (y := z_go 6 [some (.ref 127), some (.int (nI e)), some (.int (nI t)), some (.int (nI l)), some (.long ((z_fo (fun c s => s + (I 134 (8 * l + c)).toInt64 * (I 128 (8 * r + c)).toInt64) 0 k) + (((I 134 (8 * l + k)).toInt64) * ((I 128 (8 * r + k)).toInt64)))), none, some (.int ((nI k) + 1))] [] 161 (I, J, RF w)) (fun _ => rfl) ?_
    refine z_evL ?_
    rw [nI_1 k]
    exact nx trivial
set_option maxRecDepth 20000 in
/-- LampHouseModel.areSame -/
theorem m_areSame (E : zE) (d : Nat) (I : Nat → Nat → Int32) (J : Nat → Nat → Int64) (w : Nat) (e a b n : Nat) (r : Nat → Nat) (he : e < 8) (ha : a < 24) (hb : b < 24) (hn : n ≤ 3) (hs : I 136 e = nI n) (hr : ∀ t, t < n → I 135 (3 * e + t) = nI (r t) ∧ r t < 30) : z_cl E (d + 2) 198 [.ref 127, .int (nI e), .int (nI a), .int (nI b)] (161, I, J, RF w) = some (some (.int (z_bo (∀ t, t < n → z_see (fun c => I 134 (8 * a + c)) (fun c => I 128 (8 * r t + c)) = z_see (fun c => I 134 (8 * b + c)) (fun c => I 128 (8 * r t + c))))), 161, I, J, RF w) := by
  refine z_call (d := d + 1) (M := z_m198) rfl rfl ?_
  refine z_evG 4 (y := z_go 6 [some (.ref 127), some (.int (nI e)), some (.int (nI a)), some (.int (nI b)), some (.int 1), some (.int 0)] [] 161 (I, J, RF w)) (fun _ => rfl) ?_
  refine z_evL ?_
  have st0 : ∀ m0, m0 = 0 → ∀ q, z_Ev E (d + 1) z_m198 6 [some (.ref 127), some (.int (nI e)), some (.int (nI a)), some (.int (nI b)), some (.int (z_bo (∀ t, t < m0 → z_see (fun c => I 134 (8 * a + c)) (fun c => I 128 (8 * r t + c)) = z_see (fun c => I 134 (8 * b + c)) (fun c => I 128 (8 * r t + c))))), some (.int (nI m0))] [] 161 (I, J, RF w) q → z_Ev E (d + 1) z_m198 6 [some (.ref 127), some (.int (nI e)), some (.int (nI a)), some (.int (nI b)), some (.int 1), some (.int 0)] [] 161 (I, J, RF w) q := by intro m0 hm0 q h; rw [show z_bo (∀ t, t < m0 → z_see (fun c => I 134 (8 * a + c)) (fun c => I 128 (8 * r t + c)) = z_see (fun c => I 134 (8 * b + c)) (fun c => I 128 (8 * r t + c))) = 1 from z_bo_t (by rw [hm0]; exact z_all0)] at h; subst hm0; exact h
  refine st0 0 rfl _ ?_
  refine z_loop (F := fun k => ([some (.ref 127), some (.int (nI e)), some (.int (nI a)), some (.int (nI b)), some (.int (z_bo (∀ t, t < k → z_see (fun c => I 134 (8 * a + c)) (fun c => I 128 (8 * r t + c)) = z_see (fun c => I 134 (8 * b + c)) (fun c => I 128 (8 * r t + c))))), some (.int (nI k))], (I, J, RF w))) (P := fun k => True) n trivial (fun hP => ?_) (fun k hk hP next => ?_)
  · show z_Ev E (d + 1) z_m198 6 [some (.ref 127), some (.int (nI e)), some (.int (nI a)), some (.int (nI b)), some (.int (z_bo (∀ t, t < n → z_see (fun c => I 134 (8 * a + c)) (fun c => I 128 (8 * r t + c)) = z_see (fun c => I 134 (8 * b + c)) (fun c => I 128 (8 * r t + c))))), some (.int (nI n))] [] 161 (I, J, RF w) _
    refine z_evG 5 (y := z_ild (z_ia E 161 (I, J, RF w) 136) (nI e) fun vv => z_go 14 [some (.ref 127), some (.int (nI e)), some (.int (nI a)), some (.int (nI b)), some (.int (z_bo (∀ t, t < n → z_see (fun c => I 134 (8 * a + c)) (fun c => I 128 (8 * r t + c)) = z_see (fun c => I 134 (8 * b + c)) (fun c => I 128 (8 * r t + c))))), some (.int (nI n))] [.int vv, .int (nI n)] 161 (I, J, RF w)) (fun _ => rfl) ?_
    refine z_evBn (N := 8) (f := (I 136)) (k := e) rfl rfl (by omega) ?_
    refine z_evL ?_
    refine z_evG 1 (y := if (nI n) < (I 136 e) then z_go 17 [some (.ref 127), some (.int (nI e)), some (.int (nI a)), some (.int (nI b)), some (.int (z_bo (∀ t, t < n → z_see (fun c => I 134 (8 * a + c)) (fun c => I 128 (8 * r t + c)) = z_see (fun c => I 134 (8 * b + c)) (fun c => I 128 (8 * r t + c))))), some (.int (nI n))] [] 161 (I, J, RF w) else z_go 55 [some (.ref 127), some (.int (nI e)), some (.int (nI a)), some (.int (nI b)), some (.int (z_bo (∀ t, t < n → z_see (fun c => I 134 (8 * a + c)) (fun c => I 128 (8 * r t + c)) = z_see (fun c => I 134 (8 * b + c)) (fun c => I 128 (8 * r t + c))))), some (.int (nI n))] [] 161 (I, J, RF w)) (fun _ => rfl) ?_
    refine z_evF (mt (show _ ↔ n < n from z_ltN rfl hs (by omega) (by omega)).mp (by omega)) ?_
    refine z_evL ?_
    refine z_evG 2 (y := z_ck (z_b01 (z_bo (∀ t, t < n → z_see (fun c => I 134 (8 * a + c)) (fun c => I 128 (8 * r t + c)) = z_see (fun c => I 134 (8 * b + c)) (fun c => I 128 (8 * r t + c))))) (some (.inr (some (.int (z_bo (∀ t, t < n → z_see (fun c => I 134 (8 * a + c)) (fun c => I 128 (8 * r t + c)) = z_see (fun c => I 134 (8 * b + c)) (fun c => I 128 (8 * r t + c))))), 161, I, J, RF w)))) (fun _ => rfl) ?_
    refine z_evC (z_b01o _) ?_
    exact z_evR rfl
  · show z_Ev E (d + 1) z_m198 6 [some (.ref 127), some (.int (nI e)), some (.int (nI a)), some (.int (nI b)), some (.int (z_bo (∀ t, t < k → z_see (fun c => I 134 (8 * a + c)) (fun c => I 128 (8 * r t + c)) = z_see (fun c => I 134 (8 * b + c)) (fun c => I 128 (8 * r t + c))))), some (.int (nI k))] [] 161 (I, J, RF w) _
    have nx : (True) → z_Ev E (d + 1) z_m198 6 [some (.ref 127), some (.int (nI e)), some (.int (nI a)), some (.int (nI b)), some (.int (z_bo (∀ t, t < k + 1 → z_see (fun c => I 134 (8 * a + c)) (fun c => I 128 (8 * r t + c)) = z_see (fun c => I 134 (8 * b + c)) (fun c => I 128 (8 * r t + c))))), some (.int (nI (k + 1)))] [] 161 (I, J, RF w) _ := next
    refine z_evG 5 (y := z_ild (z_ia E 161 (I, J, RF w) 136) (nI e) fun vv => z_go 14 [some (.ref 127), some (.int (nI e)), some (.int (nI a)), some (.int (nI b)), some (.int (z_bo (∀ t, t < k → z_see (fun c => I 134 (8 * a + c)) (fun c => I 128 (8 * r t + c)) = z_see (fun c => I 134 (8 * b + c)) (fun c => I 128 (8 * r t + c))))), some (.int (nI k))] [.int vv, .int (nI k)] 161 (I, J, RF w)) (fun _ => rfl) ?_
    refine z_evBn (N := 8) (f := (I 136)) (k := e) rfl rfl (by omega) ?_
    refine z_evL ?_
    refine z_evG 1 (y := if (nI k) < (I 136 e) then z_go 17 [some (.ref 127), some (.int (nI e)), some (.int (nI a)), some (.int (nI b)), some (.int (z_bo (∀ t, t < k → z_see (fun c => I 134 (8 * a + c)) (fun c => I 128 (8 * r t + c)) = z_see (fun c => I 134 (8 * b + c)) (fun c => I 128 (8 * r t + c))))), some (.int (nI k))] [] 161 (I, J, RF w) else z_go 55 [some (.ref 127), some (.int (nI e)), some (.int (nI a)), some (.int (nI b)), some (.int (z_bo (∀ t, t < k → z_see (fun c => I 134 (8 * a + c)) (fun c => I 128 (8 * r t + c)) = z_see (fun c => I 134 (8 * b + c)) (fun c => I 128 (8 * r t + c))))), some (.int (nI k))] [] 161 (I, J, RF w)) (fun _ => rfl) ?_
    refine z_evT ((show _ ↔ k < n from z_ltN rfl hs (by omega) (by omega)).mpr (by omega)) ?_
    refine z_evL ?_
    refine z_evG 2 (y := if (z_bo (∀ t, t < k → z_see (fun c => I 134 (8 * a + c)) (fun c => I 128 (8 * r t + c)) = z_see (fun c => I 134 (8 * b + c)) (fun c => I 128 (8 * r t + c)))) = 0 then z_go 46 [some (.ref 127), some (.int (nI e)), some (.int (nI a)), some (.int (nI b)), some (.int (z_bo (∀ t, t < k → z_see (fun c => I 134 (8 * a + c)) (fun c => I 128 (8 * r t + c)) = z_see (fun c => I 134 (8 * b + c)) (fun c => I 128 (8 * r t + c))))), some (.int (nI k))] [] 161 (I, J, RF w) else z_go 22 [some (.ref 127), some (.int (nI e)), some (.int (nI a)), some (.int (nI b)), some (.int (z_bo (∀ t, t < k → z_see (fun c => I 134 (8 * a + c)) (fun c => I 128 (8 * r t + c)) = z_see (fun c => I 134 (8 * b + c)) (fun c => I 128 (8 * r t + c))))), some (.int (nI k))] [] 161 (I, J, RF w)) (fun _ => rfl) ?_
    refine z_evO (fun h3 => ?_) (fun h3 => ?_)
    · refine z_evL ?_
      refine z_evG 4 (y := z_go 6 [some (.ref 127), some (.int (nI e)), some (.int (nI a)), some (.int (nI b)), some (.int 0), some (.int ((nI k) + 1))] [] 161 (I, J, RF w)) (fun _ => rfl) ?_
      refine z_evL ?_
      rw [show z_bo (∀ t, t < k + 1 → z_see (fun c => I 134 (8 * a + c)) (fun c => I 128 (8 * r t + c)) = z_see (fun c => I 134 (8 * b + c)) (fun c => I 128 (8 * r t + c))) = 0 from z_bo_f (fun q => h3 (fun t ht => q t (by omega)))] at nx
      rw [nI_1 k]
      exact nx trivial
    · refine z_evL ?_
      refine z_evG 5 (y := z_ret (z_cl E (d + 1) 196 [.ref 127, .int (nI e), .int (nI k), .int (nI a)] (161, (I, J, RF w))) 30 [some (.ref 127), some (.int (nI e)), some (.int (nI a)), some (.int (nI b)), some (.int (z_bo (∀ t, t < k → z_see (fun c => I 134 (8 * a + c)) (fun c => I 128 (8 * r t + c)) = z_see (fun c => I 134 (8 * b + c)) (fun c => I 128 (8 * r t + c))))), some (.int (nI k))] []) (fun _ => rfl) ?_
      refine z_evK (v := .long (z_see (fun c => I 134 (8 * a + c)) (fun c => I 128 (8 * (r k) + c)))) (z' := 161) (σ' := (I, J, RF w)) (m_seenBy E d I J w e k a (r k) (by omega) (by omega) (by omega) (hr k hk).1 (hr k hk).2) ?_
      refine z_evG 5 (y := z_ret (z_cl E (d + 1) 196 [.ref 127, .int (nI e), .int (nI k), .int (nI b)] (161, (I, J, RF w))) 38 [some (.ref 127), some (.int (nI e)), some (.int (nI a)), some (.int (nI b)), some (.int (z_bo (∀ t, t < k → z_see (fun c => I 134 (8 * a + c)) (fun c => I 128 (8 * r t + c)) = z_see (fun c => I 134 (8 * b + c)) (fun c => I 128 (8 * r t + c))))), some (.int (nI k))] [.long (z_see (fun c => I 134 (8 * a + c)) (fun c => I 128 (8 * (r k) + c)))]) (fun _ => rfl) ?_
      refine z_evK (v := .long (z_see (fun c => I 134 (8 * b + c)) (fun c => I 128 (8 * (r k) + c)))) (z' := 161) (σ' := (I, J, RF w)) (m_seenBy E d I J w e k b (r k) (by omega) (by omega) (by omega) (hr k hk).1 (hr k hk).2) ?_
      refine z_evG 2 (y := if (lg_cmp (z_see (fun c => I 134 (8 * a + c)) (fun c => I 128 (8 * (r k) + c))) (z_see (fun c => I 134 (8 * b + c)) (fun c => I 128 (8 * (r k) + c)))) = 0 then z_go 42 [some (.ref 127), some (.int (nI e)), some (.int (nI a)), some (.int (nI b)), some (.int (z_bo (∀ t, t < k → z_see (fun c => I 134 (8 * a + c)) (fun c => I 128 (8 * r t + c)) = z_see (fun c => I 134 (8 * b + c)) (fun c => I 128 (8 * r t + c))))), some (.int (nI k))] [] 161 (I, J, RF w) else z_go 46 [some (.ref 127), some (.int (nI e)), some (.int (nI a)), some (.int (nI b)), some (.int (z_bo (∀ t, t < k → z_see (fun c => I 134 (8 * a + c)) (fun c => I 128 (8 * r t + c)) = z_see (fun c => I 134 (8 * b + c)) (fun c => I 128 (8 * r t + c))))), some (.int (nI k))] [] 161 (I, J, RF w)) (fun _ => rfl) ?_
      refine z_evIN (lg_cmp_eq _ _) (fun h4 => ?_) (fun h4 => ?_)
      · refine z_evL ?_
        refine z_evG 5 (y := z_go 6 [some (.ref 127), some (.int (nI e)), some (.int (nI a)), some (.int (nI b)), some (.int 1), some (.int ((nI k) + 1))] [] 161 (I, J, RF w)) (fun _ => rfl) ?_
        refine z_evL ?_
        rw [show z_bo (∀ t, t < k + 1 → z_see (fun c => I 134 (8 * a + c)) (fun c => I 128 (8 * r t + c)) = z_see (fun c => I 134 (8 * b + c)) (fun c => I 128 (8 * r t + c))) = 1 from z_bo_t (z_allS h3 h4)] at nx
        rw [nI_1 k]
        exact nx trivial
      · refine z_evL ?_
        refine z_evG 4 (y := z_go 6 [some (.ref 127), some (.int (nI e)), some (.int (nI a)), some (.int (nI b)), some (.int 0), some (.int ((nI k) + 1))] [] 161 (I, J, RF w)) (fun _ => rfl) ?_
        refine z_evL ?_
        rw [show z_bo (∀ t, t < k + 1 → z_see (fun c => I 134 (8 * a + c)) (fun c => I 128 (8 * r t + c)) = z_see (fun c => I 134 (8 * b + c)) (fun c => I 128 (8 * r t + c))) = 0 from z_bo_f (fun q => h4 (q k (by omega)))] at nx
        rw [nI_1 k]
        exact nx trivial
set_option maxRecDepth 20000 in
/-- LampHouse$Things.kindOf -/
theorem x_things_kindOfN (E : zE) (d : Nat) (I : Nat → Nat → Int32) (J : Nat → Nat → Int64) (w : Nat) (i : Nat) (hk : i < 20) : z_cl E (d + 1) 113 [.ref 37, .int (nI i)] (161, I, J, RF w) = some (some (.int (I 38 i)), 161, I, J, RF w) := by
  refine z_call (d := d + 0) (M := z_m113) rfl rfl ?_
  refine z_evG 4 (y := z_ild (z_ia E 161 (I, J, RF w) 38) (nI i) fun vv => z_go 6 [some (.ref 37), some (.int (nI i))] [.int vv] 161 (I, J, RF w)) (fun _ => rfl) ?_
  refine z_evBn (N := 20) (f := (I 38)) (k := i) rfl rfl (by omega) ?_
  refine z_evL ?_
  refine z_evG 1 (y := some (.inr (some (.int (I 38 i)), 161, I, J, RF w))) (fun _ => rfl) ?_
  exact z_evR rfl
set_option maxRecDepth 20000 in
/-- LampHouse$Things.rowUsed -/
theorem x_things_rowUsedN (E : zE) (d : Nat) (I : Nat → Nat → Int32) (J : Nat → Nat → Int64) (w : Nat) (i : Nat) (hk : i < 20) : z_cl E (d + 1) 114 [.ref 37, .int (nI i)] (161, I, J, RF w) = some (some (.int (I 39 i)), 161, I, J, RF w) := by
  refine z_call (d := d + 0) (M := z_m114) rfl rfl ?_
  refine z_evG 4 (y := z_ild (z_ia E 161 (I, J, RF w) 39) (nI i) fun vv => z_go 6 [some (.ref 37), some (.int (nI i))] [.int vv] 161 (I, J, RF w)) (fun _ => rfl) ?_
  refine z_evBn (N := 20) (f := (I 39)) (k := i) rfl rfl (by omega) ?_
  refine z_evL ?_
  refine z_evG 1 (y := some (.inr (some (.int (I 39 i)), 161, I, J, RF w))) (fun _ => rfl) ?_
  exact z_evR rfl
set_option maxRecDepth 20000 in
/-- LampHouse$Things.numberOf -/
theorem x_things_numberOfN (E : zE) (d : Nat) (I : Nat → Nat → Int32) (J : Nat → Nat → Int64) (w : Nat) (i : Nat) (hk : i < 20) : z_cl E (d + 1) 115 [.ref 37, .int (nI i)] (161, I, J, RF w) = some (some (.int (I 40 i)), 161, I, J, RF w) := by
  refine z_call (d := d + 0) (M := z_m115) rfl rfl ?_
  refine z_evG 4 (y := z_ild (z_ia E 161 (I, J, RF w) 40) (nI i) fun vv => z_go 6 [some (.ref 37), some (.int (nI i))] [.int vv] 161 (I, J, RF w)) (fun _ => rfl) ?_
  refine z_evBn (N := 20) (f := (I 40)) (k := i) rfl rfl (by omega) ?_
  refine z_evL ?_
  refine z_evG 1 (y := some (.inr (some (.int (I 40 i)), 161, I, J, RF w))) (fun _ => rfl) ?_
  exact z_evR rfl
set_option maxRecDepth 20000 in
/-- LampHouse$Things.hourTold -/
theorem x_things_hourToldN (E : zE) (d : Nat) (I : Nat → Nat → Int32) (J : Nat → Nat → Int64) (w : Nat) (i : Nat) (hk : i < 20) : z_cl E (d + 1) 116 [.ref 37, .int (nI i)] (161, I, J, RF w) = some (some (.int (I 41 i)), 161, I, J, RF w) := by
  refine z_call (d := d + 0) (M := z_m116) rfl rfl ?_
  refine z_evG 4 (y := z_ild (z_ia E 161 (I, J, RF w) 41) (nI i) fun vv => z_go 6 [some (.ref 37), some (.int (nI i))] [.int vv] 161 (I, J, RF w)) (fun _ => rfl) ?_
  refine z_evBn (N := 20) (f := (I 41)) (k := i) rfl rfl (by omega) ?_
  refine z_evL ?_
  refine z_evG 1 (y := some (.inr (some (.int (I 41 i)), 161, I, J, RF w))) (fun _ => rfl) ?_
  exact z_evR rfl
set_option maxRecDepth 20000 in
/-- LampHouse$Things.stepsOf -/
theorem x_things_stepsOfN (E : zE) (d : Nat) (I : Nat → Nat → Int32) (J : Nat → Nat → Int64) (w : Nat) (i : Nat) (hk : i < 20) : z_cl E (d + 1) 117 [.ref 37, .int (nI i)] (161, I, J, RF w) = some (some (.int (I 42 i)), 161, I, J, RF w) := by
  refine z_call (d := d + 0) (M := z_m117) rfl rfl ?_
  refine z_evG 4 (y := z_ild (z_ia E 161 (I, J, RF w) 42) (nI i) fun vv => z_go 6 [some (.ref 37), some (.int (nI i))] [.int vv] 161 (I, J, RF w)) (fun _ => rfl) ?_
  refine z_evBn (N := 20) (f := (I 42)) (k := i) rfl rfl (by omega) ?_
  refine z_evL ?_
  refine z_evG 1 (y := some (.inr (some (.int (I 42 i)), 161, I, J, RF w))) (fun _ => rfl) ?_
  exact z_evR rfl
set_option maxRecDepth 20000 in
/-- LampHouse$Things.changeSteps -/
theorem x_things_changeStepsN (E : zE) (d : Nat) (I : Nat → Nat → Int32) (J : Nat → Nat → Int64) (w : Nat) (i : Nat) (v : Int32) (hk : i < 20) : z_cl E (d + 1) 119 [.ref 37, .int (nI i), .int v] (161, I, J, RF w) = some (some (.int (I 42 i)), 161, (z_u2 I 42 i v), J, RF w) := by
  refine z_call (d := d + 0) (M := z_m119) rfl rfl ?_
  refine z_evG 4 (y := z_ild (z_ia E 161 (I, J, RF w) 42) (nI i) fun vv => z_go 6 [some (.ref 37), some (.int (nI i)), some (.int v), none] [.int vv] 161 (I, J, RF w)) (fun _ => rfl) ?_
  refine z_evBn (N := 20) (f := (I 42)) (k := i) rfl rfl (by omega) ?_
  refine z_evL ?_
  refine z_evG 6 (y := z_ck (z_in (nI i) 20) (z_go 14 [some (.ref 37), some (.int (nI i)), some (.int v), some (.int (I 42 i))] [] 161 ((z_u2 I 42 ((nI i).toNatClampNeg) v), J, RF w))) (fun _ => rfl) ?_
  refine z_evC (z_inN (k := i) rfl (by omega) (by decide)) ?_
  refine z_evL ?_
  rw [show ((nI i : Int32)).toNatClampNeg = i from z_natE rfl (by omega)]
  refine z_evG 2 (y := some (.inr (some (.int (I 42 i)), 161, (z_u2 I 42 i v), J, RF w))) (fun _ => rfl) ?_
  exact z_evR rfl
set_option maxRecDepth 20000 in
/-- LampHouse$Eyes.takerCount -/
theorem x_eyes_takerCountN (E : zE) (d : Nat) (I : Nat → Nat → Int32) (J : Nat → Nat → Int64) (w : Nat) (i : Nat) (hk : i < 8) : z_cl E (d + 1) 20 [.ref 65, .int (nI i)] (161, I, J, RF w) = some (some (.int (I 75 i)), 161, I, J, RF w) := by
  refine z_call (d := d + 0) (M := z_m20) rfl rfl ?_
  refine z_evG 4 (y := z_ild (z_ia E 161 (I, J, RF w) 75) (nI i) fun vv => z_go 6 [some (.ref 65), some (.int (nI i))] [.int vv] 161 (I, J, RF w)) (fun _ => rfl) ?_
  refine z_evBn (N := 8) (f := (I 75)) (k := i) rfl rfl (by omega) ?_
  refine z_evL ?_
  refine z_evG 1 (y := some (.inr (some (.int (I 75 i)), 161, I, J, RF w))) (fun _ => rfl) ?_
  exact z_evR rfl
set_option maxRecDepth 20000 in
/-- LampHouse$Nearest.part -/
theorem x_near_partN (E : zE) (d : Nat) (I : Nat → Nat → Int32) (J : Nat → Nat → Int64) (w : Nat) (i : Nat) (hk : i < 3) : z_cl E (d + 1) 39 [.ref 91, .int (nI i)] (161, I, J, RF w) = some (some (.int (I 94 i)), 161, I, J, RF w) := by
  refine z_call (d := d + 0) (M := z_m39) rfl rfl ?_
  refine z_evG 4 (y := z_ild (z_ia E 161 (I, J, RF w) 94) (nI i) fun vv => z_go 6 [some (.ref 91), some (.int (nI i))] [.int vv] 161 (I, J, RF w)) (fun _ => rfl) ?_
  refine z_evBn (N := 3) (f := (I 94)) (k := i) rfl rfl (by omega) ?_
  refine z_evL ?_
  refine z_evG 1 (y := some (.inr (some (.int (I 94 i)), 161, I, J, RF w))) (fun _ => rfl) ?_
  exact z_evR rfl
set_option maxRecDepth 20000 in
/-- LampHouse$Nearest.layer -/
theorem x_near_layerN (E : zE) (d : Nat) (I : Nat → Nat → Int32) (J : Nat → Nat → Int64) (w : Nat) (i : Nat) (hk : i < 5) : z_cl E (d + 1) 41 [.ref 91, .int (nI i)] (161, I, J, RF w) = some (some (.int (I 105 i)), 161, I, J, RF w) := by
  refine z_call (d := d + 0) (M := z_m41) rfl rfl ?_
  refine z_evG 4 (y := z_ild (z_ia E 161 (I, J, RF w) 105) (nI i) fun vv => z_go 6 [some (.ref 91), some (.int (nI i))] [.int vv] 161 (I, J, RF w)) (fun _ => rfl) ?_
  refine z_evBn (N := 5) (f := (I 105)) (k := i) rfl rfl (by omega) ?_
  refine z_evL ?_
  refine z_evG 1 (y := some (.inr (some (.int (I 105 i)), 161, I, J, RF w))) (fun _ => rfl) ?_
  exact z_evR rfl
set_option maxRecDepth 20000 in
/-- LampHouse$Filters.leastOf -/
theorem x_filters_leastOfN (E : zE) (d : Nat) (I : Nat → Nat → Int32) (J : Nat → Nat → Int64) (w : Nat) (i : Nat) (hk : i < 8) : z_cl E (d + 1) 29 [.ref 110, .int (nI i)] (161, I, J, RF w) = some (some (.int (I 115 i)), 161, I, J, RF w) := by
  refine z_call (d := d + 0) (M := z_m29) rfl rfl ?_
  refine z_evG 4 (y := z_ild (z_ia E 161 (I, J, RF w) 115) (nI i) fun vv => z_go 6 [some (.ref 110), some (.int (nI i))] [.int vv] 161 (I, J, RF w)) (fun _ => rfl) ?_
  refine z_evBn (N := 8) (f := (I 115)) (k := i) rfl rfl (by omega) ?_
  refine z_evL ?_
  refine z_evG 1 (y := some (.inr (some (.int (I 115 i)), 161, I, J, RF w))) (fun _ => rfl) ?_
  exact z_evR rfl
set_option maxRecDepth 20000 in
/-- LampHouse$Filters.mostOf -/
theorem x_filters_mostOfN (E : zE) (d : Nat) (I : Nat → Nat → Int32) (J : Nat → Nat → Int64) (w : Nat) (i : Nat) (hk : i < 8) : z_cl E (d + 1) 30 [.ref 110, .int (nI i)] (161, I, J, RF w) = some (some (.int (I 116 i)), 161, I, J, RF w) := by
  refine z_call (d := d + 0) (M := z_m30) rfl rfl ?_
  refine z_evG 4 (y := z_ild (z_ia E 161 (I, J, RF w) 116) (nI i) fun vv => z_go 6 [some (.ref 110), some (.int (nI i))] [.int vv] 161 (I, J, RF w)) (fun _ => rfl) ?_
  refine z_evBn (N := 8) (f := (I 116)) (k := i) rfl rfl (by omega) ?_
  refine z_evL ?_
  refine z_evG 1 (y := some (.inr (some (.int (I 116 i)), 161, I, J, RF w))) (fun _ => rfl) ?_
  exact z_evR rfl
set_option maxRecDepth 20000 in
/-- LampHouse$Sheets.sortOf -/
theorem x_sheets_sortOfN (E : zE) (d : Nat) (I : Nat → Nat → Int32) (J : Nat → Nat → Int64) (w : Nat) (i : Nat) (hk : i < 4) : z_cl E (d + 1) 98 [.ref 117, .int (nI i)] (161, I, J, RF w) = some (some (.int (I 123 i)), 161, I, J, RF w) := by
  refine z_call (d := d + 0) (M := z_m98) rfl rfl ?_
  refine z_evG 4 (y := z_ild (z_ia E 161 (I, J, RF w) 123) (nI i) fun vv => z_go 6 [some (.ref 117), some (.int (nI i))] [.int vv] 161 (I, J, RF w)) (fun _ => rfl) ?_
  refine z_evBn (N := 4) (f := (I 123)) (k := i) rfl rfl (by omega) ?_
  refine z_evL ?_
  refine z_evG 1 (y := some (.inr (some (.int (I 123 i)), 161, I, J, RF w))) (fun _ => rfl) ?_
  exact z_evR rfl
set_option maxRecDepth 20000 in
/-- LampHouse$Sheets.get -/
theorem x_sheets_getN (E : zE) (d : Nat) (I : Nat → Nat → Int32) (J : Nat → Nat → Int64) (w : Nat) (i : Nat) (hk : i < 4) : z_cl E (d + 1) 99 [.ref 117, .int (nI i)] (161, I, J, RF w) = some (some (.ref (119 + i)), 161, I, J, RF w) := by
  refine z_call (d := d + 0) (M := z_m99) rfl rfl ?_
  refine z_evG 4 (y := z_ck (z_in (nI i) 4) (z_go 6 [some (.ref 117), some (.int (nI i))] [.ref (119 + (nI i).toNatClampNeg)] 161 (I, J, RF w))) (fun _ => rfl) ?_
  refine z_evC (z_inN (k := i) rfl (by omega) (by decide)) ?_
  refine z_evL ?_
  rw [show ((nI i : Int32)).toNatClampNeg = i from z_natE rfl (by omega)]
  refine z_evG 1 (y := some (.inr (some (.ref (119 + i)), 161, I, J, RF w))) (fun _ => rfl) ?_
  exact z_evR rfl
set_option maxRecDepth 20000 in
/-- LampHouse$Sheets.remove -/
theorem x_sheets_removeN (E : zE) (d : Nat) (I : Nat → Nat → Int32) (J : Nat → Nat → Int64) (w : Nat) (i : Nat) (hk : i < 4) : z_cl E (d + 1) 101 [.ref 117, .int (nI i)] (161, I, J, RF w) = some (some (.int 1), 161, (z_u2 I 123 i (-1)), J, RF w) := by
  refine z_call (d := d + 0) (M := z_m101) rfl rfl ?_
  refine z_evG 5 (y := z_ck (z_in (nI i) 4) (z_go 7 [some (.ref 117), some (.int (nI i))] [] 161 ((z_u2 I 123 ((nI i).toNatClampNeg) (-1)), J, RF w))) (fun _ => rfl) ?_
  refine z_evC (z_inN (k := i) rfl (by omega) (by decide)) ?_
  refine z_evL ?_
  rw [show ((nI i : Int32)).toNatClampNeg = i from z_natE rfl (by omega)]
  refine z_evG 2 (y := some (.inr (some (.int 1), 161, (z_u2 I 123 i (-1)), J, RF w))) (fun _ => rfl) ?_
  exact z_evR rfl
