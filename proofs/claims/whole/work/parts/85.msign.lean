-- THE REFERENCE'S READER: signs and values
def s_near (x : Int32) : Nat := if x = 42 then 6 else if x = 43 ∨ x = 45 then 5 else if x = 60 ∨ x = 61 then 4 else if x = 14 then 3 else if x = 13 then 2 else if x = 12 then 1 else 0
def s_sgs : List Int32 := [-1, 0, 1, 2, 10, 11, 12, 13, 14, 40, 41, 42, 43, 45, 59, 60, 61, 109]
def s_jn (s a b : Int32) : Int32 := if s = 42 then a * b else if s = 43 then a + b else if s = 45 then a - b else if s = 60 then (if a < b then 1 else 0) else if s = 61 then (if a = b then 1 else 0) else if s = 13 then (if ¬ a = 0 ∧ ¬ b = 0 then 1 else 0) else (if ¬ a = 0 ∨ ¬ b = 0 then 1 else 0)
set_option maxRecDepth 20000 in
/-- LampHouseModel.near -/
theorem m_near_0 (E : zE) (d : Nat) (I : Nat → Nat → Int32) (J : Nat → Nat → Int64) (w : Nat) : z_cl E (d + 1) 208 [.int (-1)] (161, I, J, RF w) = some (some (.int 0), 161, I, J, RF w) := by
  refine z_call (d := d + 0) (M := z_m208) rfl rfl ?_
  refine z_evG 4 (y := some (.inr (some (.int 0), 161, I, J, RF w))) (fun _ => rfl) ?_
  exact z_evR rfl
set_option maxRecDepth 20000 in
/-- LampHouseModel.near -/
theorem m_near_1 (E : zE) (d : Nat) (I : Nat → Nat → Int32) (J : Nat → Nat → Int64) (w : Nat) : z_cl E (d + 1) 208 [.int 0] (161, I, J, RF w) = some (some (.int 0), 161, I, J, RF w) := by
  refine z_call (d := d + 0) (M := z_m208) rfl rfl ?_
  refine z_evG 4 (y := some (.inr (some (.int 0), 161, I, J, RF w))) (fun _ => rfl) ?_
  exact z_evR rfl
set_option maxRecDepth 20000 in
/-- LampHouseModel.near -/
theorem m_near_2 (E : zE) (d : Nat) (I : Nat → Nat → Int32) (J : Nat → Nat → Int64) (w : Nat) : z_cl E (d + 1) 208 [.int 1] (161, I, J, RF w) = some (some (.int 0), 161, I, J, RF w) := by
  refine z_call (d := d + 0) (M := z_m208) rfl rfl ?_
  refine z_evG 4 (y := some (.inr (some (.int 0), 161, I, J, RF w))) (fun _ => rfl) ?_
  exact z_evR rfl
set_option maxRecDepth 20000 in
/-- LampHouseModel.near -/
theorem m_near_3 (E : zE) (d : Nat) (I : Nat → Nat → Int32) (J : Nat → Nat → Int64) (w : Nat) : z_cl E (d + 1) 208 [.int 2] (161, I, J, RF w) = some (some (.int 0), 161, I, J, RF w) := by
  refine z_call (d := d + 0) (M := z_m208) rfl rfl ?_
  refine z_evG 4 (y := some (.inr (some (.int 0), 161, I, J, RF w))) (fun _ => rfl) ?_
  exact z_evR rfl
set_option maxRecDepth 20000 in
/-- LampHouseModel.near -/
theorem m_near_4 (E : zE) (d : Nat) (I : Nat → Nat → Int32) (J : Nat → Nat → Int64) (w : Nat) : z_cl E (d + 1) 208 [.int 10] (161, I, J, RF w) = some (some (.int 0), 161, I, J, RF w) := by
  refine z_call (d := d + 0) (M := z_m208) rfl rfl ?_
  refine z_evG 4 (y := some (.inr (some (.int 0), 161, I, J, RF w))) (fun _ => rfl) ?_
  exact z_evR rfl
set_option maxRecDepth 20000 in
/-- LampHouseModel.near -/
theorem m_near_5 (E : zE) (d : Nat) (I : Nat → Nat → Int32) (J : Nat → Nat → Int64) (w : Nat) : z_cl E (d + 1) 208 [.int 11] (161, I, J, RF w) = some (some (.int 0), 161, I, J, RF w) := by
  refine z_call (d := d + 0) (M := z_m208) rfl rfl ?_
  refine z_evG 4 (y := some (.inr (some (.int 0), 161, I, J, RF w))) (fun _ => rfl) ?_
  exact z_evR rfl
set_option maxRecDepth 20000 in
/-- LampHouseModel.near -/
theorem m_near_6 (E : zE) (d : Nat) (I : Nat → Nat → Int32) (J : Nat → Nat → Int64) (w : Nat) : z_cl E (d + 1) 208 [.int 12] (161, I, J, RF w) = some (some (.int 1), 161, I, J, RF w) := by
  refine z_call (d := d + 0) (M := z_m208) rfl rfl ?_
  refine z_evG 4 (y := some (.inr (some (.int 1), 161, I, J, RF w))) (fun _ => rfl) ?_
  exact z_evR rfl
set_option maxRecDepth 20000 in
/-- LampHouseModel.near -/
theorem m_near_7 (E : zE) (d : Nat) (I : Nat → Nat → Int32) (J : Nat → Nat → Int64) (w : Nat) : z_cl E (d + 1) 208 [.int 13] (161, I, J, RF w) = some (some (.int 2), 161, I, J, RF w) := by
  refine z_call (d := d + 0) (M := z_m208) rfl rfl ?_
  refine z_evG 4 (y := some (.inr (some (.int 2), 161, I, J, RF w))) (fun _ => rfl) ?_
  exact z_evR rfl
set_option maxRecDepth 20000 in
/-- LampHouseModel.near -/
theorem m_near_8 (E : zE) (d : Nat) (I : Nat → Nat → Int32) (J : Nat → Nat → Int64) (w : Nat) : z_cl E (d + 1) 208 [.int 14] (161, I, J, RF w) = some (some (.int 3), 161, I, J, RF w) := by
  refine z_call (d := d + 0) (M := z_m208) rfl rfl ?_
  refine z_evG 4 (y := some (.inr (some (.int 3), 161, I, J, RF w))) (fun _ => rfl) ?_
  exact z_evR rfl
set_option maxRecDepth 20000 in
/-- LampHouseModel.near -/
theorem m_near_9 (E : zE) (d : Nat) (I : Nat → Nat → Int32) (J : Nat → Nat → Int64) (w : Nat) : z_cl E (d + 1) 208 [.int 40] (161, I, J, RF w) = some (some (.int 0), 161, I, J, RF w) := by
  refine z_call (d := d + 0) (M := z_m208) rfl rfl ?_
  refine z_evG 4 (y := some (.inr (some (.int 0), 161, I, J, RF w))) (fun _ => rfl) ?_
  exact z_evR rfl
set_option maxRecDepth 20000 in
/-- LampHouseModel.near -/
theorem m_near_10 (E : zE) (d : Nat) (I : Nat → Nat → Int32) (J : Nat → Nat → Int64) (w : Nat) : z_cl E (d + 1) 208 [.int 41] (161, I, J, RF w) = some (some (.int 0), 161, I, J, RF w) := by
  refine z_call (d := d + 0) (M := z_m208) rfl rfl ?_
  refine z_evG 4 (y := some (.inr (some (.int 0), 161, I, J, RF w))) (fun _ => rfl) ?_
  exact z_evR rfl
set_option maxRecDepth 20000 in
/-- LampHouseModel.near -/
theorem m_near_11 (E : zE) (d : Nat) (I : Nat → Nat → Int32) (J : Nat → Nat → Int64) (w : Nat) : z_cl E (d + 1) 208 [.int 42] (161, I, J, RF w) = some (some (.int 6), 161, I, J, RF w) := by
  refine z_call (d := d + 0) (M := z_m208) rfl rfl ?_
  refine z_evG 4 (y := some (.inr (some (.int 6), 161, I, J, RF w))) (fun _ => rfl) ?_
  exact z_evR rfl
set_option maxRecDepth 20000 in
/-- LampHouseModel.near -/
theorem m_near_12 (E : zE) (d : Nat) (I : Nat → Nat → Int32) (J : Nat → Nat → Int64) (w : Nat) : z_cl E (d + 1) 208 [.int 43] (161, I, J, RF w) = some (some (.int 5), 161, I, J, RF w) := by
  refine z_call (d := d + 0) (M := z_m208) rfl rfl ?_
  refine z_evG 4 (y := some (.inr (some (.int 5), 161, I, J, RF w))) (fun _ => rfl) ?_
  exact z_evR rfl
set_option maxRecDepth 20000 in
/-- LampHouseModel.near -/
theorem m_near_13 (E : zE) (d : Nat) (I : Nat → Nat → Int32) (J : Nat → Nat → Int64) (w : Nat) : z_cl E (d + 1) 208 [.int 45] (161, I, J, RF w) = some (some (.int 5), 161, I, J, RF w) := by
  refine z_call (d := d + 0) (M := z_m208) rfl rfl ?_
  refine z_evG 4 (y := some (.inr (some (.int 5), 161, I, J, RF w))) (fun _ => rfl) ?_
  exact z_evR rfl
set_option maxRecDepth 20000 in
/-- LampHouseModel.near -/
theorem m_near_14 (E : zE) (d : Nat) (I : Nat → Nat → Int32) (J : Nat → Nat → Int64) (w : Nat) : z_cl E (d + 1) 208 [.int 59] (161, I, J, RF w) = some (some (.int 0), 161, I, J, RF w) := by
  refine z_call (d := d + 0) (M := z_m208) rfl rfl ?_
  refine z_evG 4 (y := some (.inr (some (.int 0), 161, I, J, RF w))) (fun _ => rfl) ?_
  exact z_evR rfl
set_option maxRecDepth 20000 in
/-- LampHouseModel.near -/
theorem m_near_15 (E : zE) (d : Nat) (I : Nat → Nat → Int32) (J : Nat → Nat → Int64) (w : Nat) : z_cl E (d + 1) 208 [.int 60] (161, I, J, RF w) = some (some (.int 4), 161, I, J, RF w) := by
  refine z_call (d := d + 0) (M := z_m208) rfl rfl ?_
  refine z_evG 4 (y := some (.inr (some (.int 4), 161, I, J, RF w))) (fun _ => rfl) ?_
  exact z_evR rfl
set_option maxRecDepth 20000 in
/-- LampHouseModel.near -/
theorem m_near_16 (E : zE) (d : Nat) (I : Nat → Nat → Int32) (J : Nat → Nat → Int64) (w : Nat) : z_cl E (d + 1) 208 [.int 61] (161, I, J, RF w) = some (some (.int 4), 161, I, J, RF w) := by
  refine z_call (d := d + 0) (M := z_m208) rfl rfl ?_
  refine z_evG 4 (y := some (.inr (some (.int 4), 161, I, J, RF w))) (fun _ => rfl) ?_
  exact z_evR rfl
set_option maxRecDepth 20000 in
/-- LampHouseModel.near -/
theorem m_near_17 (E : zE) (d : Nat) (I : Nat → Nat → Int32) (J : Nat → Nat → Int64) (w : Nat) : z_cl E (d + 1) 208 [.int 109] (161, I, J, RF w) = some (some (.int 0), 161, I, J, RF w) := by
  refine z_call (d := d + 0) (M := z_m208) rfl rfl ?_
  refine z_evG 4 (y := some (.inr (some (.int 0), 161, I, J, RF w))) (fun _ => rfl) ?_
  exact z_evR rfl
theorem m_near (E : zE) (d : Nat) (I : Nat → Nat → Int32) (J : Nat → Nat → Int64) (w : Nat) (x : Int32) (h : x ∈ s_sgs) : z_cl E (d + 1) 208 [.int x] (161, I, J, RF w) = some (some (.int (nI (s_near x))), 161, I, J, RF w) := by
  unfold s_sgs at h
  simp only [List.mem_cons, List.not_mem_nil, or_false] at h
  rcases h with h | h | h | h | h | h | h | h | h | h | h | h | h | h | h | h | h | h
  · subst h; exact m_near_0 E d I J w
  · subst h; exact m_near_1 E d I J w
  · subst h; exact m_near_2 E d I J w
  · subst h; exact m_near_3 E d I J w
  · subst h; exact m_near_4 E d I J w
  · subst h; exact m_near_5 E d I J w
  · subst h; exact m_near_6 E d I J w
  · subst h; exact m_near_7 E d I J w
  · subst h; exact m_near_8 E d I J w
  · subst h; exact m_near_9 E d I J w
  · subst h; exact m_near_10 E d I J w
  · subst h; exact m_near_11 E d I J w
  · subst h; exact m_near_12 E d I J w
  · subst h; exact m_near_13 E d I J w
  · subst h; exact m_near_14 E d I J w
  · subst h; exact m_near_15 E d I J w
  · subst h; exact m_near_16 E d I J w
  · subst h; exact m_near_17 E d I J w
set_option maxRecDepth 20000 in
/-- LampHouseModel.topSign -/
theorem m_topSign_0 (E : zE) (d : Nat) (I : Nat → Nat → Int32) (J : Nat → Nat → Int64) (w : Nat) (h : I 127 33 = 0) : z_cl E (d + 1) 205 [.ref 127] (161, I, J, RF w) = some (some (.int 0), 161, I, J, RF w) := by
  refine z_call (d := d + 0) (M := z_m205) rfl rfl ?_
  refine z_evG 3 (y := if (I 127 33) = 0 then z_go 7 [some (.ref 127)] [] 161 (I, J, RF w) else z_go 11 [some (.ref 127)] [] 161 (I, J, RF w)) (fun _ => rfl) ?_
  refine z_evT h ?_
  refine z_evL ?_
  refine z_evG 3 (y := some (.inr (some (.int 0), 161, I, J, RF w))) (fun _ => rfl) ?_
  exact z_evR rfl
set_option maxRecDepth 20000 in
/-- LampHouseModel.topSign -/
theorem m_topSign_s (E : zE) (d : Nat) (I : Nat → Nat → Int32) (J : Nat → Nat → Int64) (w : Nat) (k : Nat) (s : Int32) (h_k : I 127 33 = nI (k + 1)) (hk : k < 170) (hs : I 143 k = s) : z_cl E (d + 1) 205 [.ref 127] (161, I, J, RF w) = some (some (.int s), 161, I, J, RF w) := by
  refine z_call (d := d + 0) (M := z_m205) rfl rfl ?_
  refine z_evG 3 (y := if (I 127 33) = 0 then z_go 7 [some (.ref 127)] [] 161 (I, J, RF w) else z_go 11 [some (.ref 127)] [] 161 (I, J, RF w)) (fun _ => rfl) ?_
  refine z_evF (fun q => by have := (z_eqN (b := 0) h_k rfl (by omega) (by decide)).mp q; omega) ?_
  refine z_evL ?_
  refine z_evG 7 (y := z_ild (z_ia E 161 (I, J, RF w) 143) ((I 127 33) - 1) fun vv => z_go 22 [some (.ref 127)] [.int vv] 161 (I, J, RF w)) (fun _ => rfl) ?_
  refine z_evBn (N := 170) (f := (I 143)) (k := k) rfl (z_predE h_k) (by omega) ?_
  refine z_evL ?_
  rw [show I 143 k = s from hs]
  refine z_evG 1 (y := some (.inr (some (.int s), 161, I, J, RF w))) (fun _ => rfl) ?_
  exact z_evR rfl
set_option maxRecDepth 20000 in
/-- LampHouseModel.push -/
theorem m_push (E : zE) (d : Nat) (I : Nat → Nat → Int32) (J : Nat → Nat → Int64) (w : Nat) (x : Int32) (k : Nat) (h_k : I 127 33 = nI k) (hk : k < 170) : z_cl E (d + 1) 206 [.ref 127, .int x] (161, I, J, RF w) = some (none, 161, (z_u2 (z_u2 I 143 k x) 127 33 (nI (k + 1))), J, RF w) := by
  refine z_call (d := d + 0) (M := z_m206) rfl rfl ?_
  refine z_evG 6 (y := z_ck (z_in (I 127 33) 170) (z_go 10 [some (.ref 127), some (.int x)] [] 161 ((z_u2 I 143 ((I 127 33).toNatClampNeg) x), J, RF w))) (fun _ => rfl) ?_
  refine z_evC (z_inN (k := k) h_k (by omega) (by decide)) ?_
  refine z_evL ?_
  rw [show ((I 127 33 : Int32)).toNatClampNeg = k from z_natE h_k (by omega)]
  refine z_evG 7 (y := some (.inr (none, 161, (z_u2 (z_u2 I 143 k x) 127 33 ((I 127 33) + 1)), J, RF w))) (fun _ => rfl) ?_
  rw [show ((I 127 33) + 1 : Int32) = nI (k + 1) from (z_addE h_k rfl)]
  exact z_evR rfl
set_option maxRecDepth 20000 in
/-- LampHouseModel.work -/
theorem m_work_14 (E : zE) (d : Nat) (I : Nat → Nat → Int32) (J : Nat → Nat → Int64) (w : Nat) (k m : Nat) (h_k : I 127 33 = nI (k + 1)) (hk : k < 170) (hs : I 143 k = 14) (h_m : I 127 31 = nI (m + 1)) (hm : m + 1 ≤ 170) : z_cl E (d + 2) 207 [.ref 127] (161, I, J, RF w) = some (none, 161, (z_u2 (z_u2 (z_u2 I 127 33 (nI k)) 142 m (if I 142 m = 0 then 1 else 0)) 127 28 (I 127 28 - 1)), J, RF w) := by
  refine z_call (d := d + 1) (M := z_m207) rfl rfl ?_
  refine z_evG 2 (y := z_ret (z_cl E (d + 1) 205 [.ref 127] (161, (I, J, RF w))) 4 [some (.ref 127), none, none, none] []) (fun _ => rfl) ?_
  refine z_evK (v := .int 14) (z' := 161) (σ' := (I, J, RF w)) (m_topSign_s E d I J w k 14 h_k hk hs) ?_
  refine z_evG 14 (y := z_ild (z_ia E 161 ((z_u2 I 127 33 ((I 127 33) - 1)), J, RF w) 142) ((I 127 31) - 1) fun vv => z_go 26 [some (.ref 127), some (.int 14), none, none] [.int vv] 161 ((z_u2 I 127 33 ((I 127 33) - 1)), J, RF w)) (fun _ => rfl) ?_
  refine z_evBn (N := 170) (f := ((z_u2 I 127 33 ((I 127 33) - 1)) 142)) (k := m) rfl (z_predE h_m) (by omega) ?_
  refine z_evL ?_
  refine z_evG 4 (y := if 14 = 14 then z_go 33 [some (.ref 127), some (.int 14), some (.int (I 142 m)), none] [] 161 ((z_u2 I 127 33 ((I 127 33) - 1)), J, RF w) else z_go 64 [some (.ref 127), some (.int 14), some (.int (I 142 m)), none] [] 161 ((z_u2 I 127 33 ((I 127 33) - 1)), J, RF w)) (fun _ => rfl) ?_
  refine z_evI (fun _ => ?_) (fun q => absurd (by decide) q)
  refine z_evL ?_
  refine z_evG 8 (y := if (I 142 m) = 0 then z_go 47 [some (.ref 127), some (.int 14), some (.int (I 142 m)), none] [.int ((I 127 31) - 1), .ref 142] 161 ((z_u2 I 127 33 ((I 127 33) - 1)), J, RF w) else z_go 51 [some (.ref 127), some (.int 14), some (.int (I 142 m)), none] [.int ((I 127 31) - 1), .ref 142] 161 ((z_u2 I 127 33 ((I 127 33) - 1)), J, RF w)) (fun _ => rfl) ?_
  refine z_evI (fun h2 => ?_) (fun h2 => ?_)
  · refine z_evL ?_
    refine z_evG 3 (y := z_ck (z_in ((I 127 31) - 1) 170) (z_go 53 [some (.ref 127), some (.int 14), some (.int (I 142 m)), none] [] 161 ((z_u2 (z_u2 I 127 33 ((I 127 33) - 1)) 142 (((I 127 31) - 1).toNatClampNeg) 1), J, RF w))) (fun _ => rfl) ?_
    refine z_evC (z_inN (k := m) (z_predE h_m) (by omega) (by decide)) ?_
    refine z_evL ?_
    rw [show (((I 127 31) - 1 : Int32)).toNatClampNeg = m from z_natE (z_predE h_m) (by omega)]
    refine z_evG 7 (y := some (.inr (none, 161, (z_u2 (z_u2 (z_u2 I 127 33 ((I 127 33) - 1)) 142 m 1) 127 28 ((I 127 28) - 1)), J, RF w))) (fun _ => rfl) ?_
    rw [z_predE h_k]
    exact z_evR (by rw [if_pos h2])
  · refine z_evL ?_
    refine z_evG 2 (y := z_ck (z_in ((I 127 31) - 1) 170) (z_go 53 [some (.ref 127), some (.int 14), some (.int (I 142 m)), none] [] 161 ((z_u2 (z_u2 I 127 33 ((I 127 33) - 1)) 142 (((I 127 31) - 1).toNatClampNeg) 0), J, RF w))) (fun _ => rfl) ?_
    refine z_evC (z_inN (k := m) (z_predE h_m) (by omega) (by decide)) ?_
    refine z_evL ?_
    rw [show (((I 127 31) - 1 : Int32)).toNatClampNeg = m from z_natE (z_predE h_m) (by omega)]
    refine z_evG 7 (y := some (.inr (none, 161, (z_u2 (z_u2 (z_u2 I 127 33 ((I 127 33) - 1)) 142 m 0) 127 28 ((I 127 28) - 1)), J, RF w))) (fun _ => rfl) ?_
    rw [z_predE h_k]
    exact z_evR (by rw [if_neg h2])
set_option maxRecDepth 20000 in
/-- LampHouseModel.work -/
theorem m_work_42 (E : zE) (d : Nat) (I : Nat → Nat → Int32) (J : Nat → Nat → Int64) (w : Nat) (k m : Nat) (h_k : I 127 33 = nI (k + 1)) (hk : k < 170) (hs : I 143 k = 42) (h_m : I 127 31 = nI (m + 2)) (hm : m + 2 ≤ 170) : z_cl E (d + 2) 207 [.ref 127] (161, I, J, RF w) = some (none, 161, (z_u2 (z_u2 (z_u2 I 127 33 (nI k)) 127 31 (nI (m + 1))) 142 m (I 142 m * I 142 (m + 1))), J, RF w) := by
  refine z_call (d := d + 1) (M := z_m207) rfl rfl ?_
  refine z_evG 2 (y := z_ret (z_cl E (d + 1) 205 [.ref 127] (161, (I, J, RF w))) 4 [some (.ref 127), none, none, none] []) (fun _ => rfl) ?_
  refine z_evK (v := .int 42) (z' := 161) (σ' := (I, J, RF w)) (m_topSign_s E d I J w k 42 h_k hk hs) ?_
  refine z_evG 14 (y := z_ild (z_ia E 161 ((z_u2 I 127 33 ((I 127 33) - 1)), J, RF w) 142) ((I 127 31) - 1) fun vv => z_go 26 [some (.ref 127), some (.int 42), none, none] [.int vv] 161 ((z_u2 I 127 33 ((I 127 33) - 1)), J, RF w)) (fun _ => rfl) ?_
  refine z_evBn (N := 170) (f := ((z_u2 I 127 33 ((I 127 33) - 1)) 142)) (k := (m + 1)) rfl (z_predE h_m) (by omega) ?_
  refine z_evL ?_
  refine z_evG 4 (y := if 42 = 14 then z_go 33 [some (.ref 127), some (.int 42), some (.int (I 142 (m + 1))), none] [] 161 ((z_u2 I 127 33 ((I 127 33) - 1)), J, RF w) else z_go 64 [some (.ref 127), some (.int 42), some (.int (I 142 (m + 1))), none] [] 161 ((z_u2 I 127 33 ((I 127 33) - 1)), J, RF w)) (fun _ => rfl) ?_
  refine z_evI (fun q => absurd q (by decide)) (fun _ => ?_)
  refine z_evL ?_
  refine z_evG 13 (y := z_ild (z_ia E 161 ((z_u2 (z_u2 I 127 33 ((I 127 33) - 1)) 127 31 ((I 127 31) - 1)), J, RF w) 142) (((I 127 31) - 1) - 1) fun vv => z_go 85 [some (.ref 127), some (.int 42), some (.int (I 142 (m + 1))), none] [.int vv] 161 ((z_u2 (z_u2 I 127 33 ((I 127 33) - 1)) 127 31 ((I 127 31) - 1)), J, RF w)) (fun _ => rfl) ?_
  refine z_evBn (N := 170) (f := ((z_u2 (z_u2 I 127 33 ((I 127 33) - 1)) 127 31 ((I 127 31) - 1)) 142)) (k := m) rfl (z_predE (z_predE h_m)) (by omega) ?_
  refine z_evL ?_
  refine z_evG 10 (y := if 42 = 42 then z_go 102 [some (.ref 127), some (.int 42), some (.int (I 142 (m + 1))), some (.int (I 142 m))] [.int (((I 127 31) - 1) - 1), .ref 142] 161 ((z_u2 (z_u2 I 127 33 ((I 127 33) - 1)) 127 31 ((I 127 31) - 1)), J, RF w) else z_go 108 [some (.ref 127), some (.int 42), some (.int (I 142 (m + 1))), some (.int (I 142 m))] [.int (((I 127 31) - 1) - 1), .ref 142] 161 ((z_u2 (z_u2 I 127 33 ((I 127 33) - 1)) 127 31 ((I 127 31) - 1)), J, RF w)) (fun _ => rfl) ?_
  refine z_evI (fun _ => ?_) (fun q => absurd (by decide) q)
  refine z_evL ?_
  refine z_evG 5 (y := z_ck (z_in (((I 127 31) - 1) - 1) 170) (z_go 206 [some (.ref 127), some (.int 42), some (.int (I 142 (m + 1))), some (.int (I 142 m))] [] 161 ((z_u2 (z_u2 (z_u2 I 127 33 ((I 127 33) - 1)) 127 31 ((I 127 31) - 1)) 142 ((((I 127 31) - 1) - 1).toNatClampNeg) ((I 142 m) * (I 142 (m + 1)))), J, RF w))) (fun _ => rfl) ?_
  refine z_evC (z_inN (k := m) (z_predE (z_predE h_m)) (by omega) (by decide)) ?_
  refine z_evL ?_
  rw [show ((((I 127 31) - 1) - 1 : Int32)).toNatClampNeg = m from z_natE (z_predE (z_predE h_m)) (by omega)]
  refine z_evG 1 (y := some (.inr (none, 161, (z_u2 (z_u2 (z_u2 I 127 33 ((I 127 33) - 1)) 127 31 ((I 127 31) - 1)) 142 m ((I 142 m) * (I 142 (m + 1)))), J, RF w))) (fun _ => rfl) ?_
  rw [z_predE h_k, show (I 127 31 : Int32) - 1 = nI (m + 1) from z_predE h_m]
  exact z_evR rfl
set_option maxRecDepth 20000 in
/-- LampHouseModel.work -/
theorem m_work_43 (E : zE) (d : Nat) (I : Nat → Nat → Int32) (J : Nat → Nat → Int64) (w : Nat) (k m : Nat) (h_k : I 127 33 = nI (k + 1)) (hk : k < 170) (hs : I 143 k = 43) (h_m : I 127 31 = nI (m + 2)) (hm : m + 2 ≤ 170) : z_cl E (d + 2) 207 [.ref 127] (161, I, J, RF w) = some (none, 161, (z_u2 (z_u2 (z_u2 I 127 33 (nI k)) 127 31 (nI (m + 1))) 142 m (I 142 m + I 142 (m + 1))), J, RF w) := by
  refine z_call (d := d + 1) (M := z_m207) rfl rfl ?_
  refine z_evG 2 (y := z_ret (z_cl E (d + 1) 205 [.ref 127] (161, (I, J, RF w))) 4 [some (.ref 127), none, none, none] []) (fun _ => rfl) ?_
  refine z_evK (v := .int 43) (z' := 161) (σ' := (I, J, RF w)) (m_topSign_s E d I J w k 43 h_k hk hs) ?_
  refine z_evG 14 (y := z_ild (z_ia E 161 ((z_u2 I 127 33 ((I 127 33) - 1)), J, RF w) 142) ((I 127 31) - 1) fun vv => z_go 26 [some (.ref 127), some (.int 43), none, none] [.int vv] 161 ((z_u2 I 127 33 ((I 127 33) - 1)), J, RF w)) (fun _ => rfl) ?_
  refine z_evBn (N := 170) (f := ((z_u2 I 127 33 ((I 127 33) - 1)) 142)) (k := (m + 1)) rfl (z_predE h_m) (by omega) ?_
  refine z_evL ?_
  refine z_evG 4 (y := if 43 = 14 then z_go 33 [some (.ref 127), some (.int 43), some (.int (I 142 (m + 1))), none] [] 161 ((z_u2 I 127 33 ((I 127 33) - 1)), J, RF w) else z_go 64 [some (.ref 127), some (.int 43), some (.int (I 142 (m + 1))), none] [] 161 ((z_u2 I 127 33 ((I 127 33) - 1)), J, RF w)) (fun _ => rfl) ?_
  refine z_evI (fun q => absurd q (by decide)) (fun _ => ?_)
  refine z_evL ?_
  refine z_evG 13 (y := z_ild (z_ia E 161 ((z_u2 (z_u2 I 127 33 ((I 127 33) - 1)) 127 31 ((I 127 31) - 1)), J, RF w) 142) (((I 127 31) - 1) - 1) fun vv => z_go 85 [some (.ref 127), some (.int 43), some (.int (I 142 (m + 1))), none] [.int vv] 161 ((z_u2 (z_u2 I 127 33 ((I 127 33) - 1)) 127 31 ((I 127 31) - 1)), J, RF w)) (fun _ => rfl) ?_
  refine z_evBn (N := 170) (f := ((z_u2 (z_u2 I 127 33 ((I 127 33) - 1)) 127 31 ((I 127 31) - 1)) 142)) (k := m) rfl (z_predE (z_predE h_m)) (by omega) ?_
  refine z_evL ?_
  refine z_evG 10 (y := if 43 = 42 then z_go 102 [some (.ref 127), some (.int 43), some (.int (I 142 (m + 1))), some (.int (I 142 m))] [.int (((I 127 31) - 1) - 1), .ref 142] 161 ((z_u2 (z_u2 I 127 33 ((I 127 33) - 1)) 127 31 ((I 127 31) - 1)), J, RF w) else z_go 108 [some (.ref 127), some (.int 43), some (.int (I 142 (m + 1))), some (.int (I 142 m))] [.int (((I 127 31) - 1) - 1), .ref 142] 161 ((z_u2 (z_u2 I 127 33 ((I 127 33) - 1)) 127 31 ((I 127 31) - 1)), J, RF w)) (fun _ => rfl) ?_
  refine z_evI (fun q => absurd q (by decide)) (fun _ => ?_)
  refine z_evL ?_
  refine z_evG 3 (y := if 43 = 43 then z_go 114 [some (.ref 127), some (.int 43), some (.int (I 142 (m + 1))), some (.int (I 142 m))] [.int (((I 127 31) - 1) - 1), .ref 142] 161 ((z_u2 (z_u2 I 127 33 ((I 127 33) - 1)) 127 31 ((I 127 31) - 1)), J, RF w) else z_go 120 [some (.ref 127), some (.int 43), some (.int (I 142 (m + 1))), some (.int (I 142 m))] [.int (((I 127 31) - 1) - 1), .ref 142] 161 ((z_u2 (z_u2 I 127 33 ((I 127 33) - 1)) 127 31 ((I 127 31) - 1)), J, RF w)) (fun _ => rfl) ?_
  refine z_evI (fun _ => ?_) (fun q => absurd (by decide) q)
  refine z_evL ?_
  refine z_evG 5 (y := z_ck (z_in (((I 127 31) - 1) - 1) 170) (z_go 206 [some (.ref 127), some (.int 43), some (.int (I 142 (m + 1))), some (.int (I 142 m))] [] 161 ((z_u2 (z_u2 (z_u2 I 127 33 ((I 127 33) - 1)) 127 31 ((I 127 31) - 1)) 142 ((((I 127 31) - 1) - 1).toNatClampNeg) ((I 142 m) + (I 142 (m + 1)))), J, RF w))) (fun _ => rfl) ?_
  refine z_evC (z_inN (k := m) (z_predE (z_predE h_m)) (by omega) (by decide)) ?_
  refine z_evL ?_
  rw [show ((((I 127 31) - 1) - 1 : Int32)).toNatClampNeg = m from z_natE (z_predE (z_predE h_m)) (by omega)]
  refine z_evG 1 (y := some (.inr (none, 161, (z_u2 (z_u2 (z_u2 I 127 33 ((I 127 33) - 1)) 127 31 ((I 127 31) - 1)) 142 m ((I 142 m) + (I 142 (m + 1)))), J, RF w))) (fun _ => rfl) ?_
  rw [z_predE h_k, show (I 127 31 : Int32) - 1 = nI (m + 1) from z_predE h_m]
  exact z_evR rfl
set_option maxRecDepth 20000 in
/-- LampHouseModel.work -/
theorem m_work_45 (E : zE) (d : Nat) (I : Nat → Nat → Int32) (J : Nat → Nat → Int64) (w : Nat) (k m : Nat) (h_k : I 127 33 = nI (k + 1)) (hk : k < 170) (hs : I 143 k = 45) (h_m : I 127 31 = nI (m + 2)) (hm : m + 2 ≤ 170) : z_cl E (d + 2) 207 [.ref 127] (161, I, J, RF w) = some (none, 161, (z_u2 (z_u2 (z_u2 I 127 33 (nI k)) 127 31 (nI (m + 1))) 142 m (I 142 m - I 142 (m + 1))), J, RF w) := by
  refine z_call (d := d + 1) (M := z_m207) rfl rfl ?_
  refine z_evG 2 (y := z_ret (z_cl E (d + 1) 205 [.ref 127] (161, (I, J, RF w))) 4 [some (.ref 127), none, none, none] []) (fun _ => rfl) ?_
  refine z_evK (v := .int 45) (z' := 161) (σ' := (I, J, RF w)) (m_topSign_s E d I J w k 45 h_k hk hs) ?_
  refine z_evG 14 (y := z_ild (z_ia E 161 ((z_u2 I 127 33 ((I 127 33) - 1)), J, RF w) 142) ((I 127 31) - 1) fun vv => z_go 26 [some (.ref 127), some (.int 45), none, none] [.int vv] 161 ((z_u2 I 127 33 ((I 127 33) - 1)), J, RF w)) (fun _ => rfl) ?_
  refine z_evBn (N := 170) (f := ((z_u2 I 127 33 ((I 127 33) - 1)) 142)) (k := (m + 1)) rfl (z_predE h_m) (by omega) ?_
  refine z_evL ?_
  refine z_evG 4 (y := if 45 = 14 then z_go 33 [some (.ref 127), some (.int 45), some (.int (I 142 (m + 1))), none] [] 161 ((z_u2 I 127 33 ((I 127 33) - 1)), J, RF w) else z_go 64 [some (.ref 127), some (.int 45), some (.int (I 142 (m + 1))), none] [] 161 ((z_u2 I 127 33 ((I 127 33) - 1)), J, RF w)) (fun _ => rfl) ?_
  refine z_evI (fun q => absurd q (by decide)) (fun _ => ?_)
  refine z_evL ?_
  refine z_evG 13 (y := z_ild (z_ia E 161 ((z_u2 (z_u2 I 127 33 ((I 127 33) - 1)) 127 31 ((I 127 31) - 1)), J, RF w) 142) (((I 127 31) - 1) - 1) fun vv => z_go 85 [some (.ref 127), some (.int 45), some (.int (I 142 (m + 1))), none] [.int vv] 161 ((z_u2 (z_u2 I 127 33 ((I 127 33) - 1)) 127 31 ((I 127 31) - 1)), J, RF w)) (fun _ => rfl) ?_
  refine z_evBn (N := 170) (f := ((z_u2 (z_u2 I 127 33 ((I 127 33) - 1)) 127 31 ((I 127 31) - 1)) 142)) (k := m) rfl (z_predE (z_predE h_m)) (by omega) ?_
  refine z_evL ?_
  refine z_evG 10 (y := if 45 = 42 then z_go 102 [some (.ref 127), some (.int 45), some (.int (I 142 (m + 1))), some (.int (I 142 m))] [.int (((I 127 31) - 1) - 1), .ref 142] 161 ((z_u2 (z_u2 I 127 33 ((I 127 33) - 1)) 127 31 ((I 127 31) - 1)), J, RF w) else z_go 108 [some (.ref 127), some (.int 45), some (.int (I 142 (m + 1))), some (.int (I 142 m))] [.int (((I 127 31) - 1) - 1), .ref 142] 161 ((z_u2 (z_u2 I 127 33 ((I 127 33) - 1)) 127 31 ((I 127 31) - 1)), J, RF w)) (fun _ => rfl) ?_
  refine z_evI (fun q => absurd q (by decide)) (fun _ => ?_)
  refine z_evL ?_
  refine z_evG 3 (y := if 45 = 43 then z_go 114 [some (.ref 127), some (.int 45), some (.int (I 142 (m + 1))), some (.int (I 142 m))] [.int (((I 127 31) - 1) - 1), .ref 142] 161 ((z_u2 (z_u2 I 127 33 ((I 127 33) - 1)) 127 31 ((I 127 31) - 1)), J, RF w) else z_go 120 [some (.ref 127), some (.int 45), some (.int (I 142 (m + 1))), some (.int (I 142 m))] [.int (((I 127 31) - 1) - 1), .ref 142] 161 ((z_u2 (z_u2 I 127 33 ((I 127 33) - 1)) 127 31 ((I 127 31) - 1)), J, RF w)) (fun _ => rfl) ?_
  refine z_evI (fun q => absurd q (by decide)) (fun _ => ?_)
  refine z_evL ?_
  refine z_evG 3 (y := if 45 = 45 then z_go 126 [some (.ref 127), some (.int 45), some (.int (I 142 (m + 1))), some (.int (I 142 m))] [.int (((I 127 31) - 1) - 1), .ref 142] 161 ((z_u2 (z_u2 I 127 33 ((I 127 33) - 1)) 127 31 ((I 127 31) - 1)), J, RF w) else z_go 132 [some (.ref 127), some (.int 45), some (.int (I 142 (m + 1))), some (.int (I 142 m))] [.int (((I 127 31) - 1) - 1), .ref 142] 161 ((z_u2 (z_u2 I 127 33 ((I 127 33) - 1)) 127 31 ((I 127 31) - 1)), J, RF w)) (fun _ => rfl) ?_
  refine z_evI (fun _ => ?_) (fun q => absurd (by decide) q)
  refine z_evL ?_
  refine z_evG 5 (y := z_ck (z_in (((I 127 31) - 1) - 1) 170) (z_go 206 [some (.ref 127), some (.int 45), some (.int (I 142 (m + 1))), some (.int (I 142 m))] [] 161 ((z_u2 (z_u2 (z_u2 I 127 33 ((I 127 33) - 1)) 127 31 ((I 127 31) - 1)) 142 ((((I 127 31) - 1) - 1).toNatClampNeg) ((I 142 m) - (I 142 (m + 1)))), J, RF w))) (fun _ => rfl) ?_
  refine z_evC (z_inN (k := m) (z_predE (z_predE h_m)) (by omega) (by decide)) ?_
  refine z_evL ?_
  rw [show ((((I 127 31) - 1) - 1 : Int32)).toNatClampNeg = m from z_natE (z_predE (z_predE h_m)) (by omega)]
  refine z_evG 1 (y := some (.inr (none, 161, (z_u2 (z_u2 (z_u2 I 127 33 ((I 127 33) - 1)) 127 31 ((I 127 31) - 1)) 142 m ((I 142 m) - (I 142 (m + 1)))), J, RF w))) (fun _ => rfl) ?_
  rw [z_predE h_k, show (I 127 31 : Int32) - 1 = nI (m + 1) from z_predE h_m]
  exact z_evR rfl
set_option maxRecDepth 20000 in
/-- LampHouseModel.work -/
theorem m_work_60 (E : zE) (d : Nat) (I : Nat → Nat → Int32) (J : Nat → Nat → Int64) (w : Nat) (k m : Nat) (h_k : I 127 33 = nI (k + 1)) (hk : k < 170) (hs : I 143 k = 60) (h_m : I 127 31 = nI (m + 2)) (hm : m + 2 ≤ 170) : z_cl E (d + 2) 207 [.ref 127] (161, I, J, RF w) = some (none, 161, (z_u2 (z_u2 (z_u2 I 127 33 (nI k)) 127 31 (nI (m + 1))) 142 m (if I 142 m < I 142 (m + 1) then 1 else 0)), J, RF w) := by
  refine z_call (d := d + 1) (M := z_m207) rfl rfl ?_
  refine z_evG 2 (y := z_ret (z_cl E (d + 1) 205 [.ref 127] (161, (I, J, RF w))) 4 [some (.ref 127), none, none, none] []) (fun _ => rfl) ?_
  refine z_evK (v := .int 60) (z' := 161) (σ' := (I, J, RF w)) (m_topSign_s E d I J w k 60 h_k hk hs) ?_
  refine z_evG 14 (y := z_ild (z_ia E 161 ((z_u2 I 127 33 ((I 127 33) - 1)), J, RF w) 142) ((I 127 31) - 1) fun vv => z_go 26 [some (.ref 127), some (.int 60), none, none] [.int vv] 161 ((z_u2 I 127 33 ((I 127 33) - 1)), J, RF w)) (fun _ => rfl) ?_
  refine z_evBn (N := 170) (f := ((z_u2 I 127 33 ((I 127 33) - 1)) 142)) (k := (m + 1)) rfl (z_predE h_m) (by omega) ?_
  refine z_evL ?_
  refine z_evG 4 (y := if 60 = 14 then z_go 33 [some (.ref 127), some (.int 60), some (.int (I 142 (m + 1))), none] [] 161 ((z_u2 I 127 33 ((I 127 33) - 1)), J, RF w) else z_go 64 [some (.ref 127), some (.int 60), some (.int (I 142 (m + 1))), none] [] 161 ((z_u2 I 127 33 ((I 127 33) - 1)), J, RF w)) (fun _ => rfl) ?_
  refine z_evI (fun q => absurd q (by decide)) (fun _ => ?_)
  refine z_evL ?_
  refine z_evG 13 (y := z_ild (z_ia E 161 ((z_u2 (z_u2 I 127 33 ((I 127 33) - 1)) 127 31 ((I 127 31) - 1)), J, RF w) 142) (((I 127 31) - 1) - 1) fun vv => z_go 85 [some (.ref 127), some (.int 60), some (.int (I 142 (m + 1))), none] [.int vv] 161 ((z_u2 (z_u2 I 127 33 ((I 127 33) - 1)) 127 31 ((I 127 31) - 1)), J, RF w)) (fun _ => rfl) ?_
  refine z_evBn (N := 170) (f := ((z_u2 (z_u2 I 127 33 ((I 127 33) - 1)) 127 31 ((I 127 31) - 1)) 142)) (k := m) rfl (z_predE (z_predE h_m)) (by omega) ?_
  refine z_evL ?_
  refine z_evG 10 (y := if 60 = 42 then z_go 102 [some (.ref 127), some (.int 60), some (.int (I 142 (m + 1))), some (.int (I 142 m))] [.int (((I 127 31) - 1) - 1), .ref 142] 161 ((z_u2 (z_u2 I 127 33 ((I 127 33) - 1)) 127 31 ((I 127 31) - 1)), J, RF w) else z_go 108 [some (.ref 127), some (.int 60), some (.int (I 142 (m + 1))), some (.int (I 142 m))] [.int (((I 127 31) - 1) - 1), .ref 142] 161 ((z_u2 (z_u2 I 127 33 ((I 127 33) - 1)) 127 31 ((I 127 31) - 1)), J, RF w)) (fun _ => rfl) ?_
  refine z_evI (fun q => absurd q (by decide)) (fun _ => ?_)
  refine z_evL ?_
  refine z_evG 3 (y := if 60 = 43 then z_go 114 [some (.ref 127), some (.int 60), some (.int (I 142 (m + 1))), some (.int (I 142 m))] [.int (((I 127 31) - 1) - 1), .ref 142] 161 ((z_u2 (z_u2 I 127 33 ((I 127 33) - 1)) 127 31 ((I 127 31) - 1)), J, RF w) else z_go 120 [some (.ref 127), some (.int 60), some (.int (I 142 (m + 1))), some (.int (I 142 m))] [.int (((I 127 31) - 1) - 1), .ref 142] 161 ((z_u2 (z_u2 I 127 33 ((I 127 33) - 1)) 127 31 ((I 127 31) - 1)), J, RF w)) (fun _ => rfl) ?_
  refine z_evI (fun q => absurd q (by decide)) (fun _ => ?_)
  refine z_evL ?_
  refine z_evG 3 (y := if 60 = 45 then z_go 126 [some (.ref 127), some (.int 60), some (.int (I 142 (m + 1))), some (.int (I 142 m))] [.int (((I 127 31) - 1) - 1), .ref 142] 161 ((z_u2 (z_u2 I 127 33 ((I 127 33) - 1)) 127 31 ((I 127 31) - 1)), J, RF w) else z_go 132 [some (.ref 127), some (.int 60), some (.int (I 142 (m + 1))), some (.int (I 142 m))] [.int (((I 127 31) - 1) - 1), .ref 142] 161 ((z_u2 (z_u2 I 127 33 ((I 127 33) - 1)) 127 31 ((I 127 31) - 1)), J, RF w)) (fun _ => rfl) ?_
  refine z_evI (fun q => absurd q (by decide)) (fun _ => ?_)
  refine z_evL ?_
  refine z_evG 3 (y := if 60 = 60 then z_go 138 [some (.ref 127), some (.int 60), some (.int (I 142 (m + 1))), some (.int (I 142 m))] [.int (((I 127 31) - 1) - 1), .ref 142] 161 ((z_u2 (z_u2 I 127 33 ((I 127 33) - 1)) 127 31 ((I 127 31) - 1)), J, RF w) else z_go 151 [some (.ref 127), some (.int 60), some (.int (I 142 (m + 1))), some (.int (I 142 m))] [.int (((I 127 31) - 1) - 1), .ref 142] 161 ((z_u2 (z_u2 I 127 33 ((I 127 33) - 1)) 127 31 ((I 127 31) - 1)), J, RF w)) (fun _ => rfl) ?_
  refine z_evI (fun _ => ?_) (fun q => absurd (by decide) q)
  refine z_evL ?_
  refine z_evG 3 (y := if (I 142 m) < (I 142 (m + 1)) then z_go 143 [some (.ref 127), some (.int 60), some (.int (I 142 (m + 1))), some (.int (I 142 m))] [.int (((I 127 31) - 1) - 1), .ref 142] 161 ((z_u2 (z_u2 I 127 33 ((I 127 33) - 1)) 127 31 ((I 127 31) - 1)), J, RF w) else z_go 147 [some (.ref 127), some (.int 60), some (.int (I 142 (m + 1))), some (.int (I 142 m))] [.int (((I 127 31) - 1) - 1), .ref 142] 161 ((z_u2 (z_u2 I 127 33 ((I 127 33) - 1)) 127 31 ((I 127 31) - 1)), J, RF w)) (fun _ => rfl) ?_
  refine z_evI (fun h6 => ?_) (fun h6 => ?_)
  · refine z_evL ?_
    refine z_evG 3 (y := z_ck (z_in (((I 127 31) - 1) - 1) 170) (z_go 206 [some (.ref 127), some (.int 60), some (.int (I 142 (m + 1))), some (.int (I 142 m))] [] 161 ((z_u2 (z_u2 (z_u2 I 127 33 ((I 127 33) - 1)) 127 31 ((I 127 31) - 1)) 142 ((((I 127 31) - 1) - 1).toNatClampNeg) 1), J, RF w))) (fun _ => rfl) ?_
    refine z_evC (z_inN (k := m) (z_predE (z_predE h_m)) (by omega) (by decide)) ?_
    refine z_evL ?_
    rw [show ((((I 127 31) - 1) - 1 : Int32)).toNatClampNeg = m from z_natE (z_predE (z_predE h_m)) (by omega)]
    refine z_evG 1 (y := some (.inr (none, 161, (z_u2 (z_u2 (z_u2 I 127 33 ((I 127 33) - 1)) 127 31 ((I 127 31) - 1)) 142 m 1), J, RF w))) (fun _ => rfl) ?_
    rw [z_predE h_k, show (I 127 31 : Int32) - 1 = nI (m + 1) from z_predE h_m]
    exact z_evR (by rw [if_pos h6])
  · refine z_evL ?_
    refine z_evG 3 (y := z_ck (z_in (((I 127 31) - 1) - 1) 170) (z_go 206 [some (.ref 127), some (.int 60), some (.int (I 142 (m + 1))), some (.int (I 142 m))] [] 161 ((z_u2 (z_u2 (z_u2 I 127 33 ((I 127 33) - 1)) 127 31 ((I 127 31) - 1)) 142 ((((I 127 31) - 1) - 1).toNatClampNeg) 0), J, RF w))) (fun _ => rfl) ?_
    refine z_evC (z_inN (k := m) (z_predE (z_predE h_m)) (by omega) (by decide)) ?_
    refine z_evL ?_
    rw [show ((((I 127 31) - 1) - 1 : Int32)).toNatClampNeg = m from z_natE (z_predE (z_predE h_m)) (by omega)]
    refine z_evG 1 (y := some (.inr (none, 161, (z_u2 (z_u2 (z_u2 I 127 33 ((I 127 33) - 1)) 127 31 ((I 127 31) - 1)) 142 m 0), J, RF w))) (fun _ => rfl) ?_
    rw [z_predE h_k, show (I 127 31 : Int32) - 1 = nI (m + 1) from z_predE h_m]
    exact z_evR (by rw [if_neg h6])
set_option maxRecDepth 20000 in
/-- LampHouseModel.work -/
theorem m_work_61 (E : zE) (d : Nat) (I : Nat → Nat → Int32) (J : Nat → Nat → Int64) (w : Nat) (k m : Nat) (h_k : I 127 33 = nI (k + 1)) (hk : k < 170) (hs : I 143 k = 61) (h_m : I 127 31 = nI (m + 2)) (hm : m + 2 ≤ 170) : z_cl E (d + 2) 207 [.ref 127] (161, I, J, RF w) = some (none, 161, (z_u2 (z_u2 (z_u2 I 127 33 (nI k)) 127 31 (nI (m + 1))) 142 m (if I 142 m = I 142 (m + 1) then 1 else 0)), J, RF w) := by
  refine z_call (d := d + 1) (M := z_m207) rfl rfl ?_
  refine z_evG 2 (y := z_ret (z_cl E (d + 1) 205 [.ref 127] (161, (I, J, RF w))) 4 [some (.ref 127), none, none, none] []) (fun _ => rfl) ?_
  refine z_evK (v := .int 61) (z' := 161) (σ' := (I, J, RF w)) (m_topSign_s E d I J w k 61 h_k hk hs) ?_
  refine z_evG 14 (y := z_ild (z_ia E 161 ((z_u2 I 127 33 ((I 127 33) - 1)), J, RF w) 142) ((I 127 31) - 1) fun vv => z_go 26 [some (.ref 127), some (.int 61), none, none] [.int vv] 161 ((z_u2 I 127 33 ((I 127 33) - 1)), J, RF w)) (fun _ => rfl) ?_
  refine z_evBn (N := 170) (f := ((z_u2 I 127 33 ((I 127 33) - 1)) 142)) (k := (m + 1)) rfl (z_predE h_m) (by omega) ?_
  refine z_evL ?_
  refine z_evG 4 (y := if 61 = 14 then z_go 33 [some (.ref 127), some (.int 61), some (.int (I 142 (m + 1))), none] [] 161 ((z_u2 I 127 33 ((I 127 33) - 1)), J, RF w) else z_go 64 [some (.ref 127), some (.int 61), some (.int (I 142 (m + 1))), none] [] 161 ((z_u2 I 127 33 ((I 127 33) - 1)), J, RF w)) (fun _ => rfl) ?_
  refine z_evI (fun q => absurd q (by decide)) (fun _ => ?_)
  refine z_evL ?_
  refine z_evG 13 (y := z_ild (z_ia E 161 ((z_u2 (z_u2 I 127 33 ((I 127 33) - 1)) 127 31 ((I 127 31) - 1)), J, RF w) 142) (((I 127 31) - 1) - 1) fun vv => z_go 85 [some (.ref 127), some (.int 61), some (.int (I 142 (m + 1))), none] [.int vv] 161 ((z_u2 (z_u2 I 127 33 ((I 127 33) - 1)) 127 31 ((I 127 31) - 1)), J, RF w)) (fun _ => rfl) ?_
  refine z_evBn (N := 170) (f := ((z_u2 (z_u2 I 127 33 ((I 127 33) - 1)) 127 31 ((I 127 31) - 1)) 142)) (k := m) rfl (z_predE (z_predE h_m)) (by omega) ?_
  refine z_evL ?_
  refine z_evG 10 (y := if 61 = 42 then z_go 102 [some (.ref 127), some (.int 61), some (.int (I 142 (m + 1))), some (.int (I 142 m))] [.int (((I 127 31) - 1) - 1), .ref 142] 161 ((z_u2 (z_u2 I 127 33 ((I 127 33) - 1)) 127 31 ((I 127 31) - 1)), J, RF w) else z_go 108 [some (.ref 127), some (.int 61), some (.int (I 142 (m + 1))), some (.int (I 142 m))] [.int (((I 127 31) - 1) - 1), .ref 142] 161 ((z_u2 (z_u2 I 127 33 ((I 127 33) - 1)) 127 31 ((I 127 31) - 1)), J, RF w)) (fun _ => rfl) ?_
  refine z_evI (fun q => absurd q (by decide)) (fun _ => ?_)
  refine z_evL ?_
  refine z_evG 3 (y := if 61 = 43 then z_go 114 [some (.ref 127), some (.int 61), some (.int (I 142 (m + 1))), some (.int (I 142 m))] [.int (((I 127 31) - 1) - 1), .ref 142] 161 ((z_u2 (z_u2 I 127 33 ((I 127 33) - 1)) 127 31 ((I 127 31) - 1)), J, RF w) else z_go 120 [some (.ref 127), some (.int 61), some (.int (I 142 (m + 1))), some (.int (I 142 m))] [.int (((I 127 31) - 1) - 1), .ref 142] 161 ((z_u2 (z_u2 I 127 33 ((I 127 33) - 1)) 127 31 ((I 127 31) - 1)), J, RF w)) (fun _ => rfl) ?_
  refine z_evI (fun q => absurd q (by decide)) (fun _ => ?_)
  refine z_evL ?_
  refine z_evG 3 (y := if 61 = 45 then z_go 126 [some (.ref 127), some (.int 61), some (.int (I 142 (m + 1))), some (.int (I 142 m))] [.int (((I 127 31) - 1) - 1), .ref 142] 161 ((z_u2 (z_u2 I 127 33 ((I 127 33) - 1)) 127 31 ((I 127 31) - 1)), J, RF w) else z_go 132 [some (.ref 127), some (.int 61), some (.int (I 142 (m + 1))), some (.int (I 142 m))] [.int (((I 127 31) - 1) - 1), .ref 142] 161 ((z_u2 (z_u2 I 127 33 ((I 127 33) - 1)) 127 31 ((I 127 31) - 1)), J, RF w)) (fun _ => rfl) ?_
  refine z_evI (fun q => absurd q (by decide)) (fun _ => ?_)
  refine z_evL ?_
  refine z_evG 3 (y := if 61 = 60 then z_go 138 [some (.ref 127), some (.int 61), some (.int (I 142 (m + 1))), some (.int (I 142 m))] [.int (((I 127 31) - 1) - 1), .ref 142] 161 ((z_u2 (z_u2 I 127 33 ((I 127 33) - 1)) 127 31 ((I 127 31) - 1)), J, RF w) else z_go 151 [some (.ref 127), some (.int 61), some (.int (I 142 (m + 1))), some (.int (I 142 m))] [.int (((I 127 31) - 1) - 1), .ref 142] 161 ((z_u2 (z_u2 I 127 33 ((I 127 33) - 1)) 127 31 ((I 127 31) - 1)), J, RF w)) (fun _ => rfl) ?_
  refine z_evI (fun q => absurd q (by decide)) (fun _ => ?_)
  refine z_evL ?_
  refine z_evG 3 (y := if 61 = 61 then z_go 157 [some (.ref 127), some (.int 61), some (.int (I 142 (m + 1))), some (.int (I 142 m))] [.int (((I 127 31) - 1) - 1), .ref 142] 161 ((z_u2 (z_u2 I 127 33 ((I 127 33) - 1)) 127 31 ((I 127 31) - 1)), J, RF w) else z_go 170 [some (.ref 127), some (.int 61), some (.int (I 142 (m + 1))), some (.int (I 142 m))] [.int (((I 127 31) - 1) - 1), .ref 142] 161 ((z_u2 (z_u2 I 127 33 ((I 127 33) - 1)) 127 31 ((I 127 31) - 1)), J, RF w)) (fun _ => rfl) ?_
  refine z_evI (fun _ => ?_) (fun q => absurd (by decide) q)
  refine z_evL ?_
  refine z_evG 3 (y := if (I 142 m) = (I 142 (m + 1)) then z_go 162 [some (.ref 127), some (.int 61), some (.int (I 142 (m + 1))), some (.int (I 142 m))] [.int (((I 127 31) - 1) - 1), .ref 142] 161 ((z_u2 (z_u2 I 127 33 ((I 127 33) - 1)) 127 31 ((I 127 31) - 1)), J, RF w) else z_go 166 [some (.ref 127), some (.int 61), some (.int (I 142 (m + 1))), some (.int (I 142 m))] [.int (((I 127 31) - 1) - 1), .ref 142] 161 ((z_u2 (z_u2 I 127 33 ((I 127 33) - 1)) 127 31 ((I 127 31) - 1)), J, RF w)) (fun _ => rfl) ?_
  refine z_evI (fun h7 => ?_) (fun h7 => ?_)
  · refine z_evL ?_
    refine z_evG 3 (y := z_ck (z_in (((I 127 31) - 1) - 1) 170) (z_go 206 [some (.ref 127), some (.int 61), some (.int (I 142 (m + 1))), some (.int (I 142 m))] [] 161 ((z_u2 (z_u2 (z_u2 I 127 33 ((I 127 33) - 1)) 127 31 ((I 127 31) - 1)) 142 ((((I 127 31) - 1) - 1).toNatClampNeg) 1), J, RF w))) (fun _ => rfl) ?_
    refine z_evC (z_inN (k := m) (z_predE (z_predE h_m)) (by omega) (by decide)) ?_
    refine z_evL ?_
    rw [show ((((I 127 31) - 1) - 1 : Int32)).toNatClampNeg = m from z_natE (z_predE (z_predE h_m)) (by omega)]
    refine z_evG 1 (y := some (.inr (none, 161, (z_u2 (z_u2 (z_u2 I 127 33 ((I 127 33) - 1)) 127 31 ((I 127 31) - 1)) 142 m 1), J, RF w))) (fun _ => rfl) ?_
    rw [z_predE h_k, show (I 127 31 : Int32) - 1 = nI (m + 1) from z_predE h_m]
    exact z_evR (by rw [if_pos h7])
  · refine z_evL ?_
    refine z_evG 3 (y := z_ck (z_in (((I 127 31) - 1) - 1) 170) (z_go 206 [some (.ref 127), some (.int 61), some (.int (I 142 (m + 1))), some (.int (I 142 m))] [] 161 ((z_u2 (z_u2 (z_u2 I 127 33 ((I 127 33) - 1)) 127 31 ((I 127 31) - 1)) 142 ((((I 127 31) - 1) - 1).toNatClampNeg) 0), J, RF w))) (fun _ => rfl) ?_
    refine z_evC (z_inN (k := m) (z_predE (z_predE h_m)) (by omega) (by decide)) ?_
    refine z_evL ?_
    rw [show ((((I 127 31) - 1) - 1 : Int32)).toNatClampNeg = m from z_natE (z_predE (z_predE h_m)) (by omega)]
    refine z_evG 1 (y := some (.inr (none, 161, (z_u2 (z_u2 (z_u2 I 127 33 ((I 127 33) - 1)) 127 31 ((I 127 31) - 1)) 142 m 0), J, RF w))) (fun _ => rfl) ?_
    rw [z_predE h_k, show (I 127 31 : Int32) - 1 = nI (m + 1) from z_predE h_m]
    exact z_evR (by rw [if_neg h7])
set_option maxRecDepth 20000 in
/-- LampHouseModel.work -/
theorem m_work_13 (E : zE) (d : Nat) (I : Nat → Nat → Int32) (J : Nat → Nat → Int64) (w : Nat) (k m : Nat) (h_k : I 127 33 = nI (k + 1)) (hk : k < 170) (hs : I 143 k = 13) (h_m : I 127 31 = nI (m + 2)) (hm : m + 2 ≤ 170) : z_cl E (d + 2) 207 [.ref 127] (161, I, J, RF w) = some (none, 161, (z_u2 (z_u2 (z_u2 I 127 33 (nI k)) 127 31 (nI (m + 1))) 142 m (if ¬ I 142 m = 0 ∧ ¬ I 142 (m + 1) = 0 then 1 else 0)), J, RF w) := by
  refine z_call (d := d + 1) (M := z_m207) rfl rfl ?_
  refine z_evG 2 (y := z_ret (z_cl E (d + 1) 205 [.ref 127] (161, (I, J, RF w))) 4 [some (.ref 127), none, none, none] []) (fun _ => rfl) ?_
  refine z_evK (v := .int 13) (z' := 161) (σ' := (I, J, RF w)) (m_topSign_s E d I J w k 13 h_k hk hs) ?_
  refine z_evG 14 (y := z_ild (z_ia E 161 ((z_u2 I 127 33 ((I 127 33) - 1)), J, RF w) 142) ((I 127 31) - 1) fun vv => z_go 26 [some (.ref 127), some (.int 13), none, none] [.int vv] 161 ((z_u2 I 127 33 ((I 127 33) - 1)), J, RF w)) (fun _ => rfl) ?_
  refine z_evBn (N := 170) (f := ((z_u2 I 127 33 ((I 127 33) - 1)) 142)) (k := (m + 1)) rfl (z_predE h_m) (by omega) ?_
  refine z_evL ?_
  refine z_evG 4 (y := if 13 = 14 then z_go 33 [some (.ref 127), some (.int 13), some (.int (I 142 (m + 1))), none] [] 161 ((z_u2 I 127 33 ((I 127 33) - 1)), J, RF w) else z_go 64 [some (.ref 127), some (.int 13), some (.int (I 142 (m + 1))), none] [] 161 ((z_u2 I 127 33 ((I 127 33) - 1)), J, RF w)) (fun _ => rfl) ?_
  refine z_evI (fun q => absurd q (by decide)) (fun _ => ?_)
  refine z_evL ?_
  refine z_evG 13 (y := z_ild (z_ia E 161 ((z_u2 (z_u2 I 127 33 ((I 127 33) - 1)) 127 31 ((I 127 31) - 1)), J, RF w) 142) (((I 127 31) - 1) - 1) fun vv => z_go 85 [some (.ref 127), some (.int 13), some (.int (I 142 (m + 1))), none] [.int vv] 161 ((z_u2 (z_u2 I 127 33 ((I 127 33) - 1)) 127 31 ((I 127 31) - 1)), J, RF w)) (fun _ => rfl) ?_
  refine z_evBn (N := 170) (f := ((z_u2 (z_u2 I 127 33 ((I 127 33) - 1)) 127 31 ((I 127 31) - 1)) 142)) (k := m) rfl (z_predE (z_predE h_m)) (by omega) ?_
  refine z_evL ?_
  refine z_evG 10 (y := if 13 = 42 then z_go 102 [some (.ref 127), some (.int 13), some (.int (I 142 (m + 1))), some (.int (I 142 m))] [.int (((I 127 31) - 1) - 1), .ref 142] 161 ((z_u2 (z_u2 I 127 33 ((I 127 33) - 1)) 127 31 ((I 127 31) - 1)), J, RF w) else z_go 108 [some (.ref 127), some (.int 13), some (.int (I 142 (m + 1))), some (.int (I 142 m))] [.int (((I 127 31) - 1) - 1), .ref 142] 161 ((z_u2 (z_u2 I 127 33 ((I 127 33) - 1)) 127 31 ((I 127 31) - 1)), J, RF w)) (fun _ => rfl) ?_
  refine z_evI (fun q => absurd q (by decide)) (fun _ => ?_)
  refine z_evL ?_
  refine z_evG 3 (y := if 13 = 43 then z_go 114 [some (.ref 127), some (.int 13), some (.int (I 142 (m + 1))), some (.int (I 142 m))] [.int (((I 127 31) - 1) - 1), .ref 142] 161 ((z_u2 (z_u2 I 127 33 ((I 127 33) - 1)) 127 31 ((I 127 31) - 1)), J, RF w) else z_go 120 [some (.ref 127), some (.int 13), some (.int (I 142 (m + 1))), some (.int (I 142 m))] [.int (((I 127 31) - 1) - 1), .ref 142] 161 ((z_u2 (z_u2 I 127 33 ((I 127 33) - 1)) 127 31 ((I 127 31) - 1)), J, RF w)) (fun _ => rfl) ?_
  refine z_evI (fun q => absurd q (by decide)) (fun _ => ?_)
  refine z_evL ?_
  refine z_evG 3 (y := if 13 = 45 then z_go 126 [some (.ref 127), some (.int 13), some (.int (I 142 (m + 1))), some (.int (I 142 m))] [.int (((I 127 31) - 1) - 1), .ref 142] 161 ((z_u2 (z_u2 I 127 33 ((I 127 33) - 1)) 127 31 ((I 127 31) - 1)), J, RF w) else z_go 132 [some (.ref 127), some (.int 13), some (.int (I 142 (m + 1))), some (.int (I 142 m))] [.int (((I 127 31) - 1) - 1), .ref 142] 161 ((z_u2 (z_u2 I 127 33 ((I 127 33) - 1)) 127 31 ((I 127 31) - 1)), J, RF w)) (fun _ => rfl) ?_
  refine z_evI (fun q => absurd q (by decide)) (fun _ => ?_)
  refine z_evL ?_
  refine z_evG 3 (y := if 13 = 60 then z_go 138 [some (.ref 127), some (.int 13), some (.int (I 142 (m + 1))), some (.int (I 142 m))] [.int (((I 127 31) - 1) - 1), .ref 142] 161 ((z_u2 (z_u2 I 127 33 ((I 127 33) - 1)) 127 31 ((I 127 31) - 1)), J, RF w) else z_go 151 [some (.ref 127), some (.int 13), some (.int (I 142 (m + 1))), some (.int (I 142 m))] [.int (((I 127 31) - 1) - 1), .ref 142] 161 ((z_u2 (z_u2 I 127 33 ((I 127 33) - 1)) 127 31 ((I 127 31) - 1)), J, RF w)) (fun _ => rfl) ?_
  refine z_evI (fun q => absurd q (by decide)) (fun _ => ?_)
  refine z_evL ?_
  refine z_evG 3 (y := if 13 = 61 then z_go 157 [some (.ref 127), some (.int 13), some (.int (I 142 (m + 1))), some (.int (I 142 m))] [.int (((I 127 31) - 1) - 1), .ref 142] 161 ((z_u2 (z_u2 I 127 33 ((I 127 33) - 1)) 127 31 ((I 127 31) - 1)), J, RF w) else z_go 170 [some (.ref 127), some (.int 13), some (.int (I 142 (m + 1))), some (.int (I 142 m))] [.int (((I 127 31) - 1) - 1), .ref 142] 161 ((z_u2 (z_u2 I 127 33 ((I 127 33) - 1)) 127 31 ((I 127 31) - 1)), J, RF w)) (fun _ => rfl) ?_
  refine z_evI (fun q => absurd q (by decide)) (fun _ => ?_)
  refine z_evL ?_
  refine z_evG 3 (y := if 13 = 13 then z_go 176 [some (.ref 127), some (.int 13), some (.int (I 142 (m + 1))), some (.int (I 142 m))] [.int (((I 127 31) - 1) - 1), .ref 142] 161 ((z_u2 (z_u2 I 127 33 ((I 127 33) - 1)) 127 31 ((I 127 31) - 1)), J, RF w) else z_go 192 [some (.ref 127), some (.int 13), some (.int (I 142 (m + 1))), some (.int (I 142 m))] [.int (((I 127 31) - 1) - 1), .ref 142] 161 ((z_u2 (z_u2 I 127 33 ((I 127 33) - 1)) 127 31 ((I 127 31) - 1)), J, RF w)) (fun _ => rfl) ?_
  refine z_evI (fun _ => ?_) (fun q => absurd (by decide) q)
  refine z_evL ?_
  refine z_evG 2 (y := if (I 142 m) = 0 then z_go 188 [some (.ref 127), some (.int 13), some (.int (I 142 (m + 1))), some (.int (I 142 m))] [.int (((I 127 31) - 1) - 1), .ref 142] 161 ((z_u2 (z_u2 I 127 33 ((I 127 33) - 1)) 127 31 ((I 127 31) - 1)), J, RF w) else z_go 180 [some (.ref 127), some (.int 13), some (.int (I 142 (m + 1))), some (.int (I 142 m))] [.int (((I 127 31) - 1) - 1), .ref 142] 161 ((z_u2 (z_u2 I 127 33 ((I 127 33) - 1)) 127 31 ((I 127 31) - 1)), J, RF w)) (fun _ => rfl) ?_
  refine z_evI (fun h8 => ?_) (fun h8 => ?_)
  · refine z_evL ?_
    refine z_evG 3 (y := z_ck (z_in (((I 127 31) - 1) - 1) 170) (z_go 206 [some (.ref 127), some (.int 13), some (.int (I 142 (m + 1))), some (.int (I 142 m))] [] 161 ((z_u2 (z_u2 (z_u2 I 127 33 ((I 127 33) - 1)) 127 31 ((I 127 31) - 1)) 142 ((((I 127 31) - 1) - 1).toNatClampNeg) 0), J, RF w))) (fun _ => rfl) ?_
    refine z_evC (z_inN (k := m) (z_predE (z_predE h_m)) (by omega) (by decide)) ?_
    refine z_evL ?_
    rw [show ((((I 127 31) - 1) - 1 : Int32)).toNatClampNeg = m from z_natE (z_predE (z_predE h_m)) (by omega)]
    refine z_evG 1 (y := some (.inr (none, 161, (z_u2 (z_u2 (z_u2 I 127 33 ((I 127 33) - 1)) 127 31 ((I 127 31) - 1)) 142 m 0), J, RF w))) (fun _ => rfl) ?_
    rw [z_predE h_k, show (I 127 31 : Int32) - 1 = nI (m + 1) from z_predE h_m]
    exact z_evR (by rw [if_neg (fun q => q.1 h8)])
  · refine z_evL ?_
    refine z_evG 2 (y := if (I 142 (m + 1)) = 0 then z_go 188 [some (.ref 127), some (.int 13), some (.int (I 142 (m + 1))), some (.int (I 142 m))] [.int (((I 127 31) - 1) - 1), .ref 142] 161 ((z_u2 (z_u2 I 127 33 ((I 127 33) - 1)) 127 31 ((I 127 31) - 1)), J, RF w) else z_go 184 [some (.ref 127), some (.int 13), some (.int (I 142 (m + 1))), some (.int (I 142 m))] [.int (((I 127 31) - 1) - 1), .ref 142] 161 ((z_u2 (z_u2 I 127 33 ((I 127 33) - 1)) 127 31 ((I 127 31) - 1)), J, RF w)) (fun _ => rfl) ?_
    refine z_evI (fun h9 => ?_) (fun h9 => ?_)
    · refine z_evL ?_
      refine z_evG 3 (y := z_ck (z_in (((I 127 31) - 1) - 1) 170) (z_go 206 [some (.ref 127), some (.int 13), some (.int (I 142 (m + 1))), some (.int (I 142 m))] [] 161 ((z_u2 (z_u2 (z_u2 I 127 33 ((I 127 33) - 1)) 127 31 ((I 127 31) - 1)) 142 ((((I 127 31) - 1) - 1).toNatClampNeg) 0), J, RF w))) (fun _ => rfl) ?_
      refine z_evC (z_inN (k := m) (z_predE (z_predE h_m)) (by omega) (by decide)) ?_
      refine z_evL ?_
      rw [show ((((I 127 31) - 1) - 1 : Int32)).toNatClampNeg = m from z_natE (z_predE (z_predE h_m)) (by omega)]
      refine z_evG 1 (y := some (.inr (none, 161, (z_u2 (z_u2 (z_u2 I 127 33 ((I 127 33) - 1)) 127 31 ((I 127 31) - 1)) 142 m 0), J, RF w))) (fun _ => rfl) ?_
      rw [z_predE h_k, show (I 127 31 : Int32) - 1 = nI (m + 1) from z_predE h_m]
      exact z_evR (by rw [if_neg (fun q => q.2 h9)])
    · refine z_evL ?_
      refine z_evG 3 (y := z_ck (z_in (((I 127 31) - 1) - 1) 170) (z_go 206 [some (.ref 127), some (.int 13), some (.int (I 142 (m + 1))), some (.int (I 142 m))] [] 161 ((z_u2 (z_u2 (z_u2 I 127 33 ((I 127 33) - 1)) 127 31 ((I 127 31) - 1)) 142 ((((I 127 31) - 1) - 1).toNatClampNeg) 1), J, RF w))) (fun _ => rfl) ?_
      refine z_evC (z_inN (k := m) (z_predE (z_predE h_m)) (by omega) (by decide)) ?_
      refine z_evL ?_
      rw [show ((((I 127 31) - 1) - 1 : Int32)).toNatClampNeg = m from z_natE (z_predE (z_predE h_m)) (by omega)]
      refine z_evG 1 (y := some (.inr (none, 161, (z_u2 (z_u2 (z_u2 I 127 33 ((I 127 33) - 1)) 127 31 ((I 127 31) - 1)) 142 m 1), J, RF w))) (fun _ => rfl) ?_
      rw [z_predE h_k, show (I 127 31 : Int32) - 1 = nI (m + 1) from z_predE h_m]
      exact z_evR (by rw [if_pos ⟨h8, h9⟩])
set_option maxRecDepth 20000 in
/-- LampHouseModel.work -/
theorem m_work_12 (E : zE) (d : Nat) (I : Nat → Nat → Int32) (J : Nat → Nat → Int64) (w : Nat) (k m : Nat) (h_k : I 127 33 = nI (k + 1)) (hk : k < 170) (hs : I 143 k = 12) (h_m : I 127 31 = nI (m + 2)) (hm : m + 2 ≤ 170) : z_cl E (d + 2) 207 [.ref 127] (161, I, J, RF w) = some (none, 161, (z_u2 (z_u2 (z_u2 I 127 33 (nI k)) 127 31 (nI (m + 1))) 142 m (if ¬ I 142 m = 0 ∨ ¬ I 142 (m + 1) = 0 then 1 else 0)), J, RF w) := by
  refine z_call (d := d + 1) (M := z_m207) rfl rfl ?_
  refine z_evG 2 (y := z_ret (z_cl E (d + 1) 205 [.ref 127] (161, (I, J, RF w))) 4 [some (.ref 127), none, none, none] []) (fun _ => rfl) ?_
  refine z_evK (v := .int 12) (z' := 161) (σ' := (I, J, RF w)) (m_topSign_s E d I J w k 12 h_k hk hs) ?_
  refine z_evG 14 (y := z_ild (z_ia E 161 ((z_u2 I 127 33 ((I 127 33) - 1)), J, RF w) 142) ((I 127 31) - 1) fun vv => z_go 26 [some (.ref 127), some (.int 12), none, none] [.int vv] 161 ((z_u2 I 127 33 ((I 127 33) - 1)), J, RF w)) (fun _ => rfl) ?_
  refine z_evBn (N := 170) (f := ((z_u2 I 127 33 ((I 127 33) - 1)) 142)) (k := (m + 1)) rfl (z_predE h_m) (by omega) ?_
  refine z_evL ?_
  refine z_evG 4 (y := if 12 = 14 then z_go 33 [some (.ref 127), some (.int 12), some (.int (I 142 (m + 1))), none] [] 161 ((z_u2 I 127 33 ((I 127 33) - 1)), J, RF w) else z_go 64 [some (.ref 127), some (.int 12), some (.int (I 142 (m + 1))), none] [] 161 ((z_u2 I 127 33 ((I 127 33) - 1)), J, RF w)) (fun _ => rfl) ?_
  refine z_evI (fun q => absurd q (by decide)) (fun _ => ?_)
  refine z_evL ?_
  refine z_evG 13 (y := z_ild (z_ia E 161 ((z_u2 (z_u2 I 127 33 ((I 127 33) - 1)) 127 31 ((I 127 31) - 1)), J, RF w) 142) (((I 127 31) - 1) - 1) fun vv => z_go 85 [some (.ref 127), some (.int 12), some (.int (I 142 (m + 1))), none] [.int vv] 161 ((z_u2 (z_u2 I 127 33 ((I 127 33) - 1)) 127 31 ((I 127 31) - 1)), J, RF w)) (fun _ => rfl) ?_
  refine z_evBn (N := 170) (f := ((z_u2 (z_u2 I 127 33 ((I 127 33) - 1)) 127 31 ((I 127 31) - 1)) 142)) (k := m) rfl (z_predE (z_predE h_m)) (by omega) ?_
  refine z_evL ?_
  refine z_evG 10 (y := if 12 = 42 then z_go 102 [some (.ref 127), some (.int 12), some (.int (I 142 (m + 1))), some (.int (I 142 m))] [.int (((I 127 31) - 1) - 1), .ref 142] 161 ((z_u2 (z_u2 I 127 33 ((I 127 33) - 1)) 127 31 ((I 127 31) - 1)), J, RF w) else z_go 108 [some (.ref 127), some (.int 12), some (.int (I 142 (m + 1))), some (.int (I 142 m))] [.int (((I 127 31) - 1) - 1), .ref 142] 161 ((z_u2 (z_u2 I 127 33 ((I 127 33) - 1)) 127 31 ((I 127 31) - 1)), J, RF w)) (fun _ => rfl) ?_
  refine z_evI (fun q => absurd q (by decide)) (fun _ => ?_)
  refine z_evL ?_
  refine z_evG 3 (y := if 12 = 43 then z_go 114 [some (.ref 127), some (.int 12), some (.int (I 142 (m + 1))), some (.int (I 142 m))] [.int (((I 127 31) - 1) - 1), .ref 142] 161 ((z_u2 (z_u2 I 127 33 ((I 127 33) - 1)) 127 31 ((I 127 31) - 1)), J, RF w) else z_go 120 [some (.ref 127), some (.int 12), some (.int (I 142 (m + 1))), some (.int (I 142 m))] [.int (((I 127 31) - 1) - 1), .ref 142] 161 ((z_u2 (z_u2 I 127 33 ((I 127 33) - 1)) 127 31 ((I 127 31) - 1)), J, RF w)) (fun _ => rfl) ?_
  refine z_evI (fun q => absurd q (by decide)) (fun _ => ?_)
  refine z_evL ?_
  refine z_evG 3 (y := if 12 = 45 then z_go 126 [some (.ref 127), some (.int 12), some (.int (I 142 (m + 1))), some (.int (I 142 m))] [.int (((I 127 31) - 1) - 1), .ref 142] 161 ((z_u2 (z_u2 I 127 33 ((I 127 33) - 1)) 127 31 ((I 127 31) - 1)), J, RF w) else z_go 132 [some (.ref 127), some (.int 12), some (.int (I 142 (m + 1))), some (.int (I 142 m))] [.int (((I 127 31) - 1) - 1), .ref 142] 161 ((z_u2 (z_u2 I 127 33 ((I 127 33) - 1)) 127 31 ((I 127 31) - 1)), J, RF w)) (fun _ => rfl) ?_
  refine z_evI (fun q => absurd q (by decide)) (fun _ => ?_)
  refine z_evL ?_
  refine z_evG 3 (y := if 12 = 60 then z_go 138 [some (.ref 127), some (.int 12), some (.int (I 142 (m + 1))), some (.int (I 142 m))] [.int (((I 127 31) - 1) - 1), .ref 142] 161 ((z_u2 (z_u2 I 127 33 ((I 127 33) - 1)) 127 31 ((I 127 31) - 1)), J, RF w) else z_go 151 [some (.ref 127), some (.int 12), some (.int (I 142 (m + 1))), some (.int (I 142 m))] [.int (((I 127 31) - 1) - 1), .ref 142] 161 ((z_u2 (z_u2 I 127 33 ((I 127 33) - 1)) 127 31 ((I 127 31) - 1)), J, RF w)) (fun _ => rfl) ?_
  refine z_evI (fun q => absurd q (by decide)) (fun _ => ?_)
  refine z_evL ?_
  refine z_evG 3 (y := if 12 = 61 then z_go 157 [some (.ref 127), some (.int 12), some (.int (I 142 (m + 1))), some (.int (I 142 m))] [.int (((I 127 31) - 1) - 1), .ref 142] 161 ((z_u2 (z_u2 I 127 33 ((I 127 33) - 1)) 127 31 ((I 127 31) - 1)), J, RF w) else z_go 170 [some (.ref 127), some (.int 12), some (.int (I 142 (m + 1))), some (.int (I 142 m))] [.int (((I 127 31) - 1) - 1), .ref 142] 161 ((z_u2 (z_u2 I 127 33 ((I 127 33) - 1)) 127 31 ((I 127 31) - 1)), J, RF w)) (fun _ => rfl) ?_
  refine z_evI (fun q => absurd q (by decide)) (fun _ => ?_)
  refine z_evL ?_
  refine z_evG 3 (y := if 12 = 13 then z_go 176 [some (.ref 127), some (.int 12), some (.int (I 142 (m + 1))), some (.int (I 142 m))] [.int (((I 127 31) - 1) - 1), .ref 142] 161 ((z_u2 (z_u2 I 127 33 ((I 127 33) - 1)) 127 31 ((I 127 31) - 1)), J, RF w) else z_go 192 [some (.ref 127), some (.int 12), some (.int (I 142 (m + 1))), some (.int (I 142 m))] [.int (((I 127 31) - 1) - 1), .ref 142] 161 ((z_u2 (z_u2 I 127 33 ((I 127 33) - 1)) 127 31 ((I 127 31) - 1)), J, RF w)) (fun _ => rfl) ?_
  refine z_evI (fun q => absurd q (by decide)) (fun _ => ?_)
  refine z_evL ?_
  refine z_evG 2 (y := if (I 142 m) = 0 then z_go 196 [some (.ref 127), some (.int 12), some (.int (I 142 (m + 1))), some (.int (I 142 m))] [.int (((I 127 31) - 1) - 1), .ref 142] 161 ((z_u2 (z_u2 I 127 33 ((I 127 33) - 1)) 127 31 ((I 127 31) - 1)), J, RF w) else z_go 200 [some (.ref 127), some (.int 12), some (.int (I 142 (m + 1))), some (.int (I 142 m))] [.int (((I 127 31) - 1) - 1), .ref 142] 161 ((z_u2 (z_u2 I 127 33 ((I 127 33) - 1)) 127 31 ((I 127 31) - 1)), J, RF w)) (fun _ => rfl) ?_
  refine z_evI (fun h8 => ?_) (fun h8 => ?_)
  · refine z_evL ?_
    refine z_evG 2 (y := if (I 142 (m + 1)) = 0 then z_go 204 [some (.ref 127), some (.int 12), some (.int (I 142 (m + 1))), some (.int (I 142 m))] [.int (((I 127 31) - 1) - 1), .ref 142] 161 ((z_u2 (z_u2 I 127 33 ((I 127 33) - 1)) 127 31 ((I 127 31) - 1)), J, RF w) else z_go 200 [some (.ref 127), some (.int 12), some (.int (I 142 (m + 1))), some (.int (I 142 m))] [.int (((I 127 31) - 1) - 1), .ref 142] 161 ((z_u2 (z_u2 I 127 33 ((I 127 33) - 1)) 127 31 ((I 127 31) - 1)), J, RF w)) (fun _ => rfl) ?_
    refine z_evI (fun h9 => ?_) (fun h9 => ?_)
    · refine z_evL ?_
      refine z_evG 2 (y := z_ck (z_in (((I 127 31) - 1) - 1) 170) (z_go 206 [some (.ref 127), some (.int 12), some (.int (I 142 (m + 1))), some (.int (I 142 m))] [] 161 ((z_u2 (z_u2 (z_u2 I 127 33 ((I 127 33) - 1)) 127 31 ((I 127 31) - 1)) 142 ((((I 127 31) - 1) - 1).toNatClampNeg) 0), J, RF w))) (fun _ => rfl) ?_
      refine z_evC (z_inN (k := m) (z_predE (z_predE h_m)) (by omega) (by decide)) ?_
      refine z_evL ?_
      rw [show ((((I 127 31) - 1) - 1 : Int32)).toNatClampNeg = m from z_natE (z_predE (z_predE h_m)) (by omega)]
      refine z_evG 1 (y := some (.inr (none, 161, (z_u2 (z_u2 (z_u2 I 127 33 ((I 127 33) - 1)) 127 31 ((I 127 31) - 1)) 142 m 0), J, RF w))) (fun _ => rfl) ?_
      rw [z_predE h_k, show (I 127 31 : Int32) - 1 = nI (m + 1) from z_predE h_m]
      exact z_evR (by rw [if_neg (fun q => q.elim (fun r => r h8) (fun r => r h9))])
    · refine z_evL ?_
      refine z_evG 3 (y := z_ck (z_in (((I 127 31) - 1) - 1) 170) (z_go 206 [some (.ref 127), some (.int 12), some (.int (I 142 (m + 1))), some (.int (I 142 m))] [] 161 ((z_u2 (z_u2 (z_u2 I 127 33 ((I 127 33) - 1)) 127 31 ((I 127 31) - 1)) 142 ((((I 127 31) - 1) - 1).toNatClampNeg) 1), J, RF w))) (fun _ => rfl) ?_
      refine z_evC (z_inN (k := m) (z_predE (z_predE h_m)) (by omega) (by decide)) ?_
      refine z_evL ?_
      rw [show ((((I 127 31) - 1) - 1 : Int32)).toNatClampNeg = m from z_natE (z_predE (z_predE h_m)) (by omega)]
      refine z_evG 1 (y := some (.inr (none, 161, (z_u2 (z_u2 (z_u2 I 127 33 ((I 127 33) - 1)) 127 31 ((I 127 31) - 1)) 142 m 1), J, RF w))) (fun _ => rfl) ?_
      rw [z_predE h_k, show (I 127 31 : Int32) - 1 = nI (m + 1) from z_predE h_m]
      exact z_evR (by rw [if_pos (.inr h9)])
  · refine z_evL ?_
    refine z_evG 3 (y := z_ck (z_in (((I 127 31) - 1) - 1) 170) (z_go 206 [some (.ref 127), some (.int 12), some (.int (I 142 (m + 1))), some (.int (I 142 m))] [] 161 ((z_u2 (z_u2 (z_u2 I 127 33 ((I 127 33) - 1)) 127 31 ((I 127 31) - 1)) 142 ((((I 127 31) - 1) - 1).toNatClampNeg) 1), J, RF w))) (fun _ => rfl) ?_
    refine z_evC (z_inN (k := m) (z_predE (z_predE h_m)) (by omega) (by decide)) ?_
    refine z_evL ?_
    rw [show ((((I 127 31) - 1) - 1 : Int32)).toNatClampNeg = m from z_natE (z_predE (z_predE h_m)) (by omega)]
    refine z_evG 1 (y := some (.inr (none, 161, (z_u2 (z_u2 (z_u2 I 127 33 ((I 127 33) - 1)) 127 31 ((I 127 31) - 1)) 142 m 1), J, RF w))) (fun _ => rfl) ?_
    rw [z_predE h_k, show (I 127 31 : Int32) - 1 = nI (m + 1) from z_predE h_m]
    exact z_evR (by rw [if_pos (.inl h8)])
