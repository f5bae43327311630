-- THE REFERENCE'S READER: ONE and SIGN
theorem s_mva_num {I : Nat → Nat → Int32} {b : Nat → Nat} {n p : Nat} (h : s_tok b n p = 2) : s_mva I b n p = s_num b n p := by
  unfold s_tok at h
  unfold s_mva s_num
  by_cases hz : n ≤ s_st b n p
  · rw [if_pos hz] at h; cases h
  · rw [if_neg hz] at h ⊢
    by_cases hd : s_dg b (s_st b n p) = true
    · rw [if_pos hd] at h ⊢
      by_cases h4 : 4 < s_rn (s_dg b) n (s_st b n p)
      · rw [if_pos h4] at h; cases h
      · exact s_dc4_eq _ _ _ (by omega)
    · rw [if_neg hd] at h
      exfalso
      by_cases ha : s_al b (s_st b n p) = true
      · rw [if_pos ha] at h
        revert h
        cases s_first (s_isw b (s_st b n p) (s_st b n p + s_rn (s_al b) n (s_st b n p))) 11 with
        | none => intro h; cases h
        | some k => intro h; change 3 + k = 2 at h; omega
      · rw [if_neg ha] at h
        by_cases hg : s_sg (b (s_st b n p)) = true
        · rw [if_pos hg] at h; rw [h] at hg; cases hg
        · rw [if_neg hg] at h; cases h
theorem s_sg_ge {v : Nat} (h : s_sg v = true) : 40 ≤ v := by
  unfold s_sg at h
  simp at h
  omega
theorem s_mva_na {I : Nat → Nat → Int32} {b : Nat → Nat} {n p : Nat} (h : 8 ≤ s_tok b n p) (h' : s_tok b n p ≤ 13) : s_mva I b n p = I 141 (s_tok b n p - 8) := by
  unfold s_tok at h h'
  unfold s_mva s_tok
  by_cases hz : n ≤ s_st b n p
  · rw [if_pos hz] at h; omega
  · rw [if_neg hz] at h h' ⊢
    rw [if_neg hz]
    by_cases hd : s_dg b (s_st b n p) = true
    · rw [if_pos hd] at h
      split at h <;> omega
    · rw [if_neg hd] at h h' ⊢
      rw [if_neg hd]
      by_cases ha : s_al b (s_st b n p) = true
      · rw [if_pos ha] at h h' ⊢
        rw [if_pos ha]
        exact if_pos h
      · rw [if_neg ha] at h h'
        exfalso
        by_cases hg : s_sg (b (s_st b n p)) = true
        · rw [if_pos hg] at h'; have := s_sg_ge hg; omega
        · rw [if_neg hg] at h; omega
theorem s_nxt_o {I : Nat → Nat → Int32} {x t l v : Int32} {a k : Nat} (h : ¬ (a = 127 ∧ (k = 23 ∨ k = 24 ∨ k = 25 ∨ k = 26))) : s_nxt I x t l v a k = I a k := by
  unfold s_nxt
  by_cases hc : a = 127
  · rw [if_pos hc, if_neg (fun q => h ⟨hc, .inl q⟩), if_neg (fun q => h ⟨hc, .inr (.inl q)⟩), if_neg (fun q => h ⟨hc, .inr (.inr (.inl q))⟩), if_neg (fun q => h ⟨hc, .inr (.inr (.inr q))⟩)]
  · rw [if_neg hc]
theorem m_nextQ (E : zE) (d : Nat) {I0 I : Nat → Nat → Int32} {b : Nat → Nat} {n p : Nat} {S V : List Int32} {dp : Int32} {wa mn : Bool} (J : Nat → Nat → Int64) (w : Nat) (h : s_MS I0 I b n p S V dp wa mn) (hp : p ≤ n) : ∃ I', z_cl E (d + 3) 204 [.ref 127] (161, I, J, RF w) = some (none, 161, I', J, RF w) ∧ s_MS I0 I' b n (s_en b n p) S V dp wa mn := by
  refine ⟨_, m_next E d I J w b n (s_en b n p) h.by h.at (s_en_le b hp), ?_⟩
  refine s_MS.mk ?_ rfl rfl rfl (fun q => s_mva_num q) (fun q q' => s_mva_na q q') h.bad h.dp h.vm h.vs h.sm h.ss h.wa h.mn ?_
  · exact s_by_eq h.by rfl rfl rfl rfl rfl
  · intro a k q
    exact (s_nxt_o (fun r => q (.inl ⟨r.1, by omega⟩))).trans (h.same a k q)
set_option maxRecDepth 20000 in
theorem m_ro_40_0 (E : zE) (d : Nat) (I : Nat → Nat → Int32) (J : Nat → Nat → Int64) (w : Nat) (k : Nat) (h_k : I 127 33 = nI k) (hk : k < 170) (hT : I 127 24 = 40) (hd : ¬ I 127 28 = 5) : z_Ev E (d + 2) z_m211 0 [some (.ref 127)] [] 161 (I, J, RF w) (none, 161, (z_u2 (z_u2 (z_u2 (z_u2 (z_u2 I 127 27 0) 127 28 ((I 127 28) + 1)) 143 k (I 127 24)) 127 33 (nI (k + 1))) 127 37 1), J, RF w) := by
  refine z_evG 4 (y := if (I 127 24) = 40 then z_go 34 [some (.ref 127)] [] 161 (I, J, RF w) else z_go 9 [some (.ref 127)] [] 161 (I, J, RF w)) (fun _ => rfl) ?_
  refine z_evT hT ?_
  refine z_evL ?_
  refine z_evG 5 (y := if (I 127 28) = 5 then z_go 43 [some (.ref 127)] [.ref 127] 161 (I, J, RF w) else z_go 47 [some (.ref 127)] [.ref 127] 161 (I, J, RF w)) (fun _ => rfl) ?_
  refine z_evF hd ?_
  refine z_evL ?_
  refine z_evG 13 (y := if (I 127 24) = 45 then z_go 71 [some (.ref 127)] [.ref 127] 161 ((z_u2 (z_u2 I 127 27 0) 127 28 ((I 127 28) + 1)), J, RF w) else z_go 76 [some (.ref 127)] [.ref 127] 161 ((z_u2 (z_u2 I 127 27 0) 127 28 ((I 127 28) + 1)), J, RF w)) (fun _ => rfl) ?_
  refine z_evF (by rw [hT]; decide) ?_
  refine z_evL ?_
  refine z_evG 3 (y := z_ret (z_cl E (d + 2) 206 [.ref 127, .int (I 127 24)] (161, ((z_u2 (z_u2 I 127 27 0) 127 28 ((I 127 28) + 1)), J, RF w))) 83 [some (.ref 127)] []) (fun _ => rfl) ?_
  refine z_evV (z' := 161) (σ' := ((z_u2 (z_u2 (z_u2 (z_u2 I 127 27 0) 127 28 ((I 127 28) + 1)) 143 k (I 127 24)) 127 33 (nI (k + 1))), J, RF w)) (m_push E (d + 1) (z_u2 (z_u2 I 127 27 0) 127 28 ((I 127 28) + 1)) J w (I 127 24) k h_k (by omega)) ?_
  refine z_evG 5 (y := if (I 127 24) = 45 then z_go 97 [some (.ref 127)] [.ref 127] 161 ((z_u2 (z_u2 (z_u2 (z_u2 I 127 27 0) 127 28 ((I 127 28) + 1)) 143 k (I 127 24)) 127 33 (nI (k + 1))), J, RF w) else z_go 93 [some (.ref 127)] [.ref 127] 161 ((z_u2 (z_u2 (z_u2 (z_u2 I 127 27 0) 127 28 ((I 127 28) + 1)) 143 k (I 127 24)) 127 33 (nI (k + 1))), J, RF w)) (fun _ => rfl) ?_
  refine z_evF (by rw [hT]; decide) ?_
  refine z_evL ?_
  refine z_evG 5 (y := some (.inr (none, 161, (z_u2 (z_u2 (z_u2 (z_u2 (z_u2 I 127 27 0) 127 28 ((I 127 28) + 1)) 143 k (I 127 24)) 127 33 (nI (k + 1))) 127 37 1), J, RF w))) (fun _ => rfl) ?_
  exact z_evR rfl
set_option maxRecDepth 20000 in
theorem m_ro_40_1 (E : zE) (d : Nat) (I : Nat → Nat → Int32) (J : Nat → Nat → Int64) (w : Nat) (k : Nat) (h_k : I 127 33 = nI k) (hk : k < 170) (hT : I 127 24 = 40) (hd : I 127 28 = 5) : z_Ev E (d + 2) z_m211 0 [some (.ref 127)] [] 161 (I, J, RF w) (none, 161, (z_u2 (z_u2 (z_u2 (z_u2 (z_u2 I 127 27 1) 127 28 ((I 127 28) + 1)) 143 k (I 127 24)) 127 33 (nI (k + 1))) 127 37 1), J, RF w) := by
  refine z_evG 4 (y := if (I 127 24) = 40 then z_go 34 [some (.ref 127)] [] 161 (I, J, RF w) else z_go 9 [some (.ref 127)] [] 161 (I, J, RF w)) (fun _ => rfl) ?_
  refine z_evT hT ?_
  refine z_evL ?_
  refine z_evG 5 (y := if (I 127 28) = 5 then z_go 43 [some (.ref 127)] [.ref 127] 161 (I, J, RF w) else z_go 47 [some (.ref 127)] [.ref 127] 161 (I, J, RF w)) (fun _ => rfl) ?_
  refine z_evT hd ?_
  refine z_evL ?_
  refine z_evG 14 (y := if (I 127 24) = 45 then z_go 71 [some (.ref 127)] [.ref 127] 161 ((z_u2 (z_u2 I 127 27 1) 127 28 ((I 127 28) + 1)), J, RF w) else z_go 76 [some (.ref 127)] [.ref 127] 161 ((z_u2 (z_u2 I 127 27 1) 127 28 ((I 127 28) + 1)), J, RF w)) (fun _ => rfl) ?_
  refine z_evF (by rw [hT]; decide) ?_
  refine z_evL ?_
  refine z_evG 3 (y := z_ret (z_cl E (d + 2) 206 [.ref 127, .int (I 127 24)] (161, ((z_u2 (z_u2 I 127 27 1) 127 28 ((I 127 28) + 1)), J, RF w))) 83 [some (.ref 127)] []) (fun _ => rfl) ?_
  refine z_evV (z' := 161) (σ' := ((z_u2 (z_u2 (z_u2 (z_u2 I 127 27 1) 127 28 ((I 127 28) + 1)) 143 k (I 127 24)) 127 33 (nI (k + 1))), J, RF w)) (m_push E (d + 1) (z_u2 (z_u2 I 127 27 1) 127 28 ((I 127 28) + 1)) J w (I 127 24) k h_k (by omega)) ?_
  refine z_evG 5 (y := if (I 127 24) = 45 then z_go 97 [some (.ref 127)] [.ref 127] 161 ((z_u2 (z_u2 (z_u2 (z_u2 I 127 27 1) 127 28 ((I 127 28) + 1)) 143 k (I 127 24)) 127 33 (nI (k + 1))), J, RF w) else z_go 93 [some (.ref 127)] [.ref 127] 161 ((z_u2 (z_u2 (z_u2 (z_u2 I 127 27 1) 127 28 ((I 127 28) + 1)) 143 k (I 127 24)) 127 33 (nI (k + 1))), J, RF w)) (fun _ => rfl) ?_
  refine z_evF (by rw [hT]; decide) ?_
  refine z_evL ?_
  refine z_evG 5 (y := some (.inr (none, 161, (z_u2 (z_u2 (z_u2 (z_u2 (z_u2 I 127 27 1) 127 28 ((I 127 28) + 1)) 143 k (I 127 24)) 127 33 (nI (k + 1))) 127 37 1), J, RF w))) (fun _ => rfl) ?_
  exact z_evR rfl
set_option maxRecDepth 20000 in
theorem m_ro_45_0 (E : zE) (d : Nat) (I : Nat → Nat → Int32) (J : Nat → Nat → Int64) (w : Nat) (k : Nat) (h_k : I 127 33 = nI k) (hk : k < 170) (hT : I 127 24 = 45) (hd : ¬ I 127 28 = 5) : z_Ev E (d + 2) z_m211 0 [some (.ref 127)] [] 161 (I, J, RF w) (none, 161, (z_u2 (z_u2 (z_u2 (z_u2 (z_u2 I 127 27 0) 127 28 ((I 127 28) + 1)) 143 k 109) 127 33 (nI (k + 1))) 127 37 0), J, RF w) := by
  refine z_evG 4 (y := if (I 127 24) = 40 then z_go 34 [some (.ref 127)] [] 161 (I, J, RF w) else z_go 9 [some (.ref 127)] [] 161 (I, J, RF w)) (fun _ => rfl) ?_
  refine z_evF (by rw [hT]; decide) ?_
  refine z_evL ?_
  refine z_evG 4 (y := if (I 127 24) = 45 then z_go 34 [some (.ref 127)] [] 161 (I, J, RF w) else z_go 18 [some (.ref 127)] [] 161 (I, J, RF w)) (fun _ => rfl) ?_
  refine z_evT hT ?_
  refine z_evL ?_
  refine z_evG 5 (y := if (I 127 28) = 5 then z_go 43 [some (.ref 127)] [.ref 127] 161 (I, J, RF w) else z_go 47 [some (.ref 127)] [.ref 127] 161 (I, J, RF w)) (fun _ => rfl) ?_
  refine z_evF hd ?_
  refine z_evL ?_
  refine z_evG 13 (y := if (I 127 24) = 45 then z_go 71 [some (.ref 127)] [.ref 127] 161 ((z_u2 (z_u2 I 127 27 0) 127 28 ((I 127 28) + 1)), J, RF w) else z_go 76 [some (.ref 127)] [.ref 127] 161 ((z_u2 (z_u2 I 127 27 0) 127 28 ((I 127 28) + 1)), J, RF w)) (fun _ => rfl) ?_
  refine z_evT hT ?_
  refine z_evL ?_
  refine z_evG 3 (y := z_ret (z_cl E (d + 2) 206 [.ref 127, .int 109] (161, ((z_u2 (z_u2 I 127 27 0) 127 28 ((I 127 28) + 1)), J, RF w))) 83 [some (.ref 127)] []) (fun _ => rfl) ?_
  refine z_evV (z' := 161) (σ' := ((z_u2 (z_u2 (z_u2 (z_u2 I 127 27 0) 127 28 ((I 127 28) + 1)) 143 k 109) 127 33 (nI (k + 1))), J, RF w)) (m_push E (d + 1) (z_u2 (z_u2 I 127 27 0) 127 28 ((I 127 28) + 1)) J w 109 k h_k (by omega)) ?_
  refine z_evG 5 (y := if (I 127 24) = 45 then z_go 97 [some (.ref 127)] [.ref 127] 161 ((z_u2 (z_u2 (z_u2 (z_u2 I 127 27 0) 127 28 ((I 127 28) + 1)) 143 k 109) 127 33 (nI (k + 1))), J, RF w) else z_go 93 [some (.ref 127)] [.ref 127] 161 ((z_u2 (z_u2 (z_u2 (z_u2 I 127 27 0) 127 28 ((I 127 28) + 1)) 143 k 109) 127 33 (nI (k + 1))), J, RF w)) (fun _ => rfl) ?_
  refine z_evT hT ?_
  refine z_evL ?_
  refine z_evG 4 (y := some (.inr (none, 161, (z_u2 (z_u2 (z_u2 (z_u2 (z_u2 I 127 27 0) 127 28 ((I 127 28) + 1)) 143 k 109) 127 33 (nI (k + 1))) 127 37 0), J, RF w))) (fun _ => rfl) ?_
  exact z_evR rfl
set_option maxRecDepth 20000 in
theorem m_ro_45_1 (E : zE) (d : Nat) (I : Nat → Nat → Int32) (J : Nat → Nat → Int64) (w : Nat) (k : Nat) (h_k : I 127 33 = nI k) (hk : k < 170) (hT : I 127 24 = 45) (hd : I 127 28 = 5) : z_Ev E (d + 2) z_m211 0 [some (.ref 127)] [] 161 (I, J, RF w) (none, 161, (z_u2 (z_u2 (z_u2 (z_u2 (z_u2 I 127 27 1) 127 28 ((I 127 28) + 1)) 143 k 109) 127 33 (nI (k + 1))) 127 37 0), J, RF w) := by
  refine z_evG 4 (y := if (I 127 24) = 40 then z_go 34 [some (.ref 127)] [] 161 (I, J, RF w) else z_go 9 [some (.ref 127)] [] 161 (I, J, RF w)) (fun _ => rfl) ?_
  refine z_evF (by rw [hT]; decide) ?_
  refine z_evL ?_
  refine z_evG 4 (y := if (I 127 24) = 45 then z_go 34 [some (.ref 127)] [] 161 (I, J, RF w) else z_go 18 [some (.ref 127)] [] 161 (I, J, RF w)) (fun _ => rfl) ?_
  refine z_evT hT ?_
  refine z_evL ?_
  refine z_evG 5 (y := if (I 127 28) = 5 then z_go 43 [some (.ref 127)] [.ref 127] 161 (I, J, RF w) else z_go 47 [some (.ref 127)] [.ref 127] 161 (I, J, RF w)) (fun _ => rfl) ?_
  refine z_evT hd ?_
  refine z_evL ?_
  refine z_evG 14 (y := if (I 127 24) = 45 then z_go 71 [some (.ref 127)] [.ref 127] 161 ((z_u2 (z_u2 I 127 27 1) 127 28 ((I 127 28) + 1)), J, RF w) else z_go 76 [some (.ref 127)] [.ref 127] 161 ((z_u2 (z_u2 I 127 27 1) 127 28 ((I 127 28) + 1)), J, RF w)) (fun _ => rfl) ?_
  refine z_evT hT ?_
  refine z_evL ?_
  refine z_evG 3 (y := z_ret (z_cl E (d + 2) 206 [.ref 127, .int 109] (161, ((z_u2 (z_u2 I 127 27 1) 127 28 ((I 127 28) + 1)), J, RF w))) 83 [some (.ref 127)] []) (fun _ => rfl) ?_
  refine z_evV (z' := 161) (σ' := ((z_u2 (z_u2 (z_u2 (z_u2 I 127 27 1) 127 28 ((I 127 28) + 1)) 143 k 109) 127 33 (nI (k + 1))), J, RF w)) (m_push E (d + 1) (z_u2 (z_u2 I 127 27 1) 127 28 ((I 127 28) + 1)) J w 109 k h_k (by omega)) ?_
  refine z_evG 5 (y := if (I 127 24) = 45 then z_go 97 [some (.ref 127)] [.ref 127] 161 ((z_u2 (z_u2 (z_u2 (z_u2 I 127 27 1) 127 28 ((I 127 28) + 1)) 143 k 109) 127 33 (nI (k + 1))), J, RF w) else z_go 93 [some (.ref 127)] [.ref 127] 161 ((z_u2 (z_u2 (z_u2 (z_u2 I 127 27 1) 127 28 ((I 127 28) + 1)) 143 k 109) 127 33 (nI (k + 1))), J, RF w)) (fun _ => rfl) ?_
  refine z_evT hT ?_
  refine z_evL ?_
  refine z_evG 4 (y := some (.inr (none, 161, (z_u2 (z_u2 (z_u2 (z_u2 (z_u2 I 127 27 1) 127 28 ((I 127 28) + 1)) 143 k 109) 127 33 (nI (k + 1))) 127 37 0), J, RF w))) (fun _ => rfl) ?_
  exact z_evR rfl
set_option maxRecDepth 20000 in
theorem m_ro_14_0 (E : zE) (d : Nat) (I : Nat → Nat → Int32) (J : Nat → Nat → Int64) (w : Nat) (k : Nat) (h_k : I 127 33 = nI k) (hk : k < 170) (hT : I 127 24 = 14) (hM : I 127 37 = 1) (hd : ¬ I 127 28 = 5) : z_Ev E (d + 2) z_m211 0 [some (.ref 127)] [] 161 (I, J, RF w) (none, 161, (z_u2 (z_u2 (z_u2 (z_u2 (z_u2 I 127 27 0) 127 28 ((I 127 28) + 1)) 143 k (I 127 24)) 127 33 (nI (k + 1))) 127 37 1), J, RF w) := by
  refine z_evG 4 (y := if (I 127 24) = 40 then z_go 34 [some (.ref 127)] [] 161 (I, J, RF w) else z_go 9 [some (.ref 127)] [] 161 (I, J, RF w)) (fun _ => rfl) ?_
  refine z_evF (by rw [hT]; decide) ?_
  refine z_evL ?_
  refine z_evG 4 (y := if (I 127 24) = 45 then z_go 34 [some (.ref 127)] [] 161 (I, J, RF w) else z_go 18 [some (.ref 127)] [] 161 (I, J, RF w)) (fun _ => rfl) ?_
  refine z_evF (by rw [hT]; decide) ?_
  refine z_evL ?_
  refine z_evG 4 (y := if (I 127 24) = 14 then z_go 27 [some (.ref 127)] [] 161 (I, J, RF w) else z_go 104 [some (.ref 127)] [] 161 (I, J, RF w)) (fun _ => rfl) ?_
  refine z_evT hT ?_
  refine z_evL ?_
  refine z_evG 3 (y := if (I 127 37) = 0 then z_go 104 [some (.ref 127)] [] 161 (I, J, RF w) else z_go 34 [some (.ref 127)] [] 161 (I, J, RF w)) (fun _ => rfl) ?_
  refine z_evF (by rw [hM]; decide) ?_
  refine z_evL ?_
  refine z_evG 5 (y := if (I 127 28) = 5 then z_go 43 [some (.ref 127)] [.ref 127] 161 (I, J, RF w) else z_go 47 [some (.ref 127)] [.ref 127] 161 (I, J, RF w)) (fun _ => rfl) ?_
  refine z_evF hd ?_
  refine z_evL ?_
  refine z_evG 13 (y := if (I 127 24) = 45 then z_go 71 [some (.ref 127)] [.ref 127] 161 ((z_u2 (z_u2 I 127 27 0) 127 28 ((I 127 28) + 1)), J, RF w) else z_go 76 [some (.ref 127)] [.ref 127] 161 ((z_u2 (z_u2 I 127 27 0) 127 28 ((I 127 28) + 1)), J, RF w)) (fun _ => rfl) ?_
  refine z_evF (by rw [hT]; decide) ?_
  refine z_evL ?_
  refine z_evG 3 (y := z_ret (z_cl E (d + 2) 206 [.ref 127, .int (I 127 24)] (161, ((z_u2 (z_u2 I 127 27 0) 127 28 ((I 127 28) + 1)), J, RF w))) 83 [some (.ref 127)] []) (fun _ => rfl) ?_
  refine z_evV (z' := 161) (σ' := ((z_u2 (z_u2 (z_u2 (z_u2 I 127 27 0) 127 28 ((I 127 28) + 1)) 143 k (I 127 24)) 127 33 (nI (k + 1))), J, RF w)) (m_push E (d + 1) (z_u2 (z_u2 I 127 27 0) 127 28 ((I 127 28) + 1)) J w (I 127 24) k h_k (by omega)) ?_
  refine z_evG 5 (y := if (I 127 24) = 45 then z_go 97 [some (.ref 127)] [.ref 127] 161 ((z_u2 (z_u2 (z_u2 (z_u2 I 127 27 0) 127 28 ((I 127 28) + 1)) 143 k (I 127 24)) 127 33 (nI (k + 1))), J, RF w) else z_go 93 [some (.ref 127)] [.ref 127] 161 ((z_u2 (z_u2 (z_u2 (z_u2 I 127 27 0) 127 28 ((I 127 28) + 1)) 143 k (I 127 24)) 127 33 (nI (k + 1))), J, RF w)) (fun _ => rfl) ?_
  refine z_evF (by rw [hT]; decide) ?_
  refine z_evL ?_
  refine z_evG 5 (y := some (.inr (none, 161, (z_u2 (z_u2 (z_u2 (z_u2 (z_u2 I 127 27 0) 127 28 ((I 127 28) + 1)) 143 k (I 127 24)) 127 33 (nI (k + 1))) 127 37 1), J, RF w))) (fun _ => rfl) ?_
  exact z_evR rfl
set_option maxRecDepth 20000 in
theorem m_ro_14_1 (E : zE) (d : Nat) (I : Nat → Nat → Int32) (J : Nat → Nat → Int64) (w : Nat) (k : Nat) (h_k : I 127 33 = nI k) (hk : k < 170) (hT : I 127 24 = 14) (hM : I 127 37 = 1) (hd : I 127 28 = 5) : z_Ev E (d + 2) z_m211 0 [some (.ref 127)] [] 161 (I, J, RF w) (none, 161, (z_u2 (z_u2 (z_u2 (z_u2 (z_u2 I 127 27 1) 127 28 ((I 127 28) + 1)) 143 k (I 127 24)) 127 33 (nI (k + 1))) 127 37 1), J, RF w) := by
  refine z_evG 4 (y := if (I 127 24) = 40 then z_go 34 [some (.ref 127)] [] 161 (I, J, RF w) else z_go 9 [some (.ref 127)] [] 161 (I, J, RF w)) (fun _ => rfl) ?_
  refine z_evF (by rw [hT]; decide) ?_
  refine z_evL ?_
  refine z_evG 4 (y := if (I 127 24) = 45 then z_go 34 [some (.ref 127)] [] 161 (I, J, RF w) else z_go 18 [some (.ref 127)] [] 161 (I, J, RF w)) (fun _ => rfl) ?_
  refine z_evF (by rw [hT]; decide) ?_
  refine z_evL ?_
  refine z_evG 4 (y := if (I 127 24) = 14 then z_go 27 [some (.ref 127)] [] 161 (I, J, RF w) else z_go 104 [some (.ref 127)] [] 161 (I, J, RF w)) (fun _ => rfl) ?_
  refine z_evT hT ?_
  refine z_evL ?_
  refine z_evG 3 (y := if (I 127 37) = 0 then z_go 104 [some (.ref 127)] [] 161 (I, J, RF w) else z_go 34 [some (.ref 127)] [] 161 (I, J, RF w)) (fun _ => rfl) ?_
  refine z_evF (by rw [hM]; decide) ?_
  refine z_evL ?_
  refine z_evG 5 (y := if (I 127 28) = 5 then z_go 43 [some (.ref 127)] [.ref 127] 161 (I, J, RF w) else z_go 47 [some (.ref 127)] [.ref 127] 161 (I, J, RF w)) (fun _ => rfl) ?_
  refine z_evT hd ?_
  refine z_evL ?_
  refine z_evG 14 (y := if (I 127 24) = 45 then z_go 71 [some (.ref 127)] [.ref 127] 161 ((z_u2 (z_u2 I 127 27 1) 127 28 ((I 127 28) + 1)), J, RF w) else z_go 76 [some (.ref 127)] [.ref 127] 161 ((z_u2 (z_u2 I 127 27 1) 127 28 ((I 127 28) + 1)), J, RF w)) (fun _ => rfl) ?_
  refine z_evF (by rw [hT]; decide) ?_
  refine z_evL ?_
  refine z_evG 3 (y := z_ret (z_cl E (d + 2) 206 [.ref 127, .int (I 127 24)] (161, ((z_u2 (z_u2 I 127 27 1) 127 28 ((I 127 28) + 1)), J, RF w))) 83 [some (.ref 127)] []) (fun _ => rfl) ?_
  refine z_evV (z' := 161) (σ' := ((z_u2 (z_u2 (z_u2 (z_u2 I 127 27 1) 127 28 ((I 127 28) + 1)) 143 k (I 127 24)) 127 33 (nI (k + 1))), J, RF w)) (m_push E (d + 1) (z_u2 (z_u2 I 127 27 1) 127 28 ((I 127 28) + 1)) J w (I 127 24) k h_k (by omega)) ?_
  refine z_evG 5 (y := if (I 127 24) = 45 then z_go 97 [some (.ref 127)] [.ref 127] 161 ((z_u2 (z_u2 (z_u2 (z_u2 I 127 27 1) 127 28 ((I 127 28) + 1)) 143 k (I 127 24)) 127 33 (nI (k + 1))), J, RF w) else z_go 93 [some (.ref 127)] [.ref 127] 161 ((z_u2 (z_u2 (z_u2 (z_u2 I 127 27 1) 127 28 ((I 127 28) + 1)) 143 k (I 127 24)) 127 33 (nI (k + 1))), J, RF w)) (fun _ => rfl) ?_
  refine z_evF (by rw [hT]; decide) ?_
  refine z_evL ?_
  refine z_evG 5 (y := some (.inr (none, 161, (z_u2 (z_u2 (z_u2 (z_u2 (z_u2 I 127 27 1) 127 28 ((I 127 28) + 1)) 143 k (I 127 24)) 127 33 (nI (k + 1))) 127 37 1), J, RF w))) (fun _ => rfl) ?_
  exact z_evR rfl
set_option maxRecDepth 20000 in
theorem m_ro_n (E : zE) (d : Nat) (I : Nat → Nat → Int32) (J : Nat → Nat → Int64) (w : Nat) (m : Nat) (I1 : Nat → Nat → Int32) (h_m : I 127 31 = nI m) (hm : m < 170) (hT : I 127 24 = 1) (hw : z_cl E (d + 2) 210 [.ref 127] (161, z_u2 (z_u2 (z_u2 I 142 m (I 127 26)) 127 31 (nI (m + 1))) 127 36 0, J, RF w) = some (none, 161, I1, J, RF w)) : z_Ev E (d + 2) z_m211 0 [some (.ref 127)] [] 161 (I, J, RF w) (none, 161, I1, J, RF w) := by
  refine z_evG 4 (y := if (I 127 24) = 40 then z_go 34 [some (.ref 127)] [] 161 (I, J, RF w) else z_go 9 [some (.ref 127)] [] 161 (I, J, RF w)) (fun _ => rfl) ?_
  refine z_evF (by rw [hT]; decide) ?_
  refine z_evL ?_
  refine z_evG 4 (y := if (I 127 24) = 45 then z_go 34 [some (.ref 127)] [] 161 (I, J, RF w) else z_go 18 [some (.ref 127)] [] 161 (I, J, RF w)) (fun _ => rfl) ?_
  refine z_evF (by rw [hT]; decide) ?_
  refine z_evL ?_
  refine z_evG 4 (y := if (I 127 24) = 14 then z_go 27 [some (.ref 127)] [] 161 (I, J, RF w) else z_go 104 [some (.ref 127)] [] 161 (I, J, RF w)) (fun _ => rfl) ?_
  refine z_evF (by rw [hT]; decide) ?_
  refine z_evL ?_
  refine z_evG 4 (y := if (I 127 24) = 1 then z_go 120 [some (.ref 127)] [] 161 (I, J, RF w) else z_go 112 [some (.ref 127)] [] 161 (I, J, RF w)) (fun _ => rfl) ?_
  refine z_evT hT ?_
  refine z_evL ?_
  refine z_evG 7 (y := z_ck (z_in (I 127 31) 170) (z_go 133 [some (.ref 127)] [] 161 ((z_u2 I 142 ((I 127 31).toNatClampNeg) (I 127 26)), J, RF w))) (fun _ => rfl) ?_
  refine z_evC (z_inN (k := m) h_m (by omega) (by decide)) ?_
  refine z_evL ?_
  rw [show ((I 127 31 : Int32)).toNatClampNeg = m from z_natE h_m (by omega)]
  refine z_evG 11 (y := z_ret (z_cl E (d + 2) 210 [.ref 127] (161, ((z_u2 (z_u2 (z_u2 I 142 m (I 127 26)) 127 31 ((I 127 31) + 1)) 127 36 0), J, RF w))) 152 [some (.ref 127)] []) (fun _ => rfl) ?_
  rw [show (I 127 31 : Int32) + 1 = nI (m + 1) from by rw [h_m, nI_1]]
  refine z_evV (z' := 161) (σ' := (I1, J, RF w)) hw ?_
  refine z_evG 2 (y := some (.inr (none, 161, I1, J, RF w))) (fun _ => rfl) ?_
  exact z_evR rfl
set_option maxRecDepth 20000 in
theorem m_ro_a (E : zE) (d : Nat) (I : Nat → Nat → Int32) (J : Nat → Nat → Int64) (w : Nat) (m : Nat) (I1 : Nat → Nat → Int32) (h_m : I 127 31 = nI m) (hm : m < 170) (hT : I 127 24 = 2) (hw : z_cl E (d + 2) 210 [.ref 127] (161, z_u2 (z_u2 (z_u2 I 142 m (I 127 26)) 127 31 (nI (m + 1))) 127 36 0, J, RF w) = some (none, 161, I1, J, RF w)) : z_Ev E (d + 2) z_m211 0 [some (.ref 127)] [] 161 (I, J, RF w) (none, 161, I1, J, RF w) := by
  refine z_evG 4 (y := if (I 127 24) = 40 then z_go 34 [some (.ref 127)] [] 161 (I, J, RF w) else z_go 9 [some (.ref 127)] [] 161 (I, J, RF w)) (fun _ => rfl) ?_
  refine z_evF (by rw [hT]; decide) ?_
  refine z_evL ?_
  refine z_evG 4 (y := if (I 127 24) = 45 then z_go 34 [some (.ref 127)] [] 161 (I, J, RF w) else z_go 18 [some (.ref 127)] [] 161 (I, J, RF w)) (fun _ => rfl) ?_
  refine z_evF (by rw [hT]; decide) ?_
  refine z_evL ?_
  refine z_evG 4 (y := if (I 127 24) = 14 then z_go 27 [some (.ref 127)] [] 161 (I, J, RF w) else z_go 104 [some (.ref 127)] [] 161 (I, J, RF w)) (fun _ => rfl) ?_
  refine z_evF (by rw [hT]; decide) ?_
  refine z_evL ?_
  refine z_evG 4 (y := if (I 127 24) = 1 then z_go 120 [some (.ref 127)] [] 161 (I, J, RF w) else z_go 112 [some (.ref 127)] [] 161 (I, J, RF w)) (fun _ => rfl) ?_
  refine z_evF (by rw [hT]; decide) ?_
  refine z_evL ?_
  refine z_evG 4 (y := if (I 127 24) = 2 then z_go 120 [some (.ref 127)] [] 161 (I, J, RF w) else z_go 155 [some (.ref 127)] [] 161 (I, J, RF w)) (fun _ => rfl) ?_
  refine z_evT hT ?_
  refine z_evL ?_
  refine z_evG 7 (y := z_ck (z_in (I 127 31) 170) (z_go 133 [some (.ref 127)] [] 161 ((z_u2 I 142 ((I 127 31).toNatClampNeg) (I 127 26)), J, RF w))) (fun _ => rfl) ?_
  refine z_evC (z_inN (k := m) h_m (by omega) (by decide)) ?_
  refine z_evL ?_
  rw [show ((I 127 31 : Int32)).toNatClampNeg = m from z_natE h_m (by omega)]
  refine z_evG 11 (y := z_ret (z_cl E (d + 2) 210 [.ref 127] (161, ((z_u2 (z_u2 (z_u2 I 142 m (I 127 26)) 127 31 ((I 127 31) + 1)) 127 36 0), J, RF w))) 152 [some (.ref 127)] []) (fun _ => rfl) ?_
  rw [show (I 127 31 : Int32) + 1 = nI (m + 1) from by rw [h_m, nI_1]]
  refine z_evV (z' := 161) (σ' := (I1, J, RF w)) hw ?_
  refine z_evG 2 (y := some (.inr (none, 161, I1, J, RF w))) (fun _ => rfl) ?_
  exact z_evR rfl
set_option maxRecDepth 20000 in
theorem m_ro_bad0 (E : zE) (d : Nat) (I : Nat → Nat → Int32) (J : Nat → Nat → Int64) (w : Nat)  (h40 : ¬ I 127 24 = 40) (h45 : ¬ I 127 24 = 45) (h14 : ¬ I 127 24 = 14) (h1 : ¬ I 127 24 = 1) (h2 : ¬ I 127 24 = 2) : z_Ev E (d + 2) z_m211 0 [some (.ref 127)] [] 161 (I, J, RF w) (none, 161, (z_u2 I 127 27 1), J, RF w) := by
  refine z_evG 4 (y := if (I 127 24) = 40 then z_go 34 [some (.ref 127)] [] 161 (I, J, RF w) else z_go 9 [some (.ref 127)] [] 161 (I, J, RF w)) (fun _ => rfl) ?_
  refine z_evF h40 ?_
  refine z_evL ?_
  refine z_evG 4 (y := if (I 127 24) = 45 then z_go 34 [some (.ref 127)] [] 161 (I, J, RF w) else z_go 18 [some (.ref 127)] [] 161 (I, J, RF w)) (fun _ => rfl) ?_
  refine z_evF h45 ?_
  refine z_evL ?_
  refine z_evG 4 (y := if (I 127 24) = 14 then z_go 27 [some (.ref 127)] [] 161 (I, J, RF w) else z_go 104 [some (.ref 127)] [] 161 (I, J, RF w)) (fun _ => rfl) ?_
  refine z_evF h14 ?_
  refine z_evL ?_
  refine z_evG 4 (y := if (I 127 24) = 1 then z_go 120 [some (.ref 127)] [] 161 (I, J, RF w) else z_go 112 [some (.ref 127)] [] 161 (I, J, RF w)) (fun _ => rfl) ?_
  refine z_evF h1 ?_
  refine z_evL ?_
  refine z_evG 4 (y := if (I 127 24) = 2 then z_go 120 [some (.ref 127)] [] 161 (I, J, RF w) else z_go 155 [some (.ref 127)] [] 161 (I, J, RF w)) (fun _ => rfl) ?_
  refine z_evF h2 ?_
  refine z_evL ?_
  refine z_evG 4 (y := some (.inr (none, 161, (z_u2 I 127 27 1), J, RF w))) (fun _ => rfl) ?_
  exact z_evR rfl
set_option maxRecDepth 20000 in
theorem m_ro_bad1 (E : zE) (d : Nat) (I : Nat → Nat → Int32) (J : Nat → Nat → Int64) (w : Nat)  (h40 : ¬ I 127 24 = 40) (h45 : ¬ I 127 24 = 45) (h14 : I 127 24 = 14) (hM : I 127 37 = 0) (h1 : ¬ I 127 24 = 1) (h2 : ¬ I 127 24 = 2) : z_Ev E (d + 2) z_m211 0 [some (.ref 127)] [] 161 (I, J, RF w) (none, 161, (z_u2 I 127 27 1), J, RF w) := by
  refine z_evG 4 (y := if (I 127 24) = 40 then z_go 34 [some (.ref 127)] [] 161 (I, J, RF w) else z_go 9 [some (.ref 127)] [] 161 (I, J, RF w)) (fun _ => rfl) ?_
  refine z_evF h40 ?_
  refine z_evL ?_
  refine z_evG 4 (y := if (I 127 24) = 45 then z_go 34 [some (.ref 127)] [] 161 (I, J, RF w) else z_go 18 [some (.ref 127)] [] 161 (I, J, RF w)) (fun _ => rfl) ?_
  refine z_evF h45 ?_
  refine z_evL ?_
  refine z_evG 4 (y := if (I 127 24) = 14 then z_go 27 [some (.ref 127)] [] 161 (I, J, RF w) else z_go 104 [some (.ref 127)] [] 161 (I, J, RF w)) (fun _ => rfl) ?_
  refine z_evT h14 ?_
  refine z_evL ?_
  refine z_evG 3 (y := if (I 127 37) = 0 then z_go 104 [some (.ref 127)] [] 161 (I, J, RF w) else z_go 34 [some (.ref 127)] [] 161 (I, J, RF w)) (fun _ => rfl) ?_
  refine z_evT hM ?_
  refine z_evL ?_
  refine z_evG 4 (y := if (I 127 24) = 1 then z_go 120 [some (.ref 127)] [] 161 (I, J, RF w) else z_go 112 [some (.ref 127)] [] 161 (I, J, RF w)) (fun _ => rfl) ?_
  refine z_evF h1 ?_
  refine z_evL ?_
  refine z_evG 4 (y := if (I 127 24) = 2 then z_go 120 [some (.ref 127)] [] 161 (I, J, RF w) else z_go 155 [some (.ref 127)] [] 161 (I, J, RF w)) (fun _ => rfl) ?_
  refine z_evF h2 ?_
  refine z_evL ?_
  refine z_evG 4 (y := some (.inr (none, 161, (z_u2 I 127 27 1), J, RF w))) (fun _ => rfl) ?_
  exact z_evR rfl
set_option maxRecDepth 20000 in
theorem m_rs_close (E : zE) (d : Nat) (I : Nat → Nat → Int32) (J : Nat → Nat → Int64) (w : Nat) (k : Nat) (s : Int32) (I1 I2 : Nat → Nat → Int32) (hm : I 127 24 ∈ s_sgs) (hT : I 127 24 = 41) (hw : z_cl E (d + 3) 209 [.ref 127, .int 1] (161, I, J, RF w) = some (none, 161, I1, J, RF w)) (h_k : I1 127 33 = nI (k + 1)) (hk : k < 170) (hs : I1 143 k = s) (h40 : s = 40) (hw2 : z_cl E (d + 3) 210 [.ref 127] (161, z_u2 (z_u2 (z_u2 I1 127 27 0) 127 33 (nI k)) 127 28 (I1 127 28 - 1), J, RF w) = some (none, 161, I2, J, RF w)) : z_Ev E (d + 3) z_m212 0 [some (.ref 127), none] [] 161 (I, J, RF w) (none, 161, I2, J, RF w) := by
  refine z_evG 3 (y := z_ret (z_cl E (d + 3) 208 [.int (I 127 24)] (161, (I, J, RF w))) 7 [some (.ref 127), none] []) (fun _ => rfl) ?_
  refine z_evK (v := .int (nI (s_near (I 127 24)))) (z' := 161) (σ' := (I, J, RF w)) (m_near E (d + 2) I J w (I 127 24) hm) ?_
  refine z_evG 5 (y := if (I 127 24) = 41 then z_go 17 [some (.ref 127), some (.int (nI (s_near (I 127 24))))] [] 161 (I, J, RF w) else z_go 74 [some (.ref 127), some (.int (nI (s_near (I 127 24))))] [] 161 (I, J, RF w)) (fun _ => rfl) ?_
  refine z_evT hT ?_
  refine z_evL ?_
  refine z_evG 3 (y := z_ret (z_cl E (d + 3) 209 [.ref 127, .int 1] (161, (I, J, RF w))) 22 [some (.ref 127), some (.int (nI (s_near (I 127 24))))] []) (fun _ => rfl) ?_
  refine z_evV (z' := 161) (σ' := (I1, J, RF w)) hw ?_
  refine z_evG 3 (y := z_ret (z_cl E (d + 3) 205 [.ref 127] (161, (I1, J, RF w))) 27 [some (.ref 127), some (.int (nI (s_near (I 127 24))))] [.ref 127]) (fun _ => rfl) ?_
  refine z_evK (v := .int s) (z' := 161) (σ' := (I1, J, RF w)) (m_topSign_s E (d + 2) I1 J w k s h_k hk hs) ?_
  refine z_evG 2 (y := if s = 40 then z_go 36 [some (.ref 127), some (.int (nI (s_near (I 127 24))))] [.ref 127] 161 (I1, J, RF w) else z_go 32 [some (.ref 127), some (.int (nI (s_near (I 127 24))))] [.ref 127] 161 (I1, J, RF w)) (fun _ => rfl) ?_
  refine z_evT h40 ?_
  refine z_evL ?_
  refine z_evG 5 (y := if 0 = 0 then z_go 47 [some (.ref 127), some (.int (nI (s_near (I 127 24))))] [] 161 ((z_u2 I1 127 27 0), J, RF w) else z_go 161 [some (.ref 127), some (.int (nI (s_near (I 127 24))))] [] 161 ((z_u2 I1 127 27 0), J, RF w)) (fun _ => rfl) ?_
  refine z_evI (fun _ => ?_) (fun q => absurd (by decide) q)
  refine z_evL ?_
  refine z_evG 14 (y := z_ret (z_cl E (d + 3) 210 [.ref 127] (161, ((z_u2 (z_u2 (z_u2 I1 127 27 0) 127 33 ((I1 127 33) - 1)) 127 28 ((I1 127 28) - 1)), J, RF w))) 71 [some (.ref 127), some (.int (nI (s_near (I 127 24))))] []) (fun _ => rfl) ?_
  rw [show (I1 127 33 : Int32) - 1 = nI k from z_predE h_k]
  refine z_evV (z' := 161) (σ' := (I2, J, RF w)) hw2 ?_
  refine z_evG 2 (y := some (.inr (none, 161, I2, J, RF w))) (fun _ => rfl) ?_
  exact z_evR rfl
set_option maxRecDepth 20000 in
theorem m_rs_cbad (E : zE) (d : Nat) (I : Nat → Nat → Int32) (J : Nat → Nat → Int64) (w : Nat) (k : Nat) (s : Int32) (I1 : Nat → Nat → Int32) (hm : I 127 24 ∈ s_sgs) (hT : I 127 24 = 41) (hw : z_cl E (d + 3) 209 [.ref 127, .int 1] (161, I, J, RF w) = some (none, 161, I1, J, RF w)) (h_k : I1 127 33 = nI (k + 1)) (hk : k < 170) (hs : I1 143 k = s) (h40 : ¬ s = 40) : z_Ev E (d + 3) z_m212 0 [some (.ref 127), none] [] 161 (I, J, RF w) (none, 161, (z_u2 I1 127 27 1), J, RF w) := by
  refine z_evG 3 (y := z_ret (z_cl E (d + 3) 208 [.int (I 127 24)] (161, (I, J, RF w))) 7 [some (.ref 127), none] []) (fun _ => rfl) ?_
  refine z_evK (v := .int (nI (s_near (I 127 24)))) (z' := 161) (σ' := (I, J, RF w)) (m_near E (d + 2) I J w (I 127 24) hm) ?_
  refine z_evG 5 (y := if (I 127 24) = 41 then z_go 17 [some (.ref 127), some (.int (nI (s_near (I 127 24))))] [] 161 (I, J, RF w) else z_go 74 [some (.ref 127), some (.int (nI (s_near (I 127 24))))] [] 161 (I, J, RF w)) (fun _ => rfl) ?_
  refine z_evT hT ?_
  refine z_evL ?_
  refine z_evG 3 (y := z_ret (z_cl E (d + 3) 209 [.ref 127, .int 1] (161, (I, J, RF w))) 22 [some (.ref 127), some (.int (nI (s_near (I 127 24))))] []) (fun _ => rfl) ?_
  refine z_evV (z' := 161) (σ' := (I1, J, RF w)) hw ?_
  refine z_evG 3 (y := z_ret (z_cl E (d + 3) 205 [.ref 127] (161, (I1, J, RF w))) 27 [some (.ref 127), some (.int (nI (s_near (I 127 24))))] [.ref 127]) (fun _ => rfl) ?_
  refine z_evK (v := .int s) (z' := 161) (σ' := (I1, J, RF w)) (m_topSign_s E (d + 2) I1 J w k s h_k hk hs) ?_
  refine z_evG 2 (y := if s = 40 then z_go 36 [some (.ref 127), some (.int (nI (s_near (I 127 24))))] [.ref 127] 161 (I1, J, RF w) else z_go 32 [some (.ref 127), some (.int (nI (s_near (I 127 24))))] [.ref 127] 161 (I1, J, RF w)) (fun _ => rfl) ?_
  refine z_evF h40 ?_
  refine z_evL ?_
  refine z_evG 6 (y := if 1 = 0 then z_go 47 [some (.ref 127), some (.int (nI (s_near (I 127 24))))] [] 161 ((z_u2 I1 127 27 1), J, RF w) else z_go 161 [some (.ref 127), some (.int (nI (s_near (I 127 24))))] [] 161 ((z_u2 I1 127 27 1), J, RF w)) (fun _ => rfl) ?_
  refine z_evI (fun q => absurd q (by decide)) (fun _ => ?_)
  refine z_evL ?_
  refine z_evG 1 (y := some (.inr (none, 161, (z_u2 I1 127 27 1), J, RF w))) (fun _ => rfl) ?_
  exact z_evR rfl
set_option maxRecDepth 20000 in
theorem m_rs_cbad0 (E : zE) (d : Nat) (I : Nat → Nat → Int32) (J : Nat → Nat → Int64) (w : Nat) (I1 : Nat → Nat → Int32) (hm : I 127 24 ∈ s_sgs) (hT : I 127 24 = 41) (hw : z_cl E (d + 3) 209 [.ref 127, .int 1] (161, I, J, RF w) = some (none, 161, I1, J, RF w)) (h0 : I1 127 33 = 0) : z_Ev E (d + 3) z_m212 0 [some (.ref 127), none] [] 161 (I, J, RF w) (none, 161, (z_u2 I1 127 27 1), J, RF w) := by
  refine z_evG 3 (y := z_ret (z_cl E (d + 3) 208 [.int (I 127 24)] (161, (I, J, RF w))) 7 [some (.ref 127), none] []) (fun _ => rfl) ?_
  refine z_evK (v := .int (nI (s_near (I 127 24)))) (z' := 161) (σ' := (I, J, RF w)) (m_near E (d + 2) I J w (I 127 24) hm) ?_
  refine z_evG 5 (y := if (I 127 24) = 41 then z_go 17 [some (.ref 127), some (.int (nI (s_near (I 127 24))))] [] 161 (I, J, RF w) else z_go 74 [some (.ref 127), some (.int (nI (s_near (I 127 24))))] [] 161 (I, J, RF w)) (fun _ => rfl) ?_
  refine z_evT hT ?_
  refine z_evL ?_
  refine z_evG 3 (y := z_ret (z_cl E (d + 3) 209 [.ref 127, .int 1] (161, (I, J, RF w))) 22 [some (.ref 127), some (.int (nI (s_near (I 127 24))))] []) (fun _ => rfl) ?_
  refine z_evV (z' := 161) (σ' := (I1, J, RF w)) hw ?_
  refine z_evG 3 (y := z_ret (z_cl E (d + 3) 205 [.ref 127] (161, (I1, J, RF w))) 27 [some (.ref 127), some (.int (nI (s_near (I 127 24))))] [.ref 127]) (fun _ => rfl) ?_
  refine z_evK (v := .int 0) (z' := 161) (σ' := (I1, J, RF w)) (m_topSign_0 E (d + 2) I1 J w h0) ?_
  refine z_evG 2 (y := if 0 = 40 then z_go 36 [some (.ref 127), some (.int (nI (s_near (I 127 24))))] [.ref 127] 161 (I1, J, RF w) else z_go 32 [some (.ref 127), some (.int (nI (s_near (I 127 24))))] [.ref 127] 161 (I1, J, RF w)) (fun _ => rfl) ?_
  refine z_evI (fun q => absurd q (by decide)) (fun _ => ?_)
  refine z_evL ?_
  refine z_evG 6 (y := if 1 = 0 then z_go 47 [some (.ref 127), some (.int (nI (s_near (I 127 24))))] [] 161 ((z_u2 I1 127 27 1), J, RF w) else z_go 161 [some (.ref 127), some (.int (nI (s_near (I 127 24))))] [] 161 ((z_u2 I1 127 27 1), J, RF w)) (fun _ => rfl) ?_
  refine z_evI (fun q => absurd q (by decide)) (fun _ => ?_)
  refine z_evL ?_
  refine z_evG 1 (y := some (.inr (none, 161, (z_u2 I1 127 27 1), J, RF w))) (fun _ => rfl) ?_
  exact z_evR rfl
set_option maxRecDepth 20000 in
theorem m_rs_none (E : zE) (d : Nat) (I : Nat → Nat → Int32) (J : Nat → Nat → Int64) (w : Nat)  (hm : I 127 24 ∈ s_sgs) (hT : ¬ I 127 24 = 41) (hz : s_near (I 127 24) = 0) : z_Ev E (d + 3) z_m212 0 [some (.ref 127), none] [] 161 (I, J, RF w) (none, 161, (z_u2 I 127 27 1), J, RF w) := by
  refine z_evG 3 (y := z_ret (z_cl E (d + 3) 208 [.int (I 127 24)] (161, (I, J, RF w))) 7 [some (.ref 127), none] []) (fun _ => rfl) ?_
  refine z_evK (v := .int (nI (s_near (I 127 24)))) (z' := 161) (σ' := (I, J, RF w)) (m_near E (d + 2) I J w (I 127 24) hm) ?_
  refine z_evG 5 (y := if (I 127 24) = 41 then z_go 17 [some (.ref 127), some (.int (nI (s_near (I 127 24))))] [] 161 (I, J, RF w) else z_go 74 [some (.ref 127), some (.int (nI (s_near (I 127 24))))] [] 161 (I, J, RF w)) (fun _ => rfl) ?_
  refine z_evF hT ?_
  refine z_evL ?_
  refine z_evG 2 (y := if (nI (s_near (I 127 24))) = 0 then z_go 87 [some (.ref 127), some (.int (nI (s_near (I 127 24))))] [] 161 (I, J, RF w) else z_go 78 [some (.ref 127), some (.int (nI (s_near (I 127 24))))] [] 161 (I, J, RF w)) (fun _ => rfl) ?_
  refine z_evT (by rw [hz]; rfl) ?_
  refine z_evL ?_
  refine z_evG 5 (y := some (.inr (none, 161, (z_u2 I 127 27 1), J, RF w))) (fun _ => rfl) ?_
  exact z_evR rfl
set_option maxRecDepth 20000 in
theorem m_rs_not (E : zE) (d : Nat) (I : Nat → Nat → Int32) (J : Nat → Nat → Int64) (w : Nat)  (hm : I 127 24 ∈ s_sgs) (hT : ¬ I 127 24 = 41) (hz : ¬ s_near (I 127 24) = 0) (h14 : I 127 24 = 14) : z_Ev E (d + 3) z_m212 0 [some (.ref 127), none] [] 161 (I, J, RF w) (none, 161, (z_u2 I 127 27 1), J, RF w) := by
  refine z_evG 3 (y := z_ret (z_cl E (d + 3) 208 [.int (I 127 24)] (161, (I, J, RF w))) 7 [some (.ref 127), none] []) (fun _ => rfl) ?_
  refine z_evK (v := .int (nI (s_near (I 127 24)))) (z' := 161) (σ' := (I, J, RF w)) (m_near E (d + 2) I J w (I 127 24) hm) ?_
  refine z_evG 5 (y := if (I 127 24) = 41 then z_go 17 [some (.ref 127), some (.int (nI (s_near (I 127 24))))] [] 161 (I, J, RF w) else z_go 74 [some (.ref 127), some (.int (nI (s_near (I 127 24))))] [] 161 (I, J, RF w)) (fun _ => rfl) ?_
  refine z_evF hT ?_
  refine z_evL ?_
  refine z_evG 2 (y := if (nI (s_near (I 127 24))) = 0 then z_go 87 [some (.ref 127), some (.int (nI (s_near (I 127 24))))] [] 161 (I, J, RF w) else z_go 78 [some (.ref 127), some (.int (nI (s_near (I 127 24))))] [] 161 (I, J, RF w)) (fun _ => rfl) ?_
  refine z_evF (mt (z_eqN (b := 0) rfl rfl (by have := s_near6 (I 127 24); omega) (by decide)).mp hz) ?_
  refine z_evL ?_
  refine z_evG 4 (y := if (I 127 24) = 14 then z_go 87 [some (.ref 127), some (.int (nI (s_near (I 127 24))))] [] 161 (I, J, RF w) else z_go 95 [some (.ref 127), some (.int (nI (s_near (I 127 24))))] [] 161 (I, J, RF w)) (fun _ => rfl) ?_
  refine z_evT h14 ?_
  refine z_evL ?_
  refine z_evG 5 (y := some (.inr (none, 161, (z_u2 I 127 27 1), J, RF w))) (fun _ => rfl) ?_
  exact z_evR rfl
set_option maxRecDepth 20000 in
theorem m_rs_op1 (E : zE) (d : Nat) (I : Nat → Nat → Int32) (J : Nat → Nat → Int64) (w : Nat) (q : Nat) (I1 : Nat → Nat → Int32) (hm : I 127 24 ∈ s_sgs) (hT : ¬ I 127 24 = 41) (hz : ¬ s_near (I 127 24) = 0) (h14 : ¬ I 127 24 = 14) (h4 : ¬ s_near (I 127 24) = 4) (h3 : s_near (I 127 24) < 3) (hw : z_cl E (d + 3) 209 [.ref 127, .int (nI (s_near (I 127 24)))] (161, I, J, RF w) = some (none, 161, I1, J, RF w)) (h_q : I1 127 33 = nI q) (hq : q < 170) (hI : I1 127 24 = I 127 24) : z_Ev E (d + 3) z_m212 0 [some (.ref 127), none] [] 161 (I, J, RF w) (none, 161, (z_u2 (z_u2 (z_u2 (z_u2 (z_u2 I1 127 27 0) 143 q (I1 127 24)) 127 33 (nI (q + 1))) 127 36 1) 127 37 1), J, RF w) := by
  refine z_evG 3 (y := z_ret (z_cl E (d + 3) 208 [.int (I 127 24)] (161, (I, J, RF w))) 7 [some (.ref 127), none] []) (fun _ => rfl) ?_
  refine z_evK (v := .int (nI (s_near (I 127 24)))) (z' := 161) (σ' := (I, J, RF w)) (m_near E (d + 2) I J w (I 127 24) hm) ?_
  refine z_evG 5 (y := if (I 127 24) = 41 then z_go 17 [some (.ref 127), some (.int (nI (s_near (I 127 24))))] [] 161 (I, J, RF w) else z_go 74 [some (.ref 127), some (.int (nI (s_near (I 127 24))))] [] 161 (I, J, RF w)) (fun _ => rfl) ?_
  refine z_evF hT ?_
  refine z_evL ?_
  refine z_evG 2 (y := if (nI (s_near (I 127 24))) = 0 then z_go 87 [some (.ref 127), some (.int (nI (s_near (I 127 24))))] [] 161 (I, J, RF w) else z_go 78 [some (.ref 127), some (.int (nI (s_near (I 127 24))))] [] 161 (I, J, RF w)) (fun _ => rfl) ?_
  refine z_evF (mt (z_eqN (b := 0) rfl rfl (by have := s_near6 (I 127 24); omega) (by decide)).mp hz) ?_
  refine z_evL ?_
  refine z_evG 4 (y := if (I 127 24) = 14 then z_go 87 [some (.ref 127), some (.int (nI (s_near (I 127 24))))] [] 161 (I, J, RF w) else z_go 95 [some (.ref 127), some (.int (nI (s_near (I 127 24))))] [] 161 (I, J, RF w)) (fun _ => rfl) ?_
  refine z_evF h14 ?_
  refine z_evL ?_
  refine z_evG 4 (y := if (nI (s_near (I 127 24))) = 4 then z_go 101 [some (.ref 127), some (.int (nI (s_near (I 127 24))))] [.ref 127] 161 (I, J, RF w) else z_go 105 [some (.ref 127), some (.int (nI (s_near (I 127 24))))] [.ref 127] 161 (I, J, RF w)) (fun _ => rfl) ?_
  refine z_evF (mt (z_eqN (b := 4) rfl rfl (by have := s_near6 (I 127 24); omega) (by decide)).mp h4) ?_
  refine z_evL ?_
  refine z_evG 2 (y := z_ret (z_cl E (d + 3) 209 [.ref 127, .int (nI (s_near (I 127 24)))] (161, (I, J, RF w))) 109 [some (.ref 127), some (.int (nI (s_near (I 127 24))))] []) (fun _ => rfl) ?_
  refine z_evV (z' := 161) (σ' := (I1, J, RF w)) hw ?_
  refine z_evG 4 (y := if (nI (s_near (I 127 24))) = 4 then z_go 115 [some (.ref 127), some (.int (nI (s_near (I 127 24))))] [.ref 127] 161 (I1, J, RF w) else z_go 130 [some (.ref 127), some (.int (nI (s_near (I 127 24))))] [.ref 127] 161 (I1, J, RF w)) (fun _ => rfl) ?_
  refine z_evF (mt (z_eqN (b := 4) rfl rfl (by have := s_near6 (I 127 24); omega) (by decide)).mp h4) ?_
  refine z_evL ?_
  refine z_evG 6 (y := z_ret (z_cl E (d + 3) 206 [.ref 127, .int (I1 127 24)] (161, ((z_u2 I1 127 27 0), J, RF w))) 142 [some (.ref 127), some (.int (nI (s_near (I 127 24))))] []) (fun _ => rfl) ?_
  refine z_evV (z' := 161) (σ' := ((z_u2 (z_u2 (z_u2 I1 127 27 0) 143 q (I1 127 24)) 127 33 (nI (q + 1))), J, RF w)) (m_push E (d + 2) (z_u2 I1 127 27 0) J w (I1 127 24) q h_q (by omega)) ?_
  refine z_evG 7 (y := if (nI (s_near (I 127 24))) < 3 then z_go 153 [some (.ref 127), some (.int (nI (s_near (I 127 24))))] [.ref 127] 161 ((z_u2 (z_u2 (z_u2 (z_u2 I1 127 27 0) 143 q (I1 127 24)) 127 33 (nI (q + 1))) 127 36 1), J, RF w) else z_go 157 [some (.ref 127), some (.int (nI (s_near (I 127 24))))] [.ref 127] 161 ((z_u2 (z_u2 (z_u2 (z_u2 I1 127 27 0) 143 q (I1 127 24)) 127 33 (nI (q + 1))) 127 36 1), J, RF w)) (fun _ => rfl) ?_
  refine z_evT ((z_ltN (b := 3) rfl rfl (by have := s_near6 (I 127 24); omega) (by decide)).mpr h3) ?_
  refine z_evL ?_
  refine z_evG 4 (y := some (.inr (none, 161, (z_u2 (z_u2 (z_u2 (z_u2 (z_u2 I1 127 27 0) 143 q (I1 127 24)) 127 33 (nI (q + 1))) 127 36 1) 127 37 1), J, RF w))) (fun _ => rfl) ?_
  exact z_evR rfl
set_option maxRecDepth 20000 in
theorem m_rs_op0 (E : zE) (d : Nat) (I : Nat → Nat → Int32) (J : Nat → Nat → Int64) (w : Nat) (q : Nat) (I1 : Nat → Nat → Int32) (hm : I 127 24 ∈ s_sgs) (hT : ¬ I 127 24 = 41) (hz : ¬ s_near (I 127 24) = 0) (h14 : ¬ I 127 24 = 14) (h4 : ¬ s_near (I 127 24) = 4) (h3 : ¬ s_near (I 127 24) < 3) (hw : z_cl E (d + 3) 209 [.ref 127, .int (nI (s_near (I 127 24)))] (161, I, J, RF w) = some (none, 161, I1, J, RF w)) (h_q : I1 127 33 = nI q) (hq : q < 170) (hI : I1 127 24 = I 127 24) : z_Ev E (d + 3) z_m212 0 [some (.ref 127), none] [] 161 (I, J, RF w) (none, 161, (z_u2 (z_u2 (z_u2 (z_u2 (z_u2 I1 127 27 0) 143 q (I1 127 24)) 127 33 (nI (q + 1))) 127 36 1) 127 37 0), J, RF w) := by
  refine z_evG 3 (y := z_ret (z_cl E (d + 3) 208 [.int (I 127 24)] (161, (I, J, RF w))) 7 [some (.ref 127), none] []) (fun _ => rfl) ?_
  refine z_evK (v := .int (nI (s_near (I 127 24)))) (z' := 161) (σ' := (I, J, RF w)) (m_near E (d + 2) I J w (I 127 24) hm) ?_
  refine z_evG 5 (y := if (I 127 24) = 41 then z_go 17 [some (.ref 127), some (.int (nI (s_near (I 127 24))))] [] 161 (I, J, RF w) else z_go 74 [some (.ref 127), some (.int (nI (s_near (I 127 24))))] [] 161 (I, J, RF w)) (fun _ => rfl) ?_
  refine z_evF hT ?_
  refine z_evL ?_
  refine z_evG 2 (y := if (nI (s_near (I 127 24))) = 0 then z_go 87 [some (.ref 127), some (.int (nI (s_near (I 127 24))))] [] 161 (I, J, RF w) else z_go 78 [some (.ref 127), some (.int (nI (s_near (I 127 24))))] [] 161 (I, J, RF w)) (fun _ => rfl) ?_
  refine z_evF (mt (z_eqN (b := 0) rfl rfl (by have := s_near6 (I 127 24); omega) (by decide)).mp hz) ?_
  refine z_evL ?_
  refine z_evG 4 (y := if (I 127 24) = 14 then z_go 87 [some (.ref 127), some (.int (nI (s_near (I 127 24))))] [] 161 (I, J, RF w) else z_go 95 [some (.ref 127), some (.int (nI (s_near (I 127 24))))] [] 161 (I, J, RF w)) (fun _ => rfl) ?_
  refine z_evF h14 ?_
  refine z_evL ?_
  refine z_evG 4 (y := if (nI (s_near (I 127 24))) = 4 then z_go 101 [some (.ref 127), some (.int (nI (s_near (I 127 24))))] [.ref 127] 161 (I, J, RF w) else z_go 105 [some (.ref 127), some (.int (nI (s_near (I 127 24))))] [.ref 127] 161 (I, J, RF w)) (fun _ => rfl) ?_
  refine z_evF (mt (z_eqN (b := 4) rfl rfl (by have := s_near6 (I 127 24); omega) (by decide)).mp h4) ?_
  refine z_evL ?_
  refine z_evG 2 (y := z_ret (z_cl E (d + 3) 209 [.ref 127, .int (nI (s_near (I 127 24)))] (161, (I, J, RF w))) 109 [some (.ref 127), some (.int (nI (s_near (I 127 24))))] []) (fun _ => rfl) ?_
  refine z_evV (z' := 161) (σ' := (I1, J, RF w)) hw ?_
  refine z_evG 4 (y := if (nI (s_near (I 127 24))) = 4 then z_go 115 [some (.ref 127), some (.int (nI (s_near (I 127 24))))] [.ref 127] 161 (I1, J, RF w) else z_go 130 [some (.ref 127), some (.int (nI (s_near (I 127 24))))] [.ref 127] 161 (I1, J, RF w)) (fun _ => rfl) ?_
  refine z_evF (mt (z_eqN (b := 4) rfl rfl (by have := s_near6 (I 127 24); omega) (by decide)).mp h4) ?_
  refine z_evL ?_
  refine z_evG 6 (y := z_ret (z_cl E (d + 3) 206 [.ref 127, .int (I1 127 24)] (161, ((z_u2 I1 127 27 0), J, RF w))) 142 [some (.ref 127), some (.int (nI (s_near (I 127 24))))] []) (fun _ => rfl) ?_
  refine z_evV (z' := 161) (σ' := ((z_u2 (z_u2 (z_u2 I1 127 27 0) 143 q (I1 127 24)) 127 33 (nI (q + 1))), J, RF w)) (m_push E (d + 2) (z_u2 I1 127 27 0) J w (I1 127 24) q h_q (by omega)) ?_
  refine z_evG 7 (y := if (nI (s_near (I 127 24))) < 3 then z_go 153 [some (.ref 127), some (.int (nI (s_near (I 127 24))))] [.ref 127] 161 ((z_u2 (z_u2 (z_u2 (z_u2 I1 127 27 0) 143 q (I1 127 24)) 127 33 (nI (q + 1))) 127 36 1), J, RF w) else z_go 157 [some (.ref 127), some (.int (nI (s_near (I 127 24))))] [.ref 127] 161 ((z_u2 (z_u2 (z_u2 (z_u2 I1 127 27 0) 143 q (I1 127 24)) 127 33 (nI (q + 1))) 127 36 1), J, RF w)) (fun _ => rfl) ?_
  refine z_evF (mt (z_ltN (b := 3) rfl rfl (by have := s_near6 (I 127 24); omega) (by decide)).mp h3) ?_
  refine z_evL ?_
  refine z_evG 3 (y := some (.inr (none, 161, (z_u2 (z_u2 (z_u2 (z_u2 (z_u2 I1 127 27 0) 143 q (I1 127 24)) 127 33 (nI (q + 1))) 127 36 1) 127 37 0), J, RF w))) (fun _ => rfl) ?_
  exact z_evR rfl
set_option maxRecDepth 20000 in
theorem m_rs_cmp0 (E : zE) (d : Nat) (I : Nat → Nat → Int32) (J : Nat → Nat → Int64) (w : Nat) (q : Nat) (I1 : Nat → Nat → Int32) (hm : I 127 24 ∈ s_sgs) (hT : ¬ I 127 24 = 41) (hz : ¬ s_near (I 127 24) = 0) (h14 : ¬ I 127 24 = 14) (h4 : s_near (I 127 24) = 4) (hw : z_cl E (d + 3) 209 [.ref 127, .int 5] (161, I, J, RF w) = some (none, 161, I1, J, RF w)) (h_q : I1 127 33 = nI q) (hq : q < 170) (hI : I1 127 24 = I 127 24) (h0 : I1 127 33 = 0) : z_Ev E (d + 3) z_m212 0 [some (.ref 127), none] [] 161 (I, J, RF w) (none, 161, (z_u2 (z_u2 (z_u2 (z_u2 (z_u2 I1 127 27 0) 143 q (I1 127 24)) 127 33 (nI (q + 1))) 127 36 1) 127 37 0), J, RF w) := by
  refine z_evG 3 (y := z_ret (z_cl E (d + 3) 208 [.int (I 127 24)] (161, (I, J, RF w))) 7 [some (.ref 127), none] []) (fun _ => rfl) ?_
  refine z_evK (v := .int (nI (s_near (I 127 24)))) (z' := 161) (σ' := (I, J, RF w)) (m_near E (d + 2) I J w (I 127 24) hm) ?_
  refine z_evG 5 (y := if (I 127 24) = 41 then z_go 17 [some (.ref 127), some (.int (nI (s_near (I 127 24))))] [] 161 (I, J, RF w) else z_go 74 [some (.ref 127), some (.int (nI (s_near (I 127 24))))] [] 161 (I, J, RF w)) (fun _ => rfl) ?_
  refine z_evF hT ?_
  refine z_evL ?_
  refine z_evG 2 (y := if (nI (s_near (I 127 24))) = 0 then z_go 87 [some (.ref 127), some (.int (nI (s_near (I 127 24))))] [] 161 (I, J, RF w) else z_go 78 [some (.ref 127), some (.int (nI (s_near (I 127 24))))] [] 161 (I, J, RF w)) (fun _ => rfl) ?_
  refine z_evF (mt (z_eqN (b := 0) rfl rfl (by have := s_near6 (I 127 24); omega) (by decide)).mp hz) ?_
  refine z_evL ?_
  refine z_evG 4 (y := if (I 127 24) = 14 then z_go 87 [some (.ref 127), some (.int (nI (s_near (I 127 24))))] [] 161 (I, J, RF w) else z_go 95 [some (.ref 127), some (.int (nI (s_near (I 127 24))))] [] 161 (I, J, RF w)) (fun _ => rfl) ?_
  refine z_evF h14 ?_
  refine z_evL ?_
  refine z_evG 4 (y := if (nI (s_near (I 127 24))) = 4 then z_go 101 [some (.ref 127), some (.int (nI (s_near (I 127 24))))] [.ref 127] 161 (I, J, RF w) else z_go 105 [some (.ref 127), some (.int (nI (s_near (I 127 24))))] [.ref 127] 161 (I, J, RF w)) (fun _ => rfl) ?_
  refine z_evT ((z_eqN (b := 4) rfl rfl (by have := s_near6 (I 127 24); omega) (by decide)).mpr h4) ?_
  refine z_evL ?_
  refine z_evG 3 (y := z_ret (z_cl E (d + 3) 209 [.ref 127, .int 5] (161, (I, J, RF w))) 109 [some (.ref 127), some (.int (nI (s_near (I 127 24))))] []) (fun _ => rfl) ?_
  refine z_evV (z' := 161) (σ' := (I1, J, RF w)) hw ?_
  refine z_evG 4 (y := if (nI (s_near (I 127 24))) = 4 then z_go 115 [some (.ref 127), some (.int (nI (s_near (I 127 24))))] [.ref 127] 161 (I1, J, RF w) else z_go 130 [some (.ref 127), some (.int (nI (s_near (I 127 24))))] [.ref 127] 161 (I1, J, RF w)) (fun _ => rfl) ?_
  refine z_evT ((z_eqN (b := 4) rfl rfl (by have := s_near6 (I 127 24); omega) (by decide)).mpr h4) ?_
  refine z_evL ?_
  refine z_evG 2 (y := z_ret (z_cl E (d + 3) 205 [.ref 127] (161, (I1, J, RF w))) 119 [some (.ref 127), some (.int (nI (s_near (I 127 24))))] [.ref 127]) (fun _ => rfl) ?_
  refine z_evK (v := .int 0) (z' := 161) (σ' := (I1, J, RF w)) (m_topSign_0 E (d + 2) I1 J w h0) ?_
  refine z_evG 1 (y := z_ret (z_cl E (d + 3) 208 [.int 0] (161, (I1, J, RF w))) 122 [some (.ref 127), some (.int (nI (s_near (I 127 24))))] [.ref 127]) (fun _ => rfl) ?_
  refine z_evK (v := .int (nI (s_near 0))) (z' := 161) (σ' := (I1, J, RF w)) (m_near E (d + 2) I1 J w 0 (by decide)) ?_
  refine z_evG 2 (y := if (nI (s_near 0)) = 4 then z_go 126 [some (.ref 127), some (.int (nI (s_near (I 127 24))))] [.ref 127] 161 (I1, J, RF w) else z_go 130 [some (.ref 127), some (.int (nI (s_near (I 127 24))))] [.ref 127] 161 (I1, J, RF w)) (fun _ => rfl) ?_
  refine z_evF (by decide) ?_
  refine z_evL ?_
  refine z_evG 6 (y := z_ret (z_cl E (d + 3) 206 [.ref 127, .int (I1 127 24)] (161, ((z_u2 I1 127 27 0), J, RF w))) 142 [some (.ref 127), some (.int (nI (s_near (I 127 24))))] []) (fun _ => rfl) ?_
  refine z_evV (z' := 161) (σ' := ((z_u2 (z_u2 (z_u2 I1 127 27 0) 143 q (I1 127 24)) 127 33 (nI (q + 1))), J, RF w)) (m_push E (d + 2) (z_u2 I1 127 27 0) J w (I1 127 24) q h_q (by omega)) ?_
  refine z_evG 7 (y := if (nI (s_near (I 127 24))) < 3 then z_go 153 [some (.ref 127), some (.int (nI (s_near (I 127 24))))] [.ref 127] 161 ((z_u2 (z_u2 (z_u2 (z_u2 I1 127 27 0) 143 q (I1 127 24)) 127 33 (nI (q + 1))) 127 36 1), J, RF w) else z_go 157 [some (.ref 127), some (.int (nI (s_near (I 127 24))))] [.ref 127] 161 ((z_u2 (z_u2 (z_u2 (z_u2 I1 127 27 0) 143 q (I1 127 24)) 127 33 (nI (q + 1))) 127 36 1), J, RF w)) (fun _ => rfl) ?_
  refine z_evF (mt (z_ltN (b := 3) rfl rfl (by have := s_near6 (I 127 24); omega) (by decide)).mp (by omega)) ?_
  refine z_evL ?_
  refine z_evG 3 (y := some (.inr (none, 161, (z_u2 (z_u2 (z_u2 (z_u2 (z_u2 I1 127 27 0) 143 q (I1 127 24)) 127 33 (nI (q + 1))) 127 36 1) 127 37 0), J, RF w))) (fun _ => rfl) ?_
  exact z_evR rfl
set_option maxRecDepth 20000 in
theorem m_rs_cmps (E : zE) (d : Nat) (I : Nat → Nat → Int32) (J : Nat → Nat → Int64) (w : Nat) (q : Nat) (I1 : Nat → Nat → Int32) (k : Nat) (s : Int32) (hm : I 127 24 ∈ s_sgs) (hT : ¬ I 127 24 = 41) (hz : ¬ s_near (I 127 24) = 0) (h14 : ¬ I 127 24 = 14) (h4 : s_near (I 127 24) = 4) (hw : z_cl E (d + 3) 209 [.ref 127, .int 5] (161, I, J, RF w) = some (none, 161, I1, J, RF w)) (h_q : I1 127 33 = nI q) (hq : q < 170) (hI : I1 127 24 = I 127 24) (h_k : I1 127 33 = nI (k + 1)) (hk : k < 170) (hs : I1 143 k = s) (hms : s ∈ s_sgs) (hns : ¬ s_near s = 4) : z_Ev E (d + 3) z_m212 0 [some (.ref 127), none] [] 161 (I, J, RF w) (none, 161, (z_u2 (z_u2 (z_u2 (z_u2 (z_u2 I1 127 27 0) 143 q (I1 127 24)) 127 33 (nI (q + 1))) 127 36 1) 127 37 0), J, RF w) := by
  refine z_evG 3 (y := z_ret (z_cl E (d + 3) 208 [.int (I 127 24)] (161, (I, J, RF w))) 7 [some (.ref 127), none] []) (fun _ => rfl) ?_
  refine z_evK (v := .int (nI (s_near (I 127 24)))) (z' := 161) (σ' := (I, J, RF w)) (m_near E (d + 2) I J w (I 127 24) hm) ?_
  refine z_evG 5 (y := if (I 127 24) = 41 then z_go 17 [some (.ref 127), some (.int (nI (s_near (I 127 24))))] [] 161 (I, J, RF w) else z_go 74 [some (.ref 127), some (.int (nI (s_near (I 127 24))))] [] 161 (I, J, RF w)) (fun _ => rfl) ?_
  refine z_evF hT ?_
  refine z_evL ?_
  refine z_evG 2 (y := if (nI (s_near (I 127 24))) = 0 then z_go 87 [some (.ref 127), some (.int (nI (s_near (I 127 24))))] [] 161 (I, J, RF w) else z_go 78 [some (.ref 127), some (.int (nI (s_near (I 127 24))))] [] 161 (I, J, RF w)) (fun _ => rfl) ?_
  refine z_evF (mt (z_eqN (b := 0) rfl rfl (by have := s_near6 (I 127 24); omega) (by decide)).mp hz) ?_
  refine z_evL ?_
  refine z_evG 4 (y := if (I 127 24) = 14 then z_go 87 [some (.ref 127), some (.int (nI (s_near (I 127 24))))] [] 161 (I, J, RF w) else z_go 95 [some (.ref 127), some (.int (nI (s_near (I 127 24))))] [] 161 (I, J, RF w)) (fun _ => rfl) ?_
  refine z_evF h14 ?_
  refine z_evL ?_
  refine z_evG 4 (y := if (nI (s_near (I 127 24))) = 4 then z_go 101 [some (.ref 127), some (.int (nI (s_near (I 127 24))))] [.ref 127] 161 (I, J, RF w) else z_go 105 [some (.ref 127), some (.int (nI (s_near (I 127 24))))] [.ref 127] 161 (I, J, RF w)) (fun _ => rfl) ?_
  refine z_evT ((z_eqN (b := 4) rfl rfl (by have := s_near6 (I 127 24); omega) (by decide)).mpr h4) ?_
  refine z_evL ?_
  refine z_evG 3 (y := z_ret (z_cl E (d + 3) 209 [.ref 127, .int 5] (161, (I, J, RF w))) 109 [some (.ref 127), some (.int (nI (s_near (I 127 24))))] []) (fun _ => rfl) ?_
  refine z_evV (z' := 161) (σ' := (I1, J, RF w)) hw ?_
  refine z_evG 4 (y := if (nI (s_near (I 127 24))) = 4 then z_go 115 [some (.ref 127), some (.int (nI (s_near (I 127 24))))] [.ref 127] 161 (I1, J, RF w) else z_go 130 [some (.ref 127), some (.int (nI (s_near (I 127 24))))] [.ref 127] 161 (I1, J, RF w)) (fun _ => rfl) ?_
  refine z_evT ((z_eqN (b := 4) rfl rfl (by have := s_near6 (I 127 24); omega) (by decide)).mpr h4) ?_
  refine z_evL ?_
  refine z_evG 2 (y := z_ret (z_cl E (d + 3) 205 [.ref 127] (161, (I1, J, RF w))) 119 [some (.ref 127), some (.int (nI (s_near (I 127 24))))] [.ref 127]) (fun _ => rfl) ?_
  refine z_evK (v := .int s) (z' := 161) (σ' := (I1, J, RF w)) (m_topSign_s E (d + 2) I1 J w k s h_k hk hs) ?_
  refine z_evG 1 (y := z_ret (z_cl E (d + 3) 208 [.int s] (161, (I1, J, RF w))) 122 [some (.ref 127), some (.int (nI (s_near (I 127 24))))] [.ref 127]) (fun _ => rfl) ?_
  refine z_evK (v := .int (nI (s_near s))) (z' := 161) (σ' := (I1, J, RF w)) (m_near E (d + 2) I1 J w s hms) ?_
  refine z_evG 2 (y := if (nI (s_near s)) = 4 then z_go 126 [some (.ref 127), some (.int (nI (s_near (I 127 24))))] [.ref 127] 161 (I1, J, RF w) else z_go 130 [some (.ref 127), some (.int (nI (s_near (I 127 24))))] [.ref 127] 161 (I1, J, RF w)) (fun _ => rfl) ?_
  refine z_evF (mt (z_eqN (b := 4) rfl rfl (by have := s_near6 s; omega) (by decide)).mp hns) ?_
  refine z_evL ?_
  refine z_evG 6 (y := z_ret (z_cl E (d + 3) 206 [.ref 127, .int (I1 127 24)] (161, ((z_u2 I1 127 27 0), J, RF w))) 142 [some (.ref 127), some (.int (nI (s_near (I 127 24))))] []) (fun _ => rfl) ?_
  refine z_evV (z' := 161) (σ' := ((z_u2 (z_u2 (z_u2 I1 127 27 0) 143 q (I1 127 24)) 127 33 (nI (q + 1))), J, RF w)) (m_push E (d + 2) (z_u2 I1 127 27 0) J w (I1 127 24) q h_q (by omega)) ?_
  refine z_evG 7 (y := if (nI (s_near (I 127 24))) < 3 then z_go 153 [some (.ref 127), some (.int (nI (s_near (I 127 24))))] [.ref 127] 161 ((z_u2 (z_u2 (z_u2 (z_u2 I1 127 27 0) 143 q (I1 127 24)) 127 33 (nI (q + 1))) 127 36 1), J, RF w) else z_go 157 [some (.ref 127), some (.int (nI (s_near (I 127 24))))] [.ref 127] 161 ((z_u2 (z_u2 (z_u2 (z_u2 I1 127 27 0) 143 q (I1 127 24)) 127 33 (nI (q + 1))) 127 36 1), J, RF w)) (fun _ => rfl) ?_
  refine z_evF (mt (z_ltN (b := 3) rfl rfl (by have := s_near6 (I 127 24); omega) (by decide)).mp (by omega)) ?_
  refine z_evL ?_
  refine z_evG 3 (y := some (.inr (none, 161, (z_u2 (z_u2 (z_u2 (z_u2 (z_u2 I1 127 27 0) 143 q (I1 127 24)) 127 33 (nI (q + 1))) 127 36 1) 127 37 0), J, RF w))) (fun _ => rfl) ?_
  exact z_evR rfl
set_option maxRecDepth 20000 in
theorem m_rs_cmpb (E : zE) (d : Nat) (I : Nat → Nat → Int32) (J : Nat → Nat → Int64) (w : Nat) (q : Nat) (I1 : Nat → Nat → Int32) (k : Nat) (s : Int32) (hm : I 127 24 ∈ s_sgs) (hT : ¬ I 127 24 = 41) (hz : ¬ s_near (I 127 24) = 0) (h14 : ¬ I 127 24 = 14) (h4 : s_near (I 127 24) = 4) (hw : z_cl E (d + 3) 209 [.ref 127, .int 5] (161, I, J, RF w) = some (none, 161, I1, J, RF w)) (h_q : I1 127 33 = nI q) (hq : q < 170) (hI : I1 127 24 = I 127 24) (h_k : I1 127 33 = nI (k + 1)) (hk : k < 170) (hs : I1 143 k = s) (hms : s ∈ s_sgs) (hns : s_near s = 4) : z_Ev E (d + 3) z_m212 0 [some (.ref 127), none] [] 161 (I, J, RF w) (none, 161, (z_u2 (z_u2 (z_u2 (z_u2 (z_u2 I1 127 27 1) 143 q (I1 127 24)) 127 33 (nI (q + 1))) 127 36 1) 127 37 0), J, RF w) := by
  refine z_evG 3 (y := z_ret (z_cl E (d + 3) 208 [.int (I 127 24)] (161, (I, J, RF w))) 7 [some (.ref 127), none] []) (fun _ => rfl) ?_
  refine z_evK (v := .int (nI (s_near (I 127 24)))) (z' := 161) (σ' := (I, J, RF w)) (m_near E (d + 2) I J w (I 127 24) hm) ?_
  refine z_evG 5 (y := if (I 127 24) = 41 then z_go 17 [some (.ref 127), some (.int (nI (s_near (I 127 24))))] [] 161 (I, J, RF w) else z_go 74 [some (.ref 127), some (.int (nI (s_near (I 127 24))))] [] 161 (I, J, RF w)) (fun _ => rfl) ?_
  refine z_evF hT ?_
  refine z_evL ?_
  refine z_evG 2 (y := if (nI (s_near (I 127 24))) = 0 then z_go 87 [some (.ref 127), some (.int (nI (s_near (I 127 24))))] [] 161 (I, J, RF w) else z_go 78 [some (.ref 127), some (.int (nI (s_near (I 127 24))))] [] 161 (I, J, RF w)) (fun _ => rfl) ?_
  refine z_evF (mt (z_eqN (b := 0) rfl rfl (by have := s_near6 (I 127 24); omega) (by decide)).mp hz) ?_
  refine z_evL ?_
  refine z_evG 4 (y := if (I 127 24) = 14 then z_go 87 [some (.ref 127), some (.int (nI (s_near (I 127 24))))] [] 161 (I, J, RF w) else z_go 95 [some (.ref 127), some (.int (nI (s_near (I 127 24))))] [] 161 (I, J, RF w)) (fun _ => rfl) ?_
  refine z_evF h14 ?_
  refine z_evL ?_
  refine z_evG 4 (y := if (nI (s_near (I 127 24))) = 4 then z_go 101 [some (.ref 127), some (.int (nI (s_near (I 127 24))))] [.ref 127] 161 (I, J, RF w) else z_go 105 [some (.ref 127), some (.int (nI (s_near (I 127 24))))] [.ref 127] 161 (I, J, RF w)) (fun _ => rfl) ?_
  refine z_evT ((z_eqN (b := 4) rfl rfl (by have := s_near6 (I 127 24); omega) (by decide)).mpr h4) ?_
  refine z_evL ?_
  refine z_evG 3 (y := z_ret (z_cl E (d + 3) 209 [.ref 127, .int 5] (161, (I, J, RF w))) 109 [some (.ref 127), some (.int (nI (s_near (I 127 24))))] []) (fun _ => rfl) ?_
  refine z_evV (z' := 161) (σ' := (I1, J, RF w)) hw ?_
  refine z_evG 4 (y := if (nI (s_near (I 127 24))) = 4 then z_go 115 [some (.ref 127), some (.int (nI (s_near (I 127 24))))] [.ref 127] 161 (I1, J, RF w) else z_go 130 [some (.ref 127), some (.int (nI (s_near (I 127 24))))] [.ref 127] 161 (I1, J, RF w)) (fun _ => rfl) ?_
  refine z_evT ((z_eqN (b := 4) rfl rfl (by have := s_near6 (I 127 24); omega) (by decide)).mpr h4) ?_
  refine z_evL ?_
  refine z_evG 2 (y := z_ret (z_cl E (d + 3) 205 [.ref 127] (161, (I1, J, RF w))) 119 [some (.ref 127), some (.int (nI (s_near (I 127 24))))] [.ref 127]) (fun _ => rfl) ?_
  refine z_evK (v := .int s) (z' := 161) (σ' := (I1, J, RF w)) (m_topSign_s E (d + 2) I1 J w k s h_k hk hs) ?_
  refine z_evG 1 (y := z_ret (z_cl E (d + 3) 208 [.int s] (161, (I1, J, RF w))) 122 [some (.ref 127), some (.int (nI (s_near (I 127 24))))] [.ref 127]) (fun _ => rfl) ?_
  refine z_evK (v := .int (nI (s_near s))) (z' := 161) (σ' := (I1, J, RF w)) (m_near E (d + 2) I1 J w s hms) ?_
  refine z_evG 2 (y := if (nI (s_near s)) = 4 then z_go 126 [some (.ref 127), some (.int (nI (s_near (I 127 24))))] [.ref 127] 161 (I1, J, RF w) else z_go 130 [some (.ref 127), some (.int (nI (s_near (I 127 24))))] [.ref 127] 161 (I1, J, RF w)) (fun _ => rfl) ?_
  refine z_evT ((z_eqN (b := 4) rfl rfl (by have := s_near6 s; omega) (by decide)).mpr hns) ?_
  refine z_evL ?_
  refine z_evG 7 (y := z_ret (z_cl E (d + 3) 206 [.ref 127, .int (I1 127 24)] (161, ((z_u2 I1 127 27 1), J, RF w))) 142 [some (.ref 127), some (.int (nI (s_near (I 127 24))))] []) (fun _ => rfl) ?_
  refine z_evV (z' := 161) (σ' := ((z_u2 (z_u2 (z_u2 I1 127 27 1) 143 q (I1 127 24)) 127 33 (nI (q + 1))), J, RF w)) (m_push E (d + 2) (z_u2 I1 127 27 1) J w (I1 127 24) q h_q (by omega)) ?_
  refine z_evG 7 (y := if (nI (s_near (I 127 24))) < 3 then z_go 153 [some (.ref 127), some (.int (nI (s_near (I 127 24))))] [.ref 127] 161 ((z_u2 (z_u2 (z_u2 (z_u2 I1 127 27 1) 143 q (I1 127 24)) 127 33 (nI (q + 1))) 127 36 1), J, RF w) else z_go 157 [some (.ref 127), some (.int (nI (s_near (I 127 24))))] [.ref 127] 161 ((z_u2 (z_u2 (z_u2 (z_u2 I1 127 27 1) 143 q (I1 127 24)) 127 33 (nI (q + 1))) 127 36 1), J, RF w)) (fun _ => rfl) ?_
  refine z_evF (mt (z_ltN (b := 3) rfl rfl (by have := s_near6 (I 127 24); omega) (by decide)).mp (by omega)) ?_
  refine z_evL ?_
  refine z_evG 3 (y := some (.inr (none, 161, (z_u2 (z_u2 (z_u2 (z_u2 (z_u2 I1 127 27 1) 143 q (I1 127 24)) 127 33 (nI (q + 1))) 127 36 1) 127 37 0), J, RF w))) (fun _ => rfl) ?_
  exact z_evR rfl
