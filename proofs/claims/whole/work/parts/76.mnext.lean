-- A TOKEN by the reference
theorem z_nxC (I : Nat → Nat → Int32) (a s t : Int32) : z_u2 (z_u2 (z_u2 I 127 23 a) 127 25 s) 127 24 t = s_nxt I a t s (I 127 26) := by
  funext c k
  unfold s_nxt z_u2
  by_cases hc : c = 127
  · subst hc
    by_cases h23 : k = 23
    · simp [h23]
    · by_cases h24 : k = 24
      · simp [h24]
      · by_cases h25 : k = 25
        · simp [h25]
        · by_cases h26 : k = 26
          · simp [h26]
          · simp [h23, h24, h25, h26]
  · simp [hc]
theorem z_nxD (I : Nat → Nat → Int32) (x s v a t : Int32) : z_u2 (z_u2 (z_u2 (z_u2 (z_u2 I 127 23 x) 127 25 s) 127 26 v) 127 23 a) 127 24 t = s_nxt I a t s v := by
  funext c k
  unfold s_nxt z_u2
  by_cases hc : c = 127
  · subst hc
    by_cases h23 : k = 23
    · simp [h23]
    · by_cases h24 : k = 24
      · simp [h24]
      · by_cases h25 : k = 25
        · simp [h25]
        · by_cases h26 : k = 26
          · simp [h26]
          · simp [h23, h24, h25, h26]
  · simp [hc]
theorem z_nxE (I : Nat → Nat → Int32) (x s t a : Int32) : z_u2 (z_u2 (z_u2 (z_u2 I 127 23 x) 127 25 s) 127 24 t) 127 23 a = s_nxt I a t s (I 127 26) := by
  funext c k
  unfold s_nxt z_u2
  by_cases hc : c = 127
  · subst hc
    by_cases h23 : k = 23
    · simp [h23]
    · by_cases h24 : k = 24
      · simp [h24]
      · by_cases h25 : k = 25
        · simp [h25]
        · by_cases h26 : k = 26
          · simp [h26]
          · simp [h23, h24, h25, h26]
  · simp [hc]
theorem z_nxF (I : Nat → Nat → Int32) (x y a t s v : Int32) : s_nxt (z_u2 (z_u2 I 127 23 x) 127 25 y) a t s v = s_nxt I a t s v := by
  funext c k
  unfold s_nxt z_u2
  by_cases hc : c = 127
  · subst hc
    by_cases h23 : k = 23
    · simp [h23]
    · by_cases h24 : k = 24
      · simp [h24]
      · by_cases h25 : k = 25
        · simp [h25]
        · by_cases h26 : k = 26
          · simp [h26]
          · simp [h23, h24, h25, h26]
  · simp [hc]
def s_mva (I : Nat → Nat → Int32) (b : Nat → Nat) (n p : Nat) : Int32 :=
  if n ≤ s_st b n p then I 127 26
  else if s_dg b (s_st b n p) = true then s_dc4 b (s_st b n p) (s_rn (s_dg b) n (s_st b n p))
  else if s_al b (s_st b n p) = true then s_wva I (s_wtok (s_first (s_isw b (s_st b n p) (s_st b n p + s_rn (s_al b) n (s_st b n p))) 11))
  else I 127 26
theorem s_al_dg {b : Nat → Nat} {k : Nat} (h : s_dg b k = true) : ¬ s_al b k = true := by
  unfold s_dg at h
  unfold s_al
  rw [decide_eq_true_eq] at *
  omega
theorem s_mtk_sg {v : Nat} (h : s_sg v = true) : s_mtk v = nI v := by
  unfold s_sg at h
  simp at h
  rcases h with ((((((h | h) | h) | h) | h) | h) | h) | h <;> subst h <;> rfl
theorem m_next (E : zE) (d : Nat) (I : Nat → Nat → Int32) (J : Nat → Nat → Int64) (w : Nat) (b : Nat → Nat) (n p : Nat) (hB : s_by I b n) (h_p : I 127 23 = nI p) (hpn : p ≤ n) : z_cl E (d + 3) 204 [.ref 127] (161, I, J, RF w) = some (none, 161, s_nxt I (nI (s_en b n p)) (s_mtk (s_tok b n p)) (nI (s_st b n p)) (s_mva I b n p), J, RF w) := by
  refine z_call (d := d + 2) (M := z_m204) rfl rfl ?_
  refine m_next_pre E d I J w b n p hB h_p hpn ?_
  have hle : s_st b n p ≤ n := s_rn_le (s_bl b) (n := n) (p := p) hpn
  show z_Ev E (d + 2) z_m204 31 [some (.ref 127), none, none] [] 161 (z_u2 I 127 23 (nI (s_st b n p)), J, RF w) _
  unfold s_tok s_en s_mva
  by_cases hz : n ≤ s_st b n p
  · have := m_next_end E d (z_u2 I 127 23 (nI (s_st b n p))) J w b n (s_st b n p) hB rfl hle hz
    rw [z_nxC] at this
    rw [if_pos hz, if_pos hz, if_pos hz]
    exact this
  · have hz' : s_st b n p < n := by omega
    rw [if_neg hz, if_neg hz, if_neg hz]
    by_cases hd : s_dg b (s_st b n p) = true
    · rw [if_pos hd, if_pos hd, if_pos hd]
      by_cases h4 : 4 < s_rn (s_dg b) n (s_st b n p)
      · have := m_next_num_far E d (z_u2 I 127 23 (nI (s_st b n p))) J w b n (s_st b n p) hB rfl hle hz' (s_al_dg hd) hd h4
        rw [z_nxD] at this
        rw [if_pos h4]; exact this
      · have := m_next_num_ok E d (z_u2 I 127 23 (nI (s_st b n p))) J w b n (s_st b n p) hB rfl hle hz' (s_al_dg hd) hd h4
        rw [z_nxD] at this
        rw [if_neg h4]; exact this
    · rw [if_neg hd, if_neg hd, if_neg hd]
      by_cases ha : s_al b (s_st b n p) = true
      · have := m_next_word E d (z_u2 I 127 23 (nI (s_st b n p))) J w b n (s_st b n p) hB rfl hle hz' ha
        rw [z_nxF] at this
        rw [if_pos ha, if_pos ha, if_pos ha]
        exact this
      · rw [if_neg ha, if_neg ha, if_neg ha]
        by_cases hg : s_sg (b (s_st b n p)) = true
        · have := m_next_sign E d (z_u2 I 127 23 (nI (s_st b n p))) J w b n (s_st b n p) hB rfl hle hz' ha hd hg
          rw [z_nxE] at this
          rw [if_pos hg, s_mtk_sg hg]
          exact this
        · have := m_next_odd E d (z_u2 I 127 23 (nI (s_st b n p))) J w b n (s_st b n p) hB rfl hle hz' ha hd hg
          rw [z_nxE] at this
          rw [if_neg hg]
          exact this
