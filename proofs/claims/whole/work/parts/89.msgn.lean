-- THE REFERENCE'S READER: a SIGN
theorem s_wd_len {t : Nat} : ∀ {S V : List Int32} {dp : Int32} {R : List Int32 × List Int32 × Int32}, s_wd t S V dp = some R → R.1.length ≤ S.length ∧ R.2.1.length ≤ V.length ∧ ∀ s, s ∈ R.1 → s ∈ S
  | [], V, dp, R, h => by
    have e : R = ([], V, dp) := by injection h with h; exact h.symm
    subst e
    exact ⟨Nat.le_refl _, Nat.le_refl _, fun s q => q⟩
  | s :: S, V, dp, R, h => by
    by_cases q : t ≤ s_near s
    · cases r : s_wk s V with
      | none =>
        change (if t ≤ s_near s then match s_wk s V with | none => none | some V' => s_wd t S V' (if s = 14 then dp - 1 else dp) else some (s :: S, V, dp)) = _ at h
        rw [if_pos q, r] at h; cases h
      | some V1 =>
        change (if t ≤ s_near s then match s_wk s V with | none => none | some V' => s_wd t S V' (if s = 14 then dp - 1 else dp) else some (s :: S, V, dp)) = _ at h
        rw [if_pos q, r] at h
        have ih := s_wd_len (S := S) h
        have l := s_wk_len r
        exact ⟨Nat.le_succ_of_le ih.1, Nat.le_trans ih.2.1 l, fun x hx => List.mem_cons_of_mem _ (ih.2.2 x hx)⟩
    · have e : R = (s :: S, V, dp) := by
        change (if t ≤ s_near s then _ else some (s :: S, V, dp)) = _ at h
        rw [if_neg q] at h
        injection h with h; exact h.symm
      subst e
      exact ⟨Nat.le_refl _, Nat.le_refl _, fun s q => q⟩
theorem s_MS_sgn {I0 I : Nat → Nat → Int32} {b : Nat → Nat} {n p : Nat} {S V : List Int32} {dp : Int32} {wa mn : Bool} {m : Bool} {x v27 v36 v37 : Int32} (h : s_MS I0 I b n p S V dp wa mn) (h27 : v27 = 0) (h36 : v36 = 1) (h37 : v37 = if m = true then 1 else 0) : s_MS I0 (z_u2 (z_u2 (z_u2 (z_u2 (z_u2 I 127 27 v27) 143 S.length x) 127 33 (nI (S.length + 1))) 127 36 v36) 127 37 v37) b n p (x :: S) V dp true m := by
  refine s_MS.mk h.by h.at h.tok h.pl h.nu h.na h27 h.dp h.vm h.vs rfl ⟨?_, ?_⟩ h36 h37 ?_
  · show z_u2 I 143 S.length x 143 S.length = x
    exact z_u2_same I 143 S.length x
  · exact s_Ls_u (I := I) h.ss (Nat.le_refl _)
  · intro a k q
    exact (z_u2_sc (s_sc_f (by omega)) q).trans ((z_u2_sc (s_sc_f (by omega)) q).trans ((z_u2_sc (s_sc_f (by omega)) q).trans ((z_u2_sc (s_sc_s _) q).trans ((z_u2_sc (s_sc_f (by omega)) q).trans (h.same a k q)))))
theorem s_MB_sgn {I0 I : Nat → Nat → Int32} {b : Nat → Nat} {n p : Nat} {S V : List Int32} {dp : Int32} {wa mn : Bool} {k' : Nat} {x v33 v36 v37 : Int32} (h : s_MS I0 I b n p S V dp wa mn) : s_MB I0 (z_u2 (z_u2 (z_u2 (z_u2 (z_u2 I 127 27 1) 143 k' x) 127 33 v33) 127 36 v36) 127 37 v37) b n p := by
  refine ⟨rfl, h.pl, h.by, ?_⟩
  intro a k q
  exact (z_u2_sc (s_sc_f (by omega)) q).trans ((z_u2_sc (s_sc_f (by omega)) q).trans ((z_u2_sc (s_sc_f (by omega)) q).trans ((z_u2_sc (s_sc_s _) q).trans ((z_u2_sc (s_sc_f (by omega)) q).trans (h.same a k q)))))
theorem s_MS_pop {I0 I : Nat → Nat → Int32} {b : Nat → Nat} {n p : Nat} {S V : List Int32} {dp : Int32} {wa mn : Bool} {s : Int32} (h : s_MS I0 I b n p (s :: S) V dp wa mn) : s_MS I0 (z_u2 (z_u2 (z_u2 I 127 27 0) 127 33 (nI S.length)) 127 28 (I 127 28 - 1)) b n p S V (dp - 1) wa mn := by
  refine s_MS.mk h.by h.at h.tok h.pl h.nu h.na rfl ?_ h.vm h.vs rfl h.ss.2 h.wa h.mn ?_
  · show I 127 28 - 1 = _; rw [h.dp]
  · intro a k q
    exact (z_u2_sc (s_sc_f (by omega)) q).trans ((z_u2_sc (s_sc_f (by omega)) q).trans ((z_u2_sc (s_sc_f (by omega)) q).trans (h.same a k q)))
theorem m_readSignQ (E : zE) (d : Nat) {I0 I : Nat → Nat → Int32} {b : Nat → Nat} {n p : Nat} {S V : List Int32} {dp : Int32} {mn : Bool} (J : Nat → Nat → Int64) (w : Nat) {R : Option (List Int32 × List Int32 × Int32 × Bool × Bool)} (h : s_MS I0 I b n p S V dp false mn) (ho : s_okS S) (hS : S.length < 170) (hV : V.length < 170) (e : s_msg (s_tok b n p) S V dp mn = some R) : ∃ I', z_cl E (d + 4) 212 [.ref 127] (161, I, J, RF w) = some (none, 161, I', J, RF w) ∧ (match R with
    | none => s_MB I0 I' b n p
    | some R => s_MS I0 I' b n p R.1 R.2.1 R.2.2.1 R.2.2.2.1 R.2.2.2.2) := by
  obtain ⟨t40, t45, t14, t1, t2, t41, tm⟩ := s_mtk_iff _ (s_tok_mem b n p)
  have hm : I 127 24 ∈ s_sgs := by rw [h.tok]; exact tm
  have go : ∀ {r : zR}, z_Ev E (d + 3) z_m212 0 [some (.ref 127), none] [] 161 (I, J, RF w) r → z_cl E (d + 4) 212 [.ref 127] (161, I, J, RF w) = some r := fun q => z_call (d := d + 3) (M := z_m212) rfl rfl q
  unfold s_msg at e
  by_cases c : s_tok b n p = 41
  · rw [if_pos c] at e
    have hT : I 127 24 = 41 := h.tok.trans (t41.mpr c)
    cases r : s_wd 1 S V dp with
    | none => rw [r] at e; cases e
    | some R1 =>
      obtain ⟨S1, V1, dp1⟩ := R1
      rw [r] at e
      obtain ⟨l1, l2, l3⟩ := s_wd_len r
      simp only at l1 l2 l3
      obtain ⟨I1, e1, c1⟩ := m_workDownQ E (d + 0) J w (t := 1) (by decide) (by decide) h ho (Nat.le_of_lt hS) (Nat.le_of_lt hV) r
      cases S1 with
      | nil =>
        have e' : R = none := by injection e with e; exact e.symm
        subst e'
        exact ⟨_, go (m_rs_cbad0 E d I J w I1 hm hT e1 c1.sm), s_MB_1 c1⟩
      | cons s S1 =>
        have l1' : S1.length < 170 := by simp only [List.length_cons] at l1; omega
        by_cases q : s = 40
        · cases V1 with
          | nil => change (if s = 40 then none else some none) = some R at e; rw [if_pos q] at e; cases e
          | cons v V1 =>
            have e' : R = some ((s_oe S1 (v :: V1) (dp1 - 1)).1, (s_oe S1 (v :: V1) (dp1 - 1)).2.1, (s_oe S1 (v :: V1) (dp1 - 1)).2.2, false, mn) := by
              change (if s = 40 then some (some ((s_oe S1 (v :: V1) (dp1 - 1)).1, (s_oe S1 (v :: V1) (dp1 - 1)).2.1, (s_oe S1 (v :: V1) (dp1 - 1)).2.2, false, mn)) else some none) = some R at e
              rw [if_pos q] at e
              injection e with e; exact e.symm
            subst e'
            obtain ⟨I2, e2, c2⟩ := m_oneEndsQ E (d + 1) J w (s_MS_pop c1) (by omega) (by simp only [List.length_cons] at l2; omega)
            exact ⟨I2, go (m_rs_close E d I J w S1.length s I1 I2 hm hT e1 c1.sm l1' c1.ss.1 q e2), c2⟩
        · have e' : R = none := by
            change (if s = 40 then _ else some none) = some R at e
            rw [if_neg q] at e
            injection e with e; exact e.symm
          subst e'
          exact ⟨_, go (m_rs_cbad E d I J w S1.length s I1 hm hT e1 c1.sm l1' c1.ss.1 q), s_MB_1 c1⟩
  · rw [if_neg c] at e
    have hT : ¬ I 127 24 = 41 := fun q => c (t41.mp (h.tok.symm.trans q))
    rw [← h.tok] at e
    by_cases c2 : s_near (I 127 24) = 0 ∨ s_tok b n p = 7
    · rw [if_pos c2] at e
      have e' : R = none := by injection e with e; exact e.symm
      subst e'
      by_cases c3 : s_near (I 127 24) = 0
      · exact ⟨_, go (m_rs_none E d I J w hm hT c3), s_MB_1 h⟩
      · rcases c2 with c2 | c2
        · exact absurd c2 c3
        · exact ⟨_, go (m_rs_not E d I J w hm hT c3 (h.tok.trans (t14.mpr c2))), s_MB_1 h⟩
    · rw [if_neg c2] at e
      have hz : ¬ s_near (I 127 24) = 0 := fun q => c2 (.inl q)
      have h14 : ¬ I 127 24 = 14 := fun q => c2 (.inr (t14.mp (h.tok.symm.trans q)))
      have h6 := s_near6 (I 127 24)
      by_cases h4 : s_near (I 127 24) = 4
      · rw [if_pos h4] at e
        cases r : s_wd 5 S V dp with
        | none => rw [r] at e; cases e
        | some R1 =>
          obtain ⟨S1, V1, dp1⟩ := R1
          rw [r] at e
          obtain ⟨l1, l2, l3⟩ := s_wd_len r
          simp only at l1 l2 l3
          obtain ⟨I1, e1, c1⟩ := m_workDownQ E (d + 0) J w (t := 5) (by decide) (by decide) h ho (Nat.le_of_lt hS) (Nat.le_of_lt hV) r
          have hI : I1 127 24 = I 127 24 := c1.tok.trans h.tok.symm
          change (if s_near (s_mtk (s_tok b n p)) = 4 ∧ s_tpn S1 = 4 then some none else some (some (s_mtk (s_tok b n p) :: S1, V1, dp1, true, decide (s_near (s_mtk (s_tok b n p)) < 3)))) = some R at e
          rw [← h.tok] at e
          by_cases c5 : s_tpn S1 = 4
          · rw [if_pos ⟨h4, c5⟩] at e
            have e' : R = none := by injection e with e; exact e.symm
            subst e'
            cases S1 with
            | nil => cases c5
            | cons s S1 => exact ⟨_, go (m_rs_cmpb E d I J w (S1.length + 1) I1 S1.length s hm hT hz h14 h4 e1 c1.sm (by simp only [List.length_cons] at l1; omega) hI c1.sm (by simp only [List.length_cons] at l1; omega) c1.ss.1 (ho s (l3 s (List.mem_cons_self))) c5), s_MB_sgn c1⟩
          · rw [if_neg (fun q => c5 q.2)] at e
            have e' : R = some (I 127 24 :: S1, V1, dp1, true, decide (s_near (I 127 24) < 3)) := by injection e with e; exact e.symm
            subst e'
            have fin : s_MS I0 (z_u2 (z_u2 (z_u2 (z_u2 (z_u2 I1 127 27 0) 143 S1.length (I1 127 24)) 127 33 (nI (S1.length + 1))) 127 36 1) 127 37 0) b n p (I 127 24 :: S1) V1 dp1 true (decide (s_near (I 127 24) < 3)) := by
              rw [hI]
              exact s_MS_sgn c1 rfl rfl (by rw [h4]; rfl)
            cases S1 with
            | nil => exact ⟨_, go (m_rs_cmp0 E d I J w 0 I1 hm hT hz h14 h4 e1 c1.sm (by decide) hI c1.sm), fin⟩
            | cons s S1 => exact ⟨_, go (m_rs_cmps E d I J w (S1.length + 1) I1 S1.length s hm hT hz h14 h4 e1 c1.sm (by simp only [List.length_cons] at l1; omega) hI c1.sm (by simp only [List.length_cons] at l1; omega) c1.ss.1 (ho s (l3 s (List.mem_cons_self))) c5), fin⟩
      · rw [if_neg h4] at e
        cases r : s_wd (s_near (I 127 24)) S V dp with
        | none => rw [r] at e; cases e
        | some R1 =>
          obtain ⟨S1, V1, dp1⟩ := R1
          rw [r] at e
          obtain ⟨l1, l2, l3⟩ := s_wd_len r
          simp only at l1 l2 l3
          obtain ⟨I1, e1, c1⟩ := m_workDownQ E (d + 0) J w (t := s_near (I 127 24)) (by omega) h6 h ho (Nat.le_of_lt hS) (Nat.le_of_lt hV) r
          have hI : I1 127 24 = I 127 24 := c1.tok.trans h.tok.symm
          change (if s_near (s_mtk (s_tok b n p)) = 4 ∧ s_tpn S1 = 4 then some none else some (some (s_mtk (s_tok b n p) :: S1, V1, dp1, true, decide (s_near (s_mtk (s_tok b n p)) < 3)))) = some R at e
          rw [← h.tok, if_neg (fun q => h4 q.1)] at e
          have e' : R = some (I 127 24 :: S1, V1, dp1, true, decide (s_near (I 127 24) < 3)) := by injection e with e; exact e.symm
          subst e'
          by_cases h3 : s_near (I 127 24) < 3
          · refine ⟨_, go (m_rs_op1 E d I J w S1.length I1 hm hT hz h14 h4 h3 e1 c1.sm (by omega) hI), ?_⟩
            rw [hI]
            exact s_MS_sgn c1 rfl rfl (by rw [decide_eq_true h3]; rfl)
          · refine ⟨_, go (m_rs_op0 E d I J w S1.length I1 hm hT hz h14 h4 h3 e1 c1.sm (by omega) hI), ?_⟩
            rw [hI]
            exact s_MS_sgn c1 rfl rfl (by rw [decide_eq_false h3]; rfl)
