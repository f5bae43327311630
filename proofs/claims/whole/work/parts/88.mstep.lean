-- THE REFERENCE'S READER: a step
def z_tks : List Nat := [0, 1, 2, 3, 4, 5, 6, 7, 8, 9, 10, 11, 12, 13, 40, 41, 42, 43, 45, 59, 60, 61]
theorem s_sg_mem {v : Nat} (h : s_sg v = true) : v ∈ z_tks := by
  unfold s_sg at h
  simp at h
  rcases h with ((((((h | h) | h) | h) | h) | h) | h) | h <;> subst h <;> decide
theorem s_tok_mem (b : Nat → Nat) (n p : Nat) : s_tok b n p ∈ z_tks := by
  unfold s_tok
  split
  · decide
  · split
    · split <;> decide
    · split
      · cases q : s_first (s_isw b (s_st b n p) (s_st b n p + s_rn (s_al b) n (s_st b n p))) 11 with
        | none => decide
        | some k =>
          have := (s_first_some q).1
          have z : ∀ k, k < 11 → s_wtok (some k) ∈ z_tks := by decide
          exact z k this
      · split
        · rename_i q; exact s_sg_mem q
        · decide
theorem s_mtk_iff : ∀ t, t ∈ z_tks → (s_mtk t = 40 ↔ t = 40) ∧ (s_mtk t = 45 ↔ t = 45) ∧ (s_mtk t = 14 ↔ t = 7) ∧ (s_mtk t = 1 ↔ t = 2) ∧ (s_mtk t = 2 ↔ 8 ≤ t ∧ t ≤ 13) ∧ (s_mtk t = 41 ↔ t = 41) ∧ s_mtk t ∈ s_sgs := by decide
def s_MB (I0 I : Nat → Nat → Int32) (b : Nat → Nat) (n p : Nat) : Prop := I 127 27 = 1 ∧ I 127 25 = nI (s_st b n p) ∧ s_by I b n ∧ ∀ a k, ¬ s_scM a k → I a k = I0 a k
def s_xv (fa : Nat → Int32) (b : Nat → Nat) (n p : Nat) : Int32 := if s_tok b n p = 2 then s_num b n p else fa (s_tok b n p - 8)
def s_mo (t : Nat) (x : Int32) (S V : List Int32) (dp : Int32) (mn : Bool) : Option (List Int32 × List Int32 × Int32 × Bool × Bool) :=
  if t = 40 ∨ t = 45 ∨ (t = 7 ∧ mn = true) then if dp = 5 then none else some ((if t = 45 then 109 else s_mtk t) :: S, V, dp + 1, true, !(t == 45))
  else if t = 2 ∨ (8 ≤ t ∧ t ≤ 13) then some ((s_oe S (x :: V) dp).1, (s_oe S (x :: V) dp).2.1, (s_oe S (x :: V) dp).2.2, false, mn)
  else none
def s_tpn : List Int32 → Nat
  | [] => 0
  | s :: _ => s_near s
def s_cls (mn : Bool) : List Int32 × List Int32 × Int32 → Option (Option (List Int32 × List Int32 × Int32 × Bool × Bool))
  | ([], _, _) => some none
  | (s :: S, V, dp) => if s = 40 then match V with
      | [] => none
      | v :: V => some (some ((s_oe S (v :: V) (dp - 1)).1, (s_oe S (v :: V) (dp - 1)).2.1, (s_oe S (v :: V) (dp - 1)).2.2, false, mn))
    else some none
def s_psh (t : Nat) : List Int32 × List Int32 × Int32 → Option (Option (List Int32 × List Int32 × Int32 × Bool × Bool))
  | (S, V, dp) => if s_near (s_mtk t) = 4 ∧ s_tpn S = 4 then some none else some (some (s_mtk t :: S, V, dp, true, decide (s_near (s_mtk t) < 3)))
def s_msg (t : Nat) (S V : List Int32) (dp : Int32) (mn : Bool) : Option (Option (List Int32 × List Int32 × Int32 × Bool × Bool)) :=
  if t = 41 then (s_wd 1 S V dp).bind (s_cls mn)
  else if s_near (s_mtk t) = 0 ∨ t = 7 then some none
  else (s_wd (if s_near (s_mtk t) = 4 then 5 else s_near (s_mtk t)) S V dp).bind (s_psh t)
theorem s_MS_push {I0 I : Nat → Nat → Int32} {b : Nat → Nat} {n p : Nat} {S V : List Int32} {dp : Int32} {wa mn : Bool} {m : Bool} {x v27 v28 v37 : Int32} (h : s_MS I0 I b n p S V dp wa mn) (h27 : v27 = 0) (h28 : v28 = dp + 1) (h37 : v37 = if m = true then 1 else 0) : s_MS I0 (z_u2 (z_u2 (z_u2 (z_u2 (z_u2 I 127 27 v27) 127 28 v28) 143 S.length x) 127 33 (nI (S.length + 1))) 127 37 v37) b n p (x :: S) V (dp + 1) wa m := by
  refine s_MS.mk h.by h.at h.tok h.pl h.nu h.na h27 h28 h.vm h.vs rfl ⟨?_, ?_⟩ h.wa h37 ?_
  · show z_u2 I 143 S.length x 143 S.length = x
    exact z_u2_same I 143 S.length x
  · exact s_Ls_u (I := I) h.ss (Nat.le_refl _)
  · intro a k q
    exact (z_u2_sc (s_sc_f (by omega)) q).trans ((z_u2_sc (s_sc_f (by omega)) q).trans ((z_u2_sc (s_sc_s _) q).trans ((z_u2_sc (s_sc_f (by omega)) q).trans ((z_u2_sc (s_sc_f (by omega)) q).trans (h.same a k q)))))
theorem s_MB_push {I0 I : Nat → Nat → Int32} {b : Nat → Nat} {n p : Nat} {S V : List Int32} {dp : Int32} {wa mn : Bool} {k' : Nat} {x v28 v33 v37 : Int32} (h : s_MS I0 I b n p S V dp wa mn) : s_MB I0 (z_u2 (z_u2 (z_u2 (z_u2 (z_u2 I 127 27 1) 127 28 v28) 143 k' x) 127 33 v33) 127 37 v37) b n p := by
  refine ⟨rfl, h.pl, h.by, ?_⟩
  intro a k q
  exact (z_u2_sc (s_sc_f (by omega)) q).trans ((z_u2_sc (s_sc_f (by omega)) q).trans ((z_u2_sc (s_sc_s _) q).trans ((z_u2_sc (s_sc_f (by omega)) q).trans ((z_u2_sc (s_sc_f (by omega)) q).trans (h.same a k q)))))
theorem s_MB_1 {I0 I : Nat → Nat → Int32} {b : Nat → Nat} {n p : Nat} {S V : List Int32} {dp : Int32} {wa mn : Bool} (h : s_MS I0 I b n p S V dp wa mn) : s_MB I0 (z_u2 I 127 27 1) b n p := ⟨rfl, h.pl, h.by, fun a k q => (z_u2_sc (s_sc_f (by omega)) q).trans (h.same a k q)⟩
theorem s_MS_val {I0 I : Nat → Nat → Int32} {b : Nat → Nat} {n p : Nat} {S V : List Int32} {dp : Int32} {wa mn : Bool} {x : Int32} (h : s_MS I0 I b n p S V dp wa mn) (hx : I 127 26 = x) : s_MS I0 (z_u2 (z_u2 (z_u2 I 142 V.length (I 127 26)) 127 31 (nI (V.length + 1))) 127 36 0) b n p S (x :: V) dp false mn := by
  refine s_MS.mk h.by h.at h.tok h.pl h.nu h.na h.bad h.dp rfl ⟨?_, ?_⟩ h.sm h.ss rfl h.mn ?_
  · show z_u2 I 142 V.length (I 127 26) 142 V.length = x
    rw [z_u2_same]; exact hx
  · exact s_Ls_u (I := I) h.vs (Nat.le_refl _)
  · intro a k q
    exact (z_u2_sc (s_sc_f (by omega)) q).trans ((z_u2_sc (s_sc_f (by omega)) q).trans ((z_u2_sc (s_sc_v _) q).trans (h.same a k q)))
theorem s_MS_xv {I0 I : Nat → Nat → Int32} {b : Nat → Nat} {n p : Nat} {S V : List Int32} {dp : Int32} {wa mn : Bool} (h : s_MS I0 I b n p S V dp wa mn) (ht : s_tok b n p = 2 ∨ (8 ≤ s_tok b n p ∧ s_tok b n p ≤ 13)) : I 127 26 = s_xv (I0 141) b n p := by
  unfold s_xv
  by_cases q : s_tok b n p = 2
  · rw [if_pos q]; exact h.nu q
  · rw [if_neg q]
    rcases ht with r | r
    · exact absurd r q
    · rw [h.na r.1 r.2]; exact h.same 141 _ (by intro s; unfold s_scM at s; omega)
theorem m_readOneQ (E : zE) (d : Nat) {I0 I : Nat → Nat → Int32} {b : Nat → Nat} {n p : Nat} {S V : List Int32} {dp : Int32} {mn : Bool} (J : Nat → Nat → Int64) (w : Nat) (h : s_MS I0 I b n p S V dp true mn) (hS : S.length < 170) (hV : V.length < 170) : ∃ I', z_cl E (d + 3) 211 [.ref 127] (161, I, J, RF w) = some (none, 161, I', J, RF w) ∧ (match s_mo (s_tok b n p) (s_xv (I0 141) b n p) S V dp mn with
    | none => s_MB I0 I' b n p
    | some R => s_MS I0 I' b n p R.1 R.2.1 R.2.2.1 R.2.2.2.1 R.2.2.2.2) := by
  obtain ⟨t40, t45, t14, t1, t2, t41, tm⟩ := s_mtk_iff _ (s_tok_mem b n p)
  have go : ∀ {r : zR}, z_Ev E (d + 2) z_m211 0 [some (.ref 127)] [] 161 (I, J, RF w) r → z_cl E (d + 3) 211 [.ref 127] (161, I, J, RF w) = some r := fun q => z_call (d := d + 2) (M := z_m211) rfl rfl q
  unfold s_mo
  by_cases c : s_tok b n p = 40 ∨ s_tok b n p = 45 ∨ (s_tok b n p = 7 ∧ mn = true)
  · rw [if_pos c]
    by_cases h5 : dp = 5
    · rw [if_pos h5]
      have h5' : I 127 28 = 5 := h.dp.trans h5
      rcases c with c | c | c
      · exact ⟨_, go (m_ro_40_1 E d I J w S.length h.sm hS (h.tok.trans (t40.mpr c)) h5'), s_MB_push h⟩
      · exact ⟨_, go (m_ro_45_1 E d I J w S.length h.sm hS (h.tok.trans (t45.mpr c)) h5'), s_MB_push h⟩
      · exact ⟨_, go (m_ro_14_1 E d I J w S.length h.sm hS (h.tok.trans (t14.mpr c.1)) (h.mn.trans (if_pos c.2)) h5'), s_MB_push h⟩
    · rw [if_neg h5]
      have h5' : ¬ I 127 28 = 5 := fun q => h5 (h.dp.symm.trans q)
      have hd : I 127 28 + 1 = dp + 1 := by rw [h.dp]
      rcases c with c | c | c
      · have e : (if s_tok b n p = 45 then (109 : Int32) else s_mtk (s_tok b n p)) = I 127 24 := by rw [if_neg (by omega)]; exact h.tok.symm
        refine ⟨_, go (m_ro_40_0 E d I J w S.length h.sm hS (h.tok.trans (t40.mpr c)) h5'), ?_⟩
        simp only [e]
        exact s_MS_push h rfl hd (by rw [c]; rfl)
      · have e : (if s_tok b n p = 45 then (109 : Int32) else s_mtk (s_tok b n p)) = 109 := if_pos c
        refine ⟨_, go (m_ro_45_0 E d I J w S.length h.sm hS (h.tok.trans (t45.mpr c)) h5'), ?_⟩
        simp only [e]
        exact s_MS_push h rfl hd (by rw [c]; rfl)
      · have e : (if s_tok b n p = 45 then (109 : Int32) else s_mtk (s_tok b n p)) = I 127 24 := by rw [if_neg (by omega)]; exact h.tok.symm
        refine ⟨_, go (m_ro_14_0 E d I J w S.length h.sm hS (h.tok.trans (t14.mpr c.1)) (h.mn.trans (if_pos c.2)) h5'), ?_⟩
        simp only [e]
        exact s_MS_push h rfl hd (by rw [c.1]; rfl)
  · rw [if_neg c]
    have n40 : ¬ I 127 24 = 40 := fun q => c (.inl (t40.mp (h.tok.symm.trans q)))
    have n45 : ¬ I 127 24 = 45 := fun q => c (.inr (.inl (t45.mp (h.tok.symm.trans q))))
    by_cases c2 : s_tok b n p = 2 ∨ (8 ≤ s_tok b n p ∧ s_tok b n p ≤ 13)
    · rw [if_pos c2]
      obtain ⟨I1, e1, c1⟩ := m_oneEndsQ E (d + 0) J w (s_MS_val h (s_MS_xv h c2)) (Nat.le_of_lt hS) hV
      rcases c2 with c2 | c2
      · exact ⟨I1, go (m_ro_n E d I J w V.length I1 h.vm hV (h.tok.trans (t1.mpr c2)) e1), c1⟩
      · exact ⟨I1, go (m_ro_a E d I J w V.length I1 h.vm hV (h.tok.trans (t2.mpr c2)) e1), c1⟩
    · rw [if_neg c2]
      have n1 : ¬ I 127 24 = 1 := fun q => c2 (.inl (t1.mp (h.tok.symm.trans q)))
      have n2 : ¬ I 127 24 = 2 := fun q => c2 (.inr (t2.mp (h.tok.symm.trans q)))
      by_cases c3 : s_tok b n p = 7
      · have hm : ¬ mn = true := fun q => c (.inr (.inr ⟨c3, q⟩))
        exact ⟨_, go (m_ro_bad1 E d I J w n40 n45 (h.tok.trans (t14.mpr c3)) (h.mn.trans (if_neg hm)) n1 n2), s_MB_1 h⟩
      · exact ⟨_, go (m_ro_bad0 E d I J w n40 n45 (fun q => c3 (t14.mp (h.tok.symm.trans q))) n1 n2), s_MB_1 h⟩
