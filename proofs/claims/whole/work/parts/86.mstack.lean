-- THE REFERENCE'S READER: its stacks
def s_scM (a k : Nat) : Prop := (a = 127 ∧ ((23 ≤ k ∧ k ≤ 33) ∨ k = 36 ∨ k = 37)) ∨ a = 142 ∨ a = 143
def s_Ls (f : Nat → Int32) : List Int32 → Prop
  | [] => True
  | x :: L => f L.length = x ∧ s_Ls f L
theorem s_Ls_u {I : Nat → Nat → Int32} {a m : Nat} {x : Int32} : ∀ {L : List Int32}, s_Ls (I a) L → L.length ≤ m → s_Ls (z_u2 I a m x a) L
  | [], _, _ => trivial
  | y :: L, h, q => ⟨(z_u2_n I x (fun r => by have : L.length + 1 ≤ m := q; omega)).trans h.1, s_Ls_u h.2 (Nat.le_of_lt q)⟩
theorem z_u2_sc {I : Nat → Nat → Int32} {a i b j : Nat} {x : Int32} (h : s_scM a i) (q : ¬ s_scM b j) : z_u2 I a i x b j = I b j := z_u2_n _ _ (fun r => q (by rw [r.1, r.2]; exact h))
theorem s_sc_v (k : Nat) : s_scM 142 k := .inr (.inl rfl)
theorem s_sc_s (k : Nat) : s_scM 143 k := .inr (.inr rfl)
theorem s_sc_f {k : Nat} (h : (23 ≤ k ∧ k ≤ 33) ∨ k = 36 ∨ k = 37) : s_scM 127 k := .inl ⟨rfl, h⟩
def s_MS (I0 I : Nat → Nat → Int32) (b : Nat → Nat) (n p : Nat) (S V : List Int32) (dp : Int32) (wa mn : Bool) : Prop := (s_by I b n) ∧ (I 127 23 = nI (s_en b n p)) ∧ (I 127 24 = s_mtk (s_tok b n p)) ∧ (I 127 25 = nI (s_st b n p)) ∧ (s_tok b n p = 2 → I 127 26 = s_num b n p) ∧ (8 ≤ s_tok b n p → s_tok b n p ≤ 13 → I 127 26 = I 141 (s_tok b n p - 8)) ∧ (I 127 27 = 0) ∧ (I 127 28 = dp) ∧ (I 127 31 = nI V.length) ∧ (s_Ls (I 142) V) ∧ (I 127 33 = nI S.length) ∧ (s_Ls (I 143) S) ∧ (I 127 36 = if wa = true then 1 else 0) ∧ (I 127 37 = if mn = true then 1 else 0) ∧ (∀ a k, ¬ s_scM a k → I a k = I0 a k)
theorem s_MS.by {I0 I : Nat → Nat → Int32} {b : Nat → Nat} {n p : Nat} {S V : List Int32} {dp : Int32} {wa mn : Bool} (h : s_MS I0 I b n p S V dp wa mn) : s_by I b n := h.1
theorem s_MS.at {I0 I : Nat → Nat → Int32} {b : Nat → Nat} {n p : Nat} {S V : List Int32} {dp : Int32} {wa mn : Bool} (h : s_MS I0 I b n p S V dp wa mn) : I 127 23 = nI (s_en b n p) := h.2.1
theorem s_MS.tok {I0 I : Nat → Nat → Int32} {b : Nat → Nat} {n p : Nat} {S V : List Int32} {dp : Int32} {wa mn : Bool} (h : s_MS I0 I b n p S V dp wa mn) : I 127 24 = s_mtk (s_tok b n p) := h.2.2.1
theorem s_MS.pl {I0 I : Nat → Nat → Int32} {b : Nat → Nat} {n p : Nat} {S V : List Int32} {dp : Int32} {wa mn : Bool} (h : s_MS I0 I b n p S V dp wa mn) : I 127 25 = nI (s_st b n p) := h.2.2.2.1
theorem s_MS.nu {I0 I : Nat → Nat → Int32} {b : Nat → Nat} {n p : Nat} {S V : List Int32} {dp : Int32} {wa mn : Bool} (h : s_MS I0 I b n p S V dp wa mn) : s_tok b n p = 2 → I 127 26 = s_num b n p := h.2.2.2.2.1
theorem s_MS.na {I0 I : Nat → Nat → Int32} {b : Nat → Nat} {n p : Nat} {S V : List Int32} {dp : Int32} {wa mn : Bool} (h : s_MS I0 I b n p S V dp wa mn) : 8 ≤ s_tok b n p → s_tok b n p ≤ 13 → I 127 26 = I 141 (s_tok b n p - 8) := h.2.2.2.2.2.1
theorem s_MS.bad {I0 I : Nat → Nat → Int32} {b : Nat → Nat} {n p : Nat} {S V : List Int32} {dp : Int32} {wa mn : Bool} (h : s_MS I0 I b n p S V dp wa mn) : I 127 27 = 0 := h.2.2.2.2.2.2.1
theorem s_MS.dp {I0 I : Nat → Nat → Int32} {b : Nat → Nat} {n p : Nat} {S V : List Int32} {dp : Int32} {wa mn : Bool} (h : s_MS I0 I b n p S V dp wa mn) : I 127 28 = dp := h.2.2.2.2.2.2.2.1
theorem s_MS.vm {I0 I : Nat → Nat → Int32} {b : Nat → Nat} {n p : Nat} {S V : List Int32} {dp : Int32} {wa mn : Bool} (h : s_MS I0 I b n p S V dp wa mn) : I 127 31 = nI V.length := h.2.2.2.2.2.2.2.2.1
theorem s_MS.vs {I0 I : Nat → Nat → Int32} {b : Nat → Nat} {n p : Nat} {S V : List Int32} {dp : Int32} {wa mn : Bool} (h : s_MS I0 I b n p S V dp wa mn) : s_Ls (I 142) V := h.2.2.2.2.2.2.2.2.2.1
theorem s_MS.sm {I0 I : Nat → Nat → Int32} {b : Nat → Nat} {n p : Nat} {S V : List Int32} {dp : Int32} {wa mn : Bool} (h : s_MS I0 I b n p S V dp wa mn) : I 127 33 = nI S.length := h.2.2.2.2.2.2.2.2.2.2.1
theorem s_MS.ss {I0 I : Nat → Nat → Int32} {b : Nat → Nat} {n p : Nat} {S V : List Int32} {dp : Int32} {wa mn : Bool} (h : s_MS I0 I b n p S V dp wa mn) : s_Ls (I 143) S := h.2.2.2.2.2.2.2.2.2.2.2.1
theorem s_MS.wa {I0 I : Nat → Nat → Int32} {b : Nat → Nat} {n p : Nat} {S V : List Int32} {dp : Int32} {wa mn : Bool} (h : s_MS I0 I b n p S V dp wa mn) : I 127 36 = if wa = true then 1 else 0 := h.2.2.2.2.2.2.2.2.2.2.2.2.1
theorem s_MS.mn {I0 I : Nat → Nat → Int32} {b : Nat → Nat} {n p : Nat} {S V : List Int32} {dp : Int32} {wa mn : Bool} (h : s_MS I0 I b n p S V dp wa mn) : I 127 37 = if mn = true then 1 else 0 := h.2.2.2.2.2.2.2.2.2.2.2.2.2.1
theorem s_MS.same {I0 I : Nat → Nat → Int32} {b : Nat → Nat} {n p : Nat} {S V : List Int32} {dp : Int32} {wa mn : Bool} (h : s_MS I0 I b n p S V dp wa mn) : ∀ a k, ¬ s_scM a k → I a k = I0 a k := h.2.2.2.2.2.2.2.2.2.2.2.2.2.2
theorem s_MS.mk {I0 I : Nat → Nat → Int32} {b : Nat → Nat} {n p : Nat} {S V : List Int32} {dp : Int32} {wa mn : Bool} (by_ : s_by I b n) (at_ : I 127 23 = nI (s_en b n p)) (tok_ : I 127 24 = s_mtk (s_tok b n p)) (pl_ : I 127 25 = nI (s_st b n p)) (nu_ : s_tok b n p = 2 → I 127 26 = s_num b n p) (na_ : 8 ≤ s_tok b n p → s_tok b n p ≤ 13 → I 127 26 = I 141 (s_tok b n p - 8)) (bad_ : I 127 27 = 0) (dp_ : I 127 28 = dp) (vm_ : I 127 31 = nI V.length) (vs_ : s_Ls (I 142) V) (sm_ : I 127 33 = nI S.length) (ss_ : s_Ls (I 143) S) (wa_ : I 127 36 = if wa = true then 1 else 0) (mn_ : I 127 37 = if mn = true then 1 else 0) (same_ : ∀ a k, ¬ s_scM a k → I a k = I0 a k) : s_MS I0 I b n p S V dp wa mn := ⟨by_, at_, tok_, pl_, nu_, na_, bad_, dp_, vm_, vs_, sm_, ss_, wa_, mn_, same_⟩
def s_wk (s : Int32) : List Int32 → Option (List Int32)
  | [] => none
  | b :: V => if s = 14 then some ((if b = 0 then 1 else 0) :: V) else match V with
    | [] => none
    | a :: V => some (s_jn s a b :: V)
def s_wd (t : Nat) : List Int32 → List Int32 → Int32 → Option (List Int32 × List Int32 × Int32)
  | [], V, dp => some ([], V, dp)
  | s :: S, V, dp => if t ≤ s_near s then match s_wk s V with
      | none => none
      | some V' => s_wd t S V' (if s = 14 then dp - 1 else dp)
    else some (s :: S, V, dp)
def s_oe : List Int32 → List Int32 → Int32 → List Int32 × List Int32 × Int32
  | s :: S, v :: V, dp => if s = 109 then s_oe S (-v :: V) (dp - 1) else (s :: S, v :: V, dp)
  | S, V, dp => (S, V, dp)
theorem s_by_eq {I I' : Nat → Nat → Int32} {b : Nat → Nat} {n : Nat} (h : s_by I b n) (h1 : I' 127 21 = I 127 21) (h2 : I' 127 22 = I 127 22) (h3 : I' 137 = I 137) (h4 : I' 138 = I 138) (h5 : I' 139 = I 139) : s_by I' b n := by
  unfold s_by at *
  rw [h1, h2, h3, h4, h5]
  exact h
def s_bsg (s : Int32) : Prop := s = 42 ∨ s = 43 ∨ s = 45 ∨ s = 60 ∨ s = 61 ∨ s = 13 ∨ s = 12

theorem m_workQ (E : zE) (d : Nat) {I0 I : Nat → Nat → Int32} {b : Nat → Nat} {n p : Nat} {S V : List Int32} {dp : Int32} {wa mn : Bool} (J : Nat → Nat → Int64) (w : Nat) {s : Int32} {V' : List Int32} (h : s_MS I0 I b n p (s :: S) V dp wa mn) (hs : s = 14 ∨ s_bsg s) (e : s_wk s V = some V') (hS : S.length < 170) (hV : V.length ≤ 170) : ∃ I', z_cl E (d + 2) 207 [.ref 127] (161, I, J, RF w) = some (none, 161, I', J, RF w) ∧ s_MS I0 I' b n p S V' (if s = 14 then dp - 1 else dp) wa mn := by
  cases V with
  | nil => cases e
  | cons y V =>
    rcases hs with hs | hs
    · subst hs
      rw [if_pos rfl]
      have e' : V' = (if y = 0 then 1 else 0) :: V := by injection e with e; exact e.symm
      subst e'
      refine ⟨_, m_work_14 E d I J w S.length V.length h.sm hS h.ss.1 h.vm hV, ?_⟩
      refine s_MS.mk h.by h.at h.tok h.pl h.nu h.na h.bad ?_ h.vm ⟨?_, ?_⟩ rfl h.ss.2 h.wa h.mn ?_
      · show I 127 28 - 1 = _; rw [h.dp]
      · show z_u2 I 142 V.length (if I 142 V.length = 0 then 1 else 0) 142 V.length = _
        rw [z_u2_same, h.vs.1]
      · exact s_Ls_u (I := I) h.vs.2 (Nat.le_refl _)
      · intro a k q
        exact (z_u2_sc (s_sc_f (by omega)) q).trans ((z_u2_sc (s_sc_v _) q).trans ((z_u2_sc (s_sc_f (by omega)) q).trans (h.same a k q)))
    · have h14 : ¬ s = 14 := by rcases hs with r | r | r | r | r | r | r <;> rw [r] <;> decide
      rw [if_neg h14]
      cases V with
      | nil => change (if s = 14 then _ else none) = _ at e; rw [if_neg h14] at e; cases e
      | cons x V =>
        have e' : V' = s_jn s x y :: V := by
          change (if s = 14 then _ else some (s_jn s x y :: V)) = _ at e
          rw [if_neg h14] at e
          injection e with e; exact e.symm
        subst e'
        have hvm : I 127 31 = nI (V.length + 2) := h.vm
        have hv1 : I 142 (V.length + 1) = y := h.vs.1
        have hv2 : I 142 V.length = x := h.vs.2.1
        have fin : ∀ v, v = s_jn s x y → s_MS I0 (z_u2 (z_u2 (z_u2 I 127 33 (nI S.length)) 127 31 (nI (V.length + 1))) 142 V.length v) b n p S (s_jn s x y :: V) dp wa mn := by
          intro v hv
          refine s_MS.mk h.by h.at h.tok h.pl h.nu h.na h.bad h.dp rfl ⟨?_, ?_⟩ rfl h.ss.2 h.wa h.mn ?_
          · show z_u2 I 142 V.length v 142 V.length = _
            rw [z_u2_same, hv]
          · exact s_Ls_u (I := I) h.vs.2.2 (Nat.le_refl _)
          · intro a k q
            exact (z_u2_sc (s_sc_v _) q).trans ((z_u2_sc (s_sc_f (by omega)) q).trans ((z_u2_sc (s_sc_f (by omega)) q).trans (h.same a k q)))
        rcases hs with r | r | r | r | r | r | r <;> subst r
        · exact ⟨_, m_work_42 E d I J w S.length V.length h.sm hS h.ss.1 hvm hV, fin _ (by rw [hv1, hv2]; rfl)⟩
        · exact ⟨_, m_work_43 E d I J w S.length V.length h.sm hS h.ss.1 hvm hV, fin _ (by rw [hv1, hv2]; rfl)⟩
        · exact ⟨_, m_work_45 E d I J w S.length V.length h.sm hS h.ss.1 hvm hV, fin _ (by rw [hv1, hv2]; rfl)⟩
        · exact ⟨_, m_work_60 E d I J w S.length V.length h.sm hS h.ss.1 hvm hV, fin _ (by rw [hv1, hv2]; rfl)⟩
        · exact ⟨_, m_work_61 E d I J w S.length V.length h.sm hS h.ss.1 hvm hV, fin _ (by rw [hv1, hv2]; rfl)⟩
        · exact ⟨_, m_work_13 E d I J w S.length V.length h.sm hS h.ss.1 hvm hV, fin _ (by rw [hv1, hv2]; rfl)⟩
        · exact ⟨_, m_work_12 E d I J w S.length V.length h.sm hS h.ss.1 hvm hV, fin _ (by rw [hv1, hv2]; rfl)⟩
set_option maxRecDepth 20000 in
theorem m_wd_0 (E : zE) (d : Nat) (I : Nat → Nat → Int32) (J : Nat → Nat → Int64) (w : Nat) (t : Nat) (ht : 1 ≤ t) (ht6 : t ≤ 6) (h0 : I 127 33 = 0) : z_Ev E (d + 2) z_m209 0 [some (.ref 127), some (.int (nI t))] [] 161 (I, J, RF w) (none, 161, I, J, RF w) := by
  refine z_evG 2 (y := z_ret (z_cl E (d + 2) 205 [.ref 127] (161, (I, J, RF w))) 4 [some (.ref 127), some (.int (nI t))] []) (fun _ => rfl) ?_
  refine z_evK (v := .int 0) (z' := 161) (σ' := (I, J, RF w)) (m_topSign_0 E (d + 1) I J w h0) ?_
  refine z_evG 1 (y := z_ret (z_cl E (d + 2) 208 [.int 0] (161, (I, J, RF w))) 7 [some (.ref 127), some (.int (nI t))] []) (fun _ => rfl) ?_
  refine z_evK (v := .int (nI (s_near 0))) (z' := 161) (σ' := (I, J, RF w)) (m_near E (d + 1) I J w 0 (by decide)) ?_
  refine z_evG 2 (y := if (nI (s_near 0)) < (nI t) then z_go 18 [some (.ref 127), some (.int (nI t))] [] 161 (I, J, RF w) else z_go 11 [some (.ref 127), some (.int (nI t))] [] 161 (I, J, RF w)) (fun _ => rfl) ?_
  refine z_evT ((show _ ↔ s_near 0 < t from z_ltN rfl rfl (by decide) (by omega)).mpr ht) ?_
  refine z_evL ?_
  refine z_evG 1 (y := some (.inr (none, 161, I, J, RF w))) (fun _ => rfl) ?_
  exact z_evR rfl
theorem s_near6 (s : Int32) : s_near s ≤ 6 := by unfold s_near; repeat' (first | decide | split)
set_option maxRecDepth 20000 in
theorem m_wd_n (E : zE) (d : Nat) (I : Nat → Nat → Int32) (J : Nat → Nat → Int64) (w : Nat) (t k : Nat) (s : Int32) (ht : 1 ≤ t) (ht6 : t ≤ 6) (h_k : I 127 33 = nI (k + 1)) (hk : k < 170) (hs : I 143 k = s) (hm : s ∈ s_sgs) (hn : s_near s < t) : z_Ev E (d + 2) z_m209 0 [some (.ref 127), some (.int (nI t))] [] 161 (I, J, RF w) (none, 161, I, J, RF w) := by
  refine z_evG 2 (y := z_ret (z_cl E (d + 2) 205 [.ref 127] (161, (I, J, RF w))) 4 [some (.ref 127), some (.int (nI t))] []) (fun _ => rfl) ?_
  refine z_evK (v := .int s) (z' := 161) (σ' := (I, J, RF w)) (m_topSign_s E (d + 1) I J w k s h_k hk hs) ?_
  refine z_evG 1 (y := z_ret (z_cl E (d + 2) 208 [.int s] (161, (I, J, RF w))) 7 [some (.ref 127), some (.int (nI t))] []) (fun _ => rfl) ?_
  refine z_evK (v := .int (nI (s_near s))) (z' := 161) (σ' := (I, J, RF w)) (m_near E (d + 1) I J w s hm) ?_
  refine z_evG 2 (y := if (nI (s_near s)) < (nI t) then z_go 18 [some (.ref 127), some (.int (nI t))] [] 161 (I, J, RF w) else z_go 11 [some (.ref 127), some (.int (nI t))] [] 161 (I, J, RF w)) (fun _ => rfl) ?_
  refine z_evT ((show _ ↔ s_near s < t from z_ltN rfl rfl (by have := s_near6 s; omega) (by omega)).mpr hn) ?_
  refine z_evL ?_
  refine z_evG 1 (y := some (.inr (none, 161, I, J, RF w))) (fun _ => rfl) ?_
  exact z_evR rfl
set_option maxRecDepth 20000 in
theorem m_wd_i (E : zE) (d : Nat) (I : Nat → Nat → Int32) (J : Nat → Nat → Int64) (w : Nat) {r : zR} (t k : Nat) (s : Int32) (I1 : Nat → Nat → Int32) (ht : 1 ≤ t) (ht6 : t ≤ 6) (h_k : I 127 33 = nI (k + 1)) (hk : k < 170) (hs : I 143 k = s) (hm : s ∈ s_sgs) (hn : t ≤ s_near s) (hw : z_cl E (d + 2) 207 [.ref 127] (161, I, J, RF w) = some (none, 161, I1, J, RF w)) (hz : z_Ev E (d + 2) z_m209 0 [some (.ref 127), some (.int (nI t))] [] 161 (I1, J, RF w) r) : z_Ev E (d + 2) z_m209 0 [some (.ref 127), some (.int (nI t))] [] 161 (I, J, RF w) r := by
  refine z_evG 2 (y := z_ret (z_cl E (d + 2) 205 [.ref 127] (161, (I, J, RF w))) 4 [some (.ref 127), some (.int (nI t))] []) (fun _ => rfl) ?_
  refine z_evK (v := .int s) (z' := 161) (σ' := (I, J, RF w)) (m_topSign_s E (d + 1) I J w k s h_k hk hs) ?_
  refine z_evG 1 (y := z_ret (z_cl E (d + 2) 208 [.int s] (161, (I, J, RF w))) 7 [some (.ref 127), some (.int (nI t))] []) (fun _ => rfl) ?_
  refine z_evK (v := .int (nI (s_near s))) (z' := 161) (σ' := (I, J, RF w)) (m_near E (d + 1) I J w s hm) ?_
  refine z_evG 2 (y := if (nI (s_near s)) < (nI t) then z_go 18 [some (.ref 127), some (.int (nI t))] [] 161 (I, J, RF w) else z_go 11 [some (.ref 127), some (.int (nI t))] [] 161 (I, J, RF w)) (fun _ => rfl) ?_
  refine z_evF (mt (show _ ↔ s_near s < t from z_ltN rfl rfl (by have := s_near6 s; omega) (by omega)).mp (by omega)) ?_
  refine z_evL ?_
  refine z_evG 2 (y := z_ret (z_cl E (d + 2) 207 [.ref 127] (161, (I, J, RF w))) 15 [some (.ref 127), some (.int (nI t))] []) (fun _ => rfl) ?_
  refine z_evV (z' := 161) (σ' := (I1, J, RF w)) hw ?_
  refine z_evG 1 (y := z_go 0 [some (.ref 127), some (.int (nI t))] [] 161 (I1, J, RF w)) (fun _ => rfl) ?_
  refine z_evL ?_
  exact hz
def s_okS (S : List Int32) : Prop := ∀ s, s ∈ S → s ∈ s_sgs
theorem s_near_b {s : Int32} (h : 1 ≤ s_near s) : s = 14 ∨ s_bsg s := by
  unfold s_near at h
  unfold s_bsg
  split at h
  · simp [*]
  · split at h
    · rename_i q; rcases q with q | q <;> simp [q]
    · split at h
      · rename_i q; rcases q with q | q <;> simp [q]
      · split at h
        · simp [*]
        · split at h
          · simp [*]
          · split at h
            · simp [*]
            · omega
theorem s_near_sgs {s : Int32} (h : 1 ≤ s_near s) : s ∈ s_sgs := by
  rcases s_near_b h with r | r | r | r | r | r | r | r <;> subst r <;> decide
theorem s_wk_len {s : Int32} {V V' : List Int32} (h : s_wk s V = some V') : V'.length ≤ V.length := by
  cases V with
  | nil => cases h
  | cons b V =>
    by_cases q : s = 14
    · have e : s_wk s (b :: V) = some ((if b = 0 then 1 else 0) :: V) := if_pos q
      rw [e] at h; injection h with h; subst h; exact Nat.le_refl _
    · cases V with
      | nil => have e : s_wk s [b] = none := if_neg q
               rw [e] at h; cases h
      | cons a V =>
        have e : s_wk s (b :: a :: V) = some (s_jn s a b :: V) := if_neg q
        rw [e] at h; injection h with h; subst h; simp
theorem m_wdQ (E : zE) (d : Nat) {I0 : Nat → Nat → Int32} {b : Nat → Nat} {n p t : Nat} {wa mn : Bool} (J : Nat → Nat → Int64) (w : Nat) (h1 : 1 ≤ t) (h6 : t ≤ 6) {S' V' : List Int32} {dp' : Int32} : ∀ S V dp I, s_MS I0 I b n p S V dp wa mn → s_okS S → S.length ≤ 170 → V.length ≤ 170 → s_wd t S V dp = some (S', V', dp') → ∃ I', z_Ev E (d + 2) z_m209 0 [some (.ref 127), some (.int (nI t))] [] 161 (I, J, RF w) (none, 161, I', J, RF w) ∧ s_MS I0 I' b n p S' V' dp' wa mn
  | [], V, dp, I, h, ho, hS, hV, e => by
    have e' : (([] : List Int32), V, dp) = (S', V', dp') := by injection e
    injection e' with e1 e2
    injection e2 with e2 e3
    subst e1 e2 e3
    exact ⟨I, m_wd_0 E d I J w t h1 h6 h.sm, h⟩
  | s :: S, V, dp, I, h, ho, hS, hV, e => by
    have hm := ho s (List.mem_cons_self)
    by_cases q : t ≤ s_near s
    · change (if t ≤ s_near s then match s_wk s V with | none => none | some V' => s_wd t S V' (if s = 14 then dp - 1 else dp) else some (s :: S, V, dp)) = _ at e
      rw [if_pos q] at e
      cases r : s_wk s V with
      | none => rw [r] at e; cases e
      | some V1 =>
        rw [r] at e
        obtain ⟨I1, e1, c1⟩ := m_workQ E (d + 0) J w h (s_near_b (by omega)) r hS hV
        obtain ⟨I2, e2, c2⟩ := m_wdQ E d J w h1 h6 S V1 _ I1 c1 (fun x hx => ho x (List.mem_cons_of_mem _ hx)) (Nat.le_of_lt hS) (Nat.le_trans (s_wk_len r) hV) e
        exact ⟨I2, m_wd_i E d I J w t S.length s I1 h1 h6 h.sm hS h.ss.1 hm q e1 e2, c2⟩
    · change (if t ≤ s_near s then _ else some (s :: S, V, dp)) = _ at e
      rw [if_neg q] at e
      have e' : (s :: S, V, dp) = (S', V', dp') := by injection e
      injection e' with e1 e2
      injection e2 with e2 e3
      subst e1 e2 e3
      exact ⟨I, m_wd_n E d I J w t S.length s h1 h6 h.sm hS h.ss.1 hm (by omega), h⟩
theorem m_workDownQ (E : zE) (d : Nat) {I0 I : Nat → Nat → Int32} {b : Nat → Nat} {n p : Nat} {S V : List Int32} {dp : Int32} {wa mn : Bool} (J : Nat → Nat → Int64) (w : Nat) {t : Nat} (h1 : 1 ≤ t) (h6 : t ≤ 6) {S' V' : List Int32} {dp' : Int32} (h : s_MS I0 I b n p S V dp wa mn) (ho : s_okS S) (hS : S.length ≤ 170) (hV : V.length ≤ 170) (e : s_wd t S V dp = some (S', V', dp')) : ∃ I', z_cl E (d + 3) 209 [.ref 127, .int (nI t)] (161, I, J, RF w) = some (none, 161, I', J, RF w) ∧ s_MS I0 I' b n p S' V' dp' wa mn := by
  obtain ⟨I', e1, c⟩ := m_wdQ E d J w h1 h6 S V dp I h ho hS hV e
  exact ⟨I', z_call (d := d + 2) (M := z_m209) rfl rfl e1, c⟩
set_option maxRecDepth 20000 in
theorem m_oe_0 (E : zE) (d : Nat) (I : Nat → Nat → Int32) (J : Nat → Nat → Int64) (w : Nat)  (h0 : I 127 33 = 0) : z_Ev E (d + 1) z_m210 0 [some (.ref 127)] [] 161 (I, J, RF w) (none, 161, I, J, RF w) := by
  refine z_evG 2 (y := z_ret (z_cl E (d + 1) 205 [.ref 127] (161, (I, J, RF w))) 4 [some (.ref 127)] []) (fun _ => rfl) ?_
  refine z_evK (v := .int 0) (z' := 161) (σ' := (I, J, RF w)) (m_topSign_0 E d I J w h0) ?_
  refine z_evG 2 (y := if 0 = 109 then z_go 9 [some (.ref 127)] [] 161 (I, J, RF w) else z_go 55 [some (.ref 127)] [] 161 (I, J, RF w)) (fun _ => rfl) ?_
  refine z_evI (fun q => absurd q (by decide)) (fun _ => ?_)
  refine z_evL ?_
  refine z_evG 1 (y := some (.inr (none, 161, I, J, RF w))) (fun _ => rfl) ?_
  exact z_evR rfl
set_option maxRecDepth 20000 in
theorem m_oe_n (E : zE) (d : Nat) (I : Nat → Nat → Int32) (J : Nat → Nat → Int64) (w : Nat) (k : Nat) (s : Int32) (h_k : I 127 33 = nI (k + 1)) (hk : k < 170) (hs : I 143 k = s) (hn : ¬ s = 109) : z_Ev E (d + 1) z_m210 0 [some (.ref 127)] [] 161 (I, J, RF w) (none, 161, I, J, RF w) := by
  refine z_evG 2 (y := z_ret (z_cl E (d + 1) 205 [.ref 127] (161, (I, J, RF w))) 4 [some (.ref 127)] []) (fun _ => rfl) ?_
  refine z_evK (v := .int s) (z' := 161) (σ' := (I, J, RF w)) (m_topSign_s E d I J w k s h_k hk hs) ?_
  refine z_evG 2 (y := if s = 109 then z_go 9 [some (.ref 127)] [] 161 (I, J, RF w) else z_go 55 [some (.ref 127)] [] 161 (I, J, RF w)) (fun _ => rfl) ?_
  refine z_evF hn ?_
  refine z_evL ?_
  refine z_evG 1 (y := some (.inr (none, 161, I, J, RF w))) (fun _ => rfl) ?_
  exact z_evR rfl
set_option maxRecDepth 20000 in
theorem m_oe_i (E : zE) (d : Nat) (I : Nat → Nat → Int32) (J : Nat → Nat → Int64) (w : Nat) {r : zR} (k m : Nat) (s : Int32) (h_k : I 127 33 = nI (k + 1)) (hk : k < 170) (hs : I 143 k = s) (hn : s = 109) (h_m : I 127 31 = nI (m + 1)) (hm : m < 170) (hz : z_Ev E (d + 1) z_m210 0 [some (.ref 127)] [] 161 ((z_u2 (z_u2 (z_u2 I 142 m (-(I 142 m))) 127 33 ((I 127 33) - 1)) 127 28 ((I 127 28) - 1)), J, RF w) r) : z_Ev E (d + 1) z_m210 0 [some (.ref 127)] [] 161 (I, J, RF w) r := by
  refine z_evG 2 (y := z_ret (z_cl E (d + 1) 205 [.ref 127] (161, (I, J, RF w))) 4 [some (.ref 127)] []) (fun _ => rfl) ?_
  refine z_evK (v := .int s) (z' := 161) (σ' := (I, J, RF w)) (m_topSign_s E d I J w k s h_k hk hs) ?_
  refine z_evG 2 (y := if s = 109 then z_go 9 [some (.ref 127)] [] 161 (I, J, RF w) else z_go 55 [some (.ref 127)] [] 161 (I, J, RF w)) (fun _ => rfl) ?_
  refine z_evT hn ?_
  refine z_evL ?_
  refine z_evG 13 (y := z_ild (z_ia E 161 (I, J, RF w) 142) ((I 127 31) - 1) fun vv => z_go 30 [some (.ref 127)] [.int vv, .int ((I 127 31) - 1), .ref 142] 161 (I, J, RF w)) (fun _ => rfl) ?_
  refine z_evBn (N := 170) (f := (I 142)) (k := m) rfl (z_predE h_m) (by omega) ?_
  refine z_evL ?_
  refine z_evG 2 (y := z_ck (z_in ((I 127 31) - 1) 170) (z_go 32 [some (.ref 127)] [] 161 ((z_u2 I 142 (((I 127 31) - 1).toNatClampNeg) (-(I 142 m))), J, RF w))) (fun _ => rfl) ?_
  refine z_evC (z_inN (k := m) (z_predE h_m) (by omega) (by decide)) ?_
  refine z_evL ?_
  rw [show (((I 127 31) - 1 : Int32)).toNatClampNeg = m from z_natE (z_predE h_m) (by omega)]
  refine z_evG 13 (y := z_go 0 [some (.ref 127)] [] 161 ((z_u2 (z_u2 (z_u2 I 142 m (-(I 142 m))) 127 33 ((I 127 33) - 1)) 127 28 ((I 127 28) - 1)), J, RF w)) (fun _ => rfl) ?_
  refine z_evL ?_
  exact hz
theorem m_oeQ (E : zE) (d : Nat) {I0 : Nat → Nat → Int32} {b : Nat → Nat} {n p : Nat} {wa mn : Bool} (J : Nat → Nat → Int64) (w : Nat) : ∀ S v V dp I, s_MS I0 I b n p S (v :: V) dp wa mn → S.length ≤ 170 → V.length < 170 → ∃ I', z_Ev E (d + 1) z_m210 0 [some (.ref 127)] [] 161 (I, J, RF w) (none, 161, I', J, RF w) ∧ s_MS I0 I' b n p (s_oe S (v :: V) dp).1 (s_oe S (v :: V) dp).2.1 (s_oe S (v :: V) dp).2.2 wa mn
  | [], v, V, dp, I, h, hS, hV => ⟨I, m_oe_0 E d I J w h.sm, h⟩
  | s :: S, v, V, dp, I, h, hS, hV => by
    by_cases q : s = 109
    · have e : s_oe (s :: S) (v :: V) dp = s_oe S (-v :: V) (dp - 1) := if_pos q
      rw [e]
      have c : s_MS I0 (z_u2 (z_u2 (z_u2 I 142 V.length (-(I 142 V.length))) 127 33 (I 127 33 - 1)) 127 28 (I 127 28 - 1)) b n p S (-v :: V) (dp - 1) wa mn := by
        refine s_MS.mk h.by h.at h.tok h.pl h.nu h.na h.bad ?_ h.vm ⟨?_, ?_⟩ ?_ h.ss.2 h.wa h.mn ?_
        · show I 127 28 - 1 = _; rw [h.dp]
        · show z_u2 I 142 V.length (-(I 142 V.length)) 142 V.length = _
          rw [z_u2_same, h.vs.1]
        · exact s_Ls_u (I := I) h.vs.2 (Nat.le_refl _)
        · show I 127 33 - 1 = _; exact z_predE h.sm
        · intro a k q
          exact (z_u2_sc (s_sc_f (by omega)) q).trans ((z_u2_sc (s_sc_f (by omega)) q).trans ((z_u2_sc (s_sc_v _) q).trans (h.same a k q)))
      obtain ⟨I', e1, c1⟩ := m_oeQ E d J w S (-v) V (dp - 1) _ c (Nat.le_of_lt hS) hV
      exact ⟨I', m_oe_i E d I J w S.length V.length s h.sm hS h.ss.1 q h.vm hV e1, c1⟩
    · have e : s_oe (s :: S) (v :: V) dp = (s :: S, v :: V, dp) := if_neg q
      rw [e]
      exact ⟨I, m_oe_n E d I J w S.length s h.sm hS h.ss.1 q, h⟩
theorem m_oneEndsQ (E : zE) (d : Nat) {I0 I : Nat → Nat → Int32} {b : Nat → Nat} {n p : Nat} {S V : List Int32} {v dp : Int32} {wa mn : Bool} (J : Nat → Nat → Int64) (w : Nat) (h : s_MS I0 I b n p S (v :: V) dp wa mn) (hS : S.length ≤ 170) (hV : V.length < 170) : ∃ I', z_cl E (d + 2) 210 [.ref 127] (161, I, J, RF w) = some (none, 161, I', J, RF w) ∧ s_MS I0 I' b n p (s_oe S (v :: V) dp).1 (s_oe S (v :: V) dp).2.1 (s_oe S (v :: V) dp).2.2 wa mn := by
  obtain ⟨I', e1, c⟩ := m_oeQ E d J w S v V dp I h hS hV
  exact ⟨I', z_call (d := d + 1) (M := z_m210) rfl rfl e1, c⟩
