-- READ WORTH by the reference
def s_mrun (b : Nat → Nat) (n : Nat) (fa : Nat → Int32) : Nat → Nat → List Int32 → List Int32 → Int32 → Bool → Bool → Option (Nat ⊕ (Nat × List Int32 × List Int32 × Int32))
  | 0, _, _, _, _, _, _ => none
  | f + 1, p, S, V, dp, wa, mn => if wa = false ∧ s_tok b n p = 59 then some (.inr (p, S, V, dp)) else
    match (if wa = true then some (s_mo (s_tok b n p) (s_xv fa b n p) S V dp mn) else s_msg (s_tok b n p) S V dp mn) with
    | none => none
    | some none => some (.inl p)
    | some (some R) => s_mrun b n fa f (s_en b n p) R.1 R.2.1 R.2.2.1 R.2.2.2.1 R.2.2.2.2
theorem s_oe_len : ∀ (S V : List Int32) (dp : Int32), (s_oe S V dp).1.length ≤ S.length ∧ (s_oe S V dp).2.1.length = V.length ∧ ∀ s, s ∈ (s_oe S V dp).1 → s ∈ S
  | [], V, dp => by unfold s_oe; exact ⟨Nat.le_refl _, rfl, fun s q => q⟩
  | s :: S, [], dp => ⟨Nat.le_refl _, rfl, fun s q => q⟩
  | s :: S, v :: V, dp => by
    by_cases q : s = 109
    · have e : s_oe (s :: S) (v :: V) dp = s_oe S (-v :: V) (dp - 1) := if_pos q
      rw [e]
      have ih := s_oe_len S (-v :: V) (dp - 1)
      exact ⟨Nat.le_succ_of_le ih.1, ih.2.1, fun x hx => List.mem_cons_of_mem _ (ih.2.2 x hx)⟩
    · have e : s_oe (s :: S) (v :: V) dp = (s :: S, v :: V, dp) := if_neg q
      rw [e]
      exact ⟨Nat.le_refl _, rfl, fun s q => q⟩
theorem s_mo_len {t : Nat} {x : Int32} {S V : List Int32} {dp : Int32} {mn : Bool} {R : List Int32 × List Int32 × Int32 × Bool × Bool} (ht : t ∈ z_tks) (h : s_mo t x S V dp mn = some R) : t ≠ 0 ∧ R.1.length ≤ S.length + 1 ∧ R.2.1.length ≤ V.length + 1 ∧ ∀ s, s ∈ R.1 → s ∈ S ∨ s ∈ s_sgs := by
  unfold s_mo at h
  by_cases c : t = 40 ∨ t = 45 ∨ (t = 7 ∧ mn = true)
  · rw [if_pos c] at h
    by_cases h5 : dp = 5
    · rw [if_pos h5] at h; cases h
    · rw [if_neg h5] at h
      injection h with h
      subst h
      refine ⟨by omega, Nat.le_refl _, Nat.le_succ _, ?_⟩
      intro s hs
      rcases List.mem_cons.mp hs with q | q
      · right
        rw [q]
        split
        · decide
        · exact (s_mtk_iff t ht).2.2.2.2.2.2
      · exact .inl q
  · rw [if_neg c] at h
    by_cases c2 : t = 2 ∨ (8 ≤ t ∧ t ≤ 13)
    · rw [if_pos c2] at h
      injection h with h
      subst h
      have := s_oe_len S (x :: V) dp
      exact ⟨by omega, by simp only; omega, by simp only [List.length_cons] at this ⊢; omega, fun s hs => .inl (this.2.2 s hs)⟩
    · rw [if_neg c2] at h; cases h
theorem s_msg_len {t : Nat} {S V : List Int32} {dp : Int32} {mn : Bool} {R : List Int32 × List Int32 × Int32 × Bool × Bool} (ht : t ∈ z_tks) (h : s_msg t S V dp mn = some (some R)) : t ≠ 0 ∧ R.1.length ≤ S.length + 1 ∧ R.2.1.length ≤ V.length + 1 ∧ ∀ s, s ∈ R.1 → s ∈ S ∨ s ∈ s_sgs := by
  unfold s_msg at h
  by_cases c : t = 41
  · rw [if_pos c] at h
    cases r : s_wd 1 S V dp with
    | none => rw [r] at h; cases h
    | some R1 =>
      obtain ⟨S1, V1, dp1⟩ := R1
      rw [r] at h
      have l := s_wd_len r
      cases S1 with
      | nil => cases h
      | cons s S1 =>
        by_cases q : s = 40
        · cases V1 with
          | nil => change (if s = 40 then none else some none) = _ at h; rw [if_pos q] at h; cases h
          | cons v V1 =>
            change (if s = 40 then some (some ((s_oe S1 (v :: V1) (dp1 - 1)).1, (s_oe S1 (v :: V1) (dp1 - 1)).2.1, (s_oe S1 (v :: V1) (dp1 - 1)).2.2, false, mn)) else some none) = _ at h
            rw [if_pos q] at h
            injection h with h
            injection h with h
            subst h
            have o := s_oe_len S1 (v :: V1) (dp1 - 1)
            simp only [List.length_cons] at l o ⊢
            exact ⟨by omega, by omega, by omega, fun x hx => .inl (l.2.2 x (List.mem_cons_of_mem _ (o.2.2 x hx)))⟩
        · change (if s = 40 then _ else some none) = _ at h; rw [if_neg q] at h; cases h
  · rw [if_neg c] at h
    by_cases c2 : s_near (s_mtk t) = 0 ∨ t = 7
    · rw [if_pos c2] at h; cases h
    · rw [if_neg c2] at h
      cases r : s_wd (if s_near (s_mtk t) = 4 then 5 else s_near (s_mtk t)) S V dp with
      | none => rw [r] at h; cases h
      | some R1 =>
        obtain ⟨S1, V1, dp1⟩ := R1
        rw [r] at h
        have l := s_wd_len r
        change (if s_near (s_mtk t) = 4 ∧ s_tpn S1 = 4 then some none else some (some (s_mtk t :: S1, V1, dp1, true, decide (s_near (s_mtk t) < 3)))) = _ at h
        split at h
        · cases h
        · injection h with h
          injection h with h
          subst h
          simp only [List.length_cons] at l ⊢
          refine ⟨?_, by omega, by omega, ?_⟩
          · intro q; rw [q] at c2; exact c2 (.inl (by decide))
          · intro s hs
            rcases List.mem_cons.mp hs with q | q
            · right; rw [q]; exact (s_mtk_iff t ht).2.2.2.2.2.2
            · exact .inl (l.2.2 s q)
set_option maxRecDepth 20000 in
theorem m_rw_semi (E : zE) (d : Nat) (I : Nat → Nat → Int32) (J : Nat → Nat → Int64) (w : Nat) {r : zR}  (h27 : I 127 27 = 0) (h36 : I 127 36 = 0) (hT : I 127 24 = 59) (hz : z_Ev E (d + 4) z_m213 84 [some (.ref 127)] [] 161 (I, J, RF w) r) : z_Ev E (d + 4) z_m213 29 [some (.ref 127)] [] 161 (I, J, RF w) r := by
  refine z_evG 3 (y := if (I 127 27) = 0 then z_go 36 [some (.ref 127)] [] 161 (I, J, RF w) else z_go 84 [some (.ref 127)] [] 161 (I, J, RF w)) (fun _ => rfl) ?_
  refine z_evT h27 ?_
  refine z_evL ?_
  refine z_evG 3 (y := if (I 127 36) = 0 then z_go 43 [some (.ref 127)] [] 161 (I, J, RF w) else z_go 52 [some (.ref 127)] [] 161 (I, J, RF w)) (fun _ => rfl) ?_
  refine z_evT h36 ?_
  refine z_evL ?_
  refine z_evG 4 (y := if (I 127 24) = 59 then z_go 84 [some (.ref 127)] [] 161 (I, J, RF w) else z_go 52 [some (.ref 127)] [] 161 (I, J, RF w)) (fun _ => rfl) ?_
  refine z_evT hT ?_
  refine z_evL ?_
  exact hz
set_option maxRecDepth 20000 in
theorem m_rw_o (E : zE) (d : Nat) (I : Nat → Nat → Int32) (J : Nat → Nat → Int64) (w : Nat) {r : zR} (I1 I2 : Nat → Nat → Int32) (h27 : I 127 27 = 0) (h36 : I 127 36 = 1) (hw : z_cl E (d + 4) 211 [.ref 127] (161, I, J, RF w) = some (none, 161, I1, J, RF w)) (hb : I1 127 27 = 0) (hx : z_cl E (d + 4) 204 [.ref 127] (161, I1, J, RF w) = some (none, 161, I2, J, RF w)) (hz : z_Ev E (d + 4) z_m213 29 [some (.ref 127)] [] 161 (I2, J, RF w) r) : z_Ev E (d + 4) z_m213 29 [some (.ref 127)] [] 161 (I, J, RF w) r := by
  refine z_evG 3 (y := if (I 127 27) = 0 then z_go 36 [some (.ref 127)] [] 161 (I, J, RF w) else z_go 84 [some (.ref 127)] [] 161 (I, J, RF w)) (fun _ => rfl) ?_
  refine z_evT h27 ?_
  refine z_evL ?_
  refine z_evG 3 (y := if (I 127 36) = 0 then z_go 43 [some (.ref 127)] [] 161 (I, J, RF w) else z_go 52 [some (.ref 127)] [] 161 (I, J, RF w)) (fun _ => rfl) ?_
  refine z_evF (by rw [h36]; decide) ?_
  refine z_evL ?_
  refine z_evG 3 (y := if (I 127 36) = 0 then z_go 66 [some (.ref 127)] [] 161 (I, J, RF w) else z_go 59 [some (.ref 127)] [] 161 (I, J, RF w)) (fun _ => rfl) ?_
  refine z_evF (by rw [h36]; decide) ?_
  refine z_evL ?_
  refine z_evG 2 (y := z_ret (z_cl E (d + 4) 211 [.ref 127] (161, (I, J, RF w))) 63 [some (.ref 127)] []) (fun _ => rfl) ?_
  refine z_evV (z' := 161) (σ' := (I1, J, RF w)) hw ?_
  refine z_evG 4 (y := if (I1 127 27) = 0 then z_go 77 [some (.ref 127)] [] 161 (I1, J, RF w) else z_go 29 [some (.ref 127)] [] 161 (I1, J, RF w)) (fun _ => rfl) ?_
  refine z_evT hb ?_
  refine z_evL ?_
  refine z_evG 2 (y := z_ret (z_cl E (d + 4) 204 [.ref 127] (161, (I1, J, RF w))) 81 [some (.ref 127)] []) (fun _ => rfl) ?_
  refine z_evV (z' := 161) (σ' := (I2, J, RF w)) hx ?_
  refine z_evG 1 (y := z_go 29 [some (.ref 127)] [] 161 (I2, J, RF w)) (fun _ => rfl) ?_
  refine z_evL ?_
  exact hz
set_option maxRecDepth 20000 in
theorem m_rw_ob (E : zE) (d : Nat) (I : Nat → Nat → Int32) (J : Nat → Nat → Int64) (w : Nat) {r : zR} (I1 : Nat → Nat → Int32) (h27 : I 127 27 = 0) (h36 : I 127 36 = 1) (hw : z_cl E (d + 4) 211 [.ref 127] (161, I, J, RF w) = some (none, 161, I1, J, RF w)) (hb : I1 127 27 = 1) (hz : z_Ev E (d + 4) z_m213 29 [some (.ref 127)] [] 161 (I1, J, RF w) r) : z_Ev E (d + 4) z_m213 29 [some (.ref 127)] [] 161 (I, J, RF w) r := by
  refine z_evG 3 (y := if (I 127 27) = 0 then z_go 36 [some (.ref 127)] [] 161 (I, J, RF w) else z_go 84 [some (.ref 127)] [] 161 (I, J, RF w)) (fun _ => rfl) ?_
  refine z_evT h27 ?_
  refine z_evL ?_
  refine z_evG 3 (y := if (I 127 36) = 0 then z_go 43 [some (.ref 127)] [] 161 (I, J, RF w) else z_go 52 [some (.ref 127)] [] 161 (I, J, RF w)) (fun _ => rfl) ?_
  refine z_evF (by rw [h36]; decide) ?_
  refine z_evL ?_
  refine z_evG 3 (y := if (I 127 36) = 0 then z_go 66 [some (.ref 127)] [] 161 (I, J, RF w) else z_go 59 [some (.ref 127)] [] 161 (I, J, RF w)) (fun _ => rfl) ?_
  refine z_evF (by rw [h36]; decide) ?_
  refine z_evL ?_
  refine z_evG 2 (y := z_ret (z_cl E (d + 4) 211 [.ref 127] (161, (I, J, RF w))) 63 [some (.ref 127)] []) (fun _ => rfl) ?_
  refine z_evV (z' := 161) (σ' := (I1, J, RF w)) hw ?_
  refine z_evG 4 (y := if (I1 127 27) = 0 then z_go 77 [some (.ref 127)] [] 161 (I1, J, RF w) else z_go 29 [some (.ref 127)] [] 161 (I1, J, RF w)) (fun _ => rfl) ?_
  refine z_evF (by rw [hb]; decide) ?_
  refine z_evL ?_
  exact hz
set_option maxRecDepth 20000 in
theorem m_rw_s (E : zE) (d : Nat) (I : Nat → Nat → Int32) (J : Nat → Nat → Int64) (w : Nat) {r : zR} (I1 I2 : Nat → Nat → Int32) (h27 : I 127 27 = 0) (h36 : I 127 36 = 0) (hT : ¬ I 127 24 = 59) (hw : z_cl E (d + 4) 212 [.ref 127] (161, I, J, RF w) = some (none, 161, I1, J, RF w)) (hb : I1 127 27 = 0) (hx : z_cl E (d + 4) 204 [.ref 127] (161, I1, J, RF w) = some (none, 161, I2, J, RF w)) (hz : z_Ev E (d + 4) z_m213 29 [some (.ref 127)] [] 161 (I2, J, RF w) r) : z_Ev E (d + 4) z_m213 29 [some (.ref 127)] [] 161 (I, J, RF w) r := by
  refine z_evG 3 (y := if (I 127 27) = 0 then z_go 36 [some (.ref 127)] [] 161 (I, J, RF w) else z_go 84 [some (.ref 127)] [] 161 (I, J, RF w)) (fun _ => rfl) ?_
  refine z_evT h27 ?_
  refine z_evL ?_
  refine z_evG 3 (y := if (I 127 36) = 0 then z_go 43 [some (.ref 127)] [] 161 (I, J, RF w) else z_go 52 [some (.ref 127)] [] 161 (I, J, RF w)) (fun _ => rfl) ?_
  refine z_evT h36 ?_
  refine z_evL ?_
  refine z_evG 4 (y := if (I 127 24) = 59 then z_go 84 [some (.ref 127)] [] 161 (I, J, RF w) else z_go 52 [some (.ref 127)] [] 161 (I, J, RF w)) (fun _ => rfl) ?_
  refine z_evF hT ?_
  refine z_evL ?_
  refine z_evG 3 (y := if (I 127 36) = 0 then z_go 66 [some (.ref 127)] [] 161 (I, J, RF w) else z_go 59 [some (.ref 127)] [] 161 (I, J, RF w)) (fun _ => rfl) ?_
  refine z_evT h36 ?_
  refine z_evL ?_
  refine z_evG 2 (y := z_ret (z_cl E (d + 4) 212 [.ref 127] (161, (I, J, RF w))) 70 [some (.ref 127)] []) (fun _ => rfl) ?_
  refine z_evV (z' := 161) (σ' := (I1, J, RF w)) hw ?_
  refine z_evG 3 (y := if (I1 127 27) = 0 then z_go 77 [some (.ref 127)] [] 161 (I1, J, RF w) else z_go 29 [some (.ref 127)] [] 161 (I1, J, RF w)) (fun _ => rfl) ?_
  refine z_evT hb ?_
  refine z_evL ?_
  refine z_evG 2 (y := z_ret (z_cl E (d + 4) 204 [.ref 127] (161, (I1, J, RF w))) 81 [some (.ref 127)] []) (fun _ => rfl) ?_
  refine z_evV (z' := 161) (σ' := (I2, J, RF w)) hx ?_
  refine z_evG 1 (y := z_go 29 [some (.ref 127)] [] 161 (I2, J, RF w)) (fun _ => rfl) ?_
  refine z_evL ?_
  exact hz
set_option maxRecDepth 20000 in
theorem m_rw_sb (E : zE) (d : Nat) (I : Nat → Nat → Int32) (J : Nat → Nat → Int64) (w : Nat) {r : zR} (I1 : Nat → Nat → Int32) (h27 : I 127 27 = 0) (h36 : I 127 36 = 0) (hT : ¬ I 127 24 = 59) (hw : z_cl E (d + 4) 212 [.ref 127] (161, I, J, RF w) = some (none, 161, I1, J, RF w)) (hb : I1 127 27 = 1) (hz : z_Ev E (d + 4) z_m213 29 [some (.ref 127)] [] 161 (I1, J, RF w) r) : z_Ev E (d + 4) z_m213 29 [some (.ref 127)] [] 161 (I, J, RF w) r := by
  refine z_evG 3 (y := if (I 127 27) = 0 then z_go 36 [some (.ref 127)] [] 161 (I, J, RF w) else z_go 84 [some (.ref 127)] [] 161 (I, J, RF w)) (fun _ => rfl) ?_
  refine z_evT h27 ?_
  refine z_evL ?_
  refine z_evG 3 (y := if (I 127 36) = 0 then z_go 43 [some (.ref 127)] [] 161 (I, J, RF w) else z_go 52 [some (.ref 127)] [] 161 (I, J, RF w)) (fun _ => rfl) ?_
  refine z_evT h36 ?_
  refine z_evL ?_
  refine z_evG 4 (y := if (I 127 24) = 59 then z_go 84 [some (.ref 127)] [] 161 (I, J, RF w) else z_go 52 [some (.ref 127)] [] 161 (I, J, RF w)) (fun _ => rfl) ?_
  refine z_evF hT ?_
  refine z_evL ?_
  refine z_evG 3 (y := if (I 127 36) = 0 then z_go 66 [some (.ref 127)] [] 161 (I, J, RF w) else z_go 59 [some (.ref 127)] [] 161 (I, J, RF w)) (fun _ => rfl) ?_
  refine z_evT h36 ?_
  refine z_evL ?_
  refine z_evG 2 (y := z_ret (z_cl E (d + 4) 212 [.ref 127] (161, (I, J, RF w))) 70 [some (.ref 127)] []) (fun _ => rfl) ?_
  refine z_evV (z' := 161) (σ' := (I1, J, RF w)) hw ?_
  refine z_evG 3 (y := if (I1 127 27) = 0 then z_go 77 [some (.ref 127)] [] 161 (I1, J, RF w) else z_go 29 [some (.ref 127)] [] 161 (I1, J, RF w)) (fun _ => rfl) ?_
  refine z_evF (by rw [hb]; decide) ?_
  refine z_evL ?_
  exact hz
set_option maxRecDepth 20000 in
theorem m_rw_bad (E : zE) (d : Nat) (I : Nat → Nat → Int32) (J : Nat → Nat → Int64) (w : Nat)  (hb : I 127 27 = 1) : z_Ev E (d + 4) z_m213 29 [some (.ref 127)] [] 161 (I, J, RF w) (some (.int 0), 161, I, J, RF w) := by
  refine z_evG 3 (y := if (I 127 27) = 0 then z_go 36 [some (.ref 127)] [] 161 (I, J, RF w) else z_go 84 [some (.ref 127)] [] 161 (I, J, RF w)) (fun _ => rfl) ?_
  refine z_evF (by rw [hb]; decide) ?_
  refine z_evL ?_
  refine z_evG 3 (y := if (I 127 27) = 0 then z_go 91 [some (.ref 127)] [] 161 (I, J, RF w) else z_go 112 [some (.ref 127)] [] 161 (I, J, RF w)) (fun _ => rfl) ?_
  refine z_evF (by rw [hb]; decide) ?_
  refine z_evL ?_
  refine z_evG 3 (y := if (I 127 27) = 0 then z_go 123 [some (.ref 127)] [] 161 (I, J, RF w) else z_go 119 [some (.ref 127)] [] 161 (I, J, RF w)) (fun _ => rfl) ?_
  refine z_evF (by rw [hb]; decide) ?_
  refine z_evL ?_
  refine z_evG 3 (y := some (.inr (some (.int 0), 161, I, J, RF w))) (fun _ => rfl) ?_
  exact z_evR rfl
set_option maxRecDepth 20000 in
theorem m_rw_end0 (E : zE) (d : Nat) (I : Nat → Nat → Int32) (J : Nat → Nat → Int64) (w : Nat) (I1 : Nat → Nat → Int32) (hb : I 127 27 = 0) (hw : z_cl E (d + 4) 209 [.ref 127, .int 1] (161, I, J, RF w) = some (none, 161, I1, J, RF w)) (h0 : I1 127 33 = 0) : z_Ev E (d + 4) z_m213 84 [some (.ref 127)] [] 161 (I, J, RF w) (some (.int (I1 142 0)), 161, (z_u2 I1 127 27 0), J, RF w) := by
  refine z_evG 3 (y := if (I 127 27) = 0 then z_go 91 [some (.ref 127)] [] 161 (I, J, RF w) else z_go 112 [some (.ref 127)] [] 161 (I, J, RF w)) (fun _ => rfl) ?_
  refine z_evT hb ?_
  refine z_evL ?_
  refine z_evG 3 (y := z_ret (z_cl E (d + 4) 209 [.ref 127, .int 1] (161, (I, J, RF w))) 96 [some (.ref 127)] []) (fun _ => rfl) ?_
  refine z_evV (z' := 161) (σ' := (I1, J, RF w)) hw ?_
  refine z_evG 4 (y := if 0 < (I1 127 33) then z_go 104 [some (.ref 127)] [.ref 127] 161 (I1, J, RF w) else z_go 108 [some (.ref 127)] [.ref 127] 161 (I1, J, RF w)) (fun _ => rfl) ?_
  refine z_evF (by rw [h0]; decide) ?_
  refine z_evL ?_
  refine z_evG 5 (y := if 0 = 0 then z_go 123 [some (.ref 127)] [] 161 ((z_u2 I1 127 27 0), J, RF w) else z_go 119 [some (.ref 127)] [] 161 ((z_u2 I1 127 27 0), J, RF w)) (fun _ => rfl) ?_
  refine z_evI (fun _ => ?_) (fun q => absurd (by decide) q)
  refine z_evL ?_
  refine z_evG 4 (y := z_ild (z_ia E 161 ((z_u2 I1 127 27 0), J, RF w) 142) 0 fun vv => z_go 129 [some (.ref 127)] [.int vv] 161 ((z_u2 I1 127 27 0), J, RF w)) (fun _ => rfl) ?_
  refine z_evBn (N := 170) (f := ((z_u2 I1 127 27 0) 142)) (k := 0) rfl rfl (by decide) ?_
  refine z_evL ?_
  refine z_evG 1 (y := some (.inr (some (.int (I1 142 0)), 161, (z_u2 I1 127 27 0), J, RF w))) (fun _ => rfl) ?_
  exact z_evR rfl
set_option maxRecDepth 20000 in
theorem m_rw_end1 (E : zE) (d : Nat) (I : Nat → Nat → Int32) (J : Nat → Nat → Int64) (w : Nat) (k : Nat) (I1 : Nat → Nat → Int32) (hb : I 127 27 = 0) (hw : z_cl E (d + 4) 209 [.ref 127, .int 1] (161, I, J, RF w) = some (none, 161, I1, J, RF w)) (h_k : I1 127 33 = nI (k + 1)) (hk : k < 170) : z_Ev E (d + 4) z_m213 84 [some (.ref 127)] [] 161 (I, J, RF w) (some (.int 0), 161, (z_u2 I1 127 27 1), J, RF w) := by
  refine z_evG 3 (y := if (I 127 27) = 0 then z_go 91 [some (.ref 127)] [] 161 (I, J, RF w) else z_go 112 [some (.ref 127)] [] 161 (I, J, RF w)) (fun _ => rfl) ?_
  refine z_evT hb ?_
  refine z_evL ?_
  refine z_evG 3 (y := z_ret (z_cl E (d + 4) 209 [.ref 127, .int 1] (161, (I, J, RF w))) 96 [some (.ref 127)] []) (fun _ => rfl) ?_
  refine z_evV (z' := 161) (σ' := (I1, J, RF w)) hw ?_
  refine z_evG 4 (y := if 0 < (I1 127 33) then z_go 104 [some (.ref 127)] [.ref 127] 161 (I1, J, RF w) else z_go 108 [some (.ref 127)] [.ref 127] 161 (I1, J, RF w)) (fun _ => rfl) ?_
  refine z_evT ((z_ltN (a := 0) rfl h_k (by decide) (by omega)).mpr (by omega)) ?_
  refine z_evL ?_
  refine z_evG 6 (y := if 1 = 0 then z_go 123 [some (.ref 127)] [] 161 ((z_u2 I1 127 27 1), J, RF w) else z_go 119 [some (.ref 127)] [] 161 ((z_u2 I1 127 27 1), J, RF w)) (fun _ => rfl) ?_
  refine z_evI (fun q => absurd q (by decide)) (fun _ => ?_)
  refine z_evL ?_
  refine z_evG 3 (y := some (.inr (some (.int 0), 161, (z_u2 I1 127 27 1), J, RF w))) (fun _ => rfl) ?_
  exact z_evR rfl
set_option maxRecDepth 20000 in
theorem m_rw_start (E : zE) (d : Nat) (I : Nat → Nat → Int32) (J : Nat → Nat → Int64) (w : Nat) {r : zR} (I1 : Nat → Nat → Int32) (hx : z_cl E (d + 4) 204 [.ref 127] (161, z_u2 (z_u2 (z_u2 (z_u2 (z_u2 I 127 31 0) 127 33 0) 127 28 0) 127 36 1) 127 37 1, J, RF w) = some (none, 161, I1, J, RF w)) (hz : z_Ev E (d + 4) z_m213 29 [some (.ref 127)] [] 161 (I1, J, RF w) r) : z_Ev E (d + 4) z_m213 0 [some (.ref 127)] [] 161 (I, J, RF w) r := by
  refine z_evG 17 (y := z_ret (z_cl E (d + 4) 204 [.ref 127] (161, ((z_u2 (z_u2 (z_u2 (z_u2 (z_u2 I 127 31 0) 127 33 0) 127 28 0) 127 36 1) 127 37 1), J, RF w))) 29 [some (.ref 127)] []) (fun _ => rfl) ?_
  refine z_evV (z' := 161) (σ' := (I1, J, RF w)) hx ?_
  exact hz
theorem m_rw_loop (E : zE) (d : Nat) {I0 : Nat → Nat → Int32} {b : Nat → Nat} {n : Nat} (J : Nat → Nat → Int64) (w : Nat) (hn : n ≤ 160) {R : Nat ⊕ (Nat × List Int32 × List Int32 × Int32)} : ∀ f p S V dp wa mn I, s_MS I0 I b n p S V dp wa mn → s_okS S → p ≤ n → S.length ≤ p → V.length ≤ p → s_mrun b n (I0 141) f p S V dp wa mn = some R →
    match R with
    | .inl q => q ≤ n ∧ ∃ I', z_Ev E (d + 4) z_m213 29 [some (.ref 127)] [] 161 (I, J, RF w) (some (.int 0), 161, I', J, RF w) ∧ s_MB I0 I' b n q
    | .inr (q, S', V', dp') => q ≤ n ∧ S'.length ≤ q ∧ V'.length ≤ q ∧ s_okS S' ∧ ∃ I' mn', (∀ r, z_Ev E (d + 4) z_m213 84 [some (.ref 127)] [] 161 (I', J, RF w) r → z_Ev E (d + 4) z_m213 29 [some (.ref 127)] [] 161 (I, J, RF w) r) ∧ s_MS I0 I' b n q S' V' dp' false mn'
  | 0, p, S, V, dp, wa, mn, I, h, ho, hp, hS, hV, e => by cases e
  | f + 1, p, S, V, dp, wa, mn, I, h, ho, hp, hS, hV, e => by
    have tm := s_tok_mem b n p
    change (if wa = false ∧ s_tok b n p = 59 then some (.inr (p, S, V, dp)) else
      match (if wa = true then some (s_mo (s_tok b n p) (s_xv (I0 141) b n p) S V dp mn) else s_msg (s_tok b n p) S V dp mn) with
      | none => none
      | some none => some (.inl p)
      | some (some R) => s_mrun b n (I0 141) f (s_en b n p) R.1 R.2.1 R.2.2.1 R.2.2.2.1 R.2.2.2.2) = some R at e
    have key : ∀ R1 : List Int32 × List Int32 × Int32 × Bool × Bool, (s_tok b n p ≠ 0 ∧ R1.1.length ≤ S.length + 1 ∧ R1.2.1.length ≤ V.length + 1 ∧ ∀ s, s ∈ R1.1 → s ∈ S ∨ s ∈ s_sgs) → s_okS R1.1 ∧ s_en b n p ≤ n ∧ R1.1.length ≤ s_en b n p ∧ R1.2.1.length ≤ s_en b n p := by
      intro R1 l
      have g := s_en_gt l.1
      have g2 := s_st_ge b n p
      exact ⟨fun s hs => (l.2.2.2 s hs).elim (ho s) id, s_en_le b hp, by omega, by omega⟩
    cases wa with
    | true =>
      rw [if_neg (fun q => by cases q.1), if_pos rfl] at e
      obtain ⟨I1, e1, c1⟩ := m_readOneQ E (d + 1) J w h (by omega) (by omega)
      cases r : s_mo (s_tok b n p) (s_xv (I0 141) b n p) S V dp mn with
      | none =>
        rw [r] at e c1
        have e' : R = .inl p := by injection e with e; exact e.symm
        subst e'
        exact ⟨hp, I1, m_rw_ob E d I J w I1 h.bad h.wa e1 c1.1 (m_rw_bad E d I1 J w c1.1), c1⟩
      | some R1 =>
        rw [r] at e c1
        obtain ⟨k1, k2, k3, k4⟩ := key R1 (s_mo_len tm r)
        obtain ⟨I2, e2, c2⟩ := m_nextQ E (d + 1) J w c1 hp
        have ih := m_rw_loop E d J w hn f (s_en b n p) R1.1 R1.2.1 R1.2.2.1 R1.2.2.2.1 R1.2.2.2.2 I2 c2 k1 k2 k3 k4 e
        have st : ∀ r, z_Ev E (d + 4) z_m213 29 [some (.ref 127)] [] 161 (I2, J, RF w) r → z_Ev E (d + 4) z_m213 29 [some (.ref 127)] [] 161 (I, J, RF w) r := fun r q => m_rw_o E d I J w I1 I2 h.bad h.wa e1 c1.bad e2 q
        cases R with
        | inl q => obtain ⟨a1, I', a2, a3⟩ := ih; exact ⟨a1, I', st _ a2, a3⟩
        | inr q =>
          obtain ⟨q, S', V', dp'⟩ := q
          obtain ⟨a1, a2, a3, a4, I', mn', a5, a6⟩ := ih
          exact ⟨a1, a2, a3, a4, I', mn', fun r q => st r (a5 r q), a6⟩
    | false =>
      by_cases c : s_tok b n p = 59
      · rw [if_pos ⟨rfl, c⟩] at e
        have e' : R = .inr (p, S, V, dp) := by injection e with e; exact e.symm
        subst e'
        exact ⟨hp, hS, hV, ho, I, mn, fun r q => m_rw_semi E d I J w h.bad h.wa (h.tok.trans (by rw [c]; rfl)) q, h⟩
      · rw [if_neg (fun q => c q.2), if_neg (fun q => by cases q)] at e
        have hT : ¬ I 127 24 = 59 := by
          intro q
          have z : ∀ t, t ∈ z_tks → (s_mtk t = 59 → t = 59) := by decide
          exact c (z _ tm (h.tok.symm.trans q))
        cases r : s_msg (s_tok b n p) S V dp mn with
        | none => rw [r] at e; cases e
        | some R0 =>
          obtain ⟨I1, e1, c1⟩ := m_readSignQ E (d + 0) J w h ho (by omega) (by omega) r
          cases R0 with
          | none =>
            rw [r] at e
            have e' : R = .inl p := by injection e with e; exact e.symm
            subst e'
            exact ⟨hp, I1, m_rw_sb E d I J w I1 h.bad h.wa hT e1 c1.1 (m_rw_bad E d I1 J w c1.1), c1⟩
          | some R1 =>
            rw [r] at e
            obtain ⟨k1, k2, k3, k4⟩ := key R1 (s_msg_len tm r)
            obtain ⟨I2, e2, c2⟩ := m_nextQ E (d + 1) J w c1 hp
            have ih := m_rw_loop E d J w hn f (s_en b n p) R1.1 R1.2.1 R1.2.2.1 R1.2.2.2.1 R1.2.2.2.2 I2 c2 k1 k2 k3 k4 e
            have st : ∀ r, z_Ev E (d + 4) z_m213 29 [some (.ref 127)] [] 161 (I2, J, RF w) r → z_Ev E (d + 4) z_m213 29 [some (.ref 127)] [] 161 (I, J, RF w) r := fun r q => m_rw_s E d I J w I1 I2 h.bad h.wa hT e1 c1.bad e2 q
            cases R with
            | inl q => obtain ⟨a1, I', a2, a3⟩ := ih; exact ⟨a1, I', st _ a2, a3⟩
            | inr q =>
              obtain ⟨q, S', V', dp'⟩ := q
              obtain ⟨a1, a2, a3, a4, I', mn', a5, a6⟩ := ih
              exact ⟨a1, a2, a3, a4, I', mn', fun r q => st r (a5 r q), a6⟩
