-- READ by the class
/-- the text that is read: the place of the fault, or the code and where its second half begins -/
def s_read (b : Nat → Nat) (n : Nat) : Nat ⊕ (List Int32 × Nat) :=
  if ¬ s_tok b n 0 = 3 then .inl 0
  else match (s_lv b n 5).1 (s_en b n 0, []) with
  | (false, p, _) => .inl p
  | (true, p, C) => if ¬ s_tok b n p = 59 then .inl p
    else if ¬ s_tok b n (s_en b n p) = 4 then .inl (s_en b n p)
    else match (s_lv b n 5).1 (s_en b n (s_en b n p), C) with
    | (false, q, _) => .inl q
    | (true, q, C2) => if ¬ s_tok b n q = 59 then .inl q
      else if s_tok b n (s_en b n q) = 0 then .inr (C2, C.length) else .inl (s_en b n q)
def s_RQ (I : Nat → Nat → Int32) (J : Nat → Nat → Int64) (w : Nat) (b : Nat → Nat) (n : Nat) (R : Nat ⊕ (List Int32 × Nat)) (r : zR) : Prop := ∃ I', (∀ a k, ¬ ((a = 76 ∧ (k = 2 ∨ k = 3 ∨ k = 4 ∨ k = 5 ∨ k = 7 ∨ k = 8)) ∨ a = 78) → I' a k = I a k) ∧ match R with
  | .inl p => r = (some (.int 0), 161, I', J, RF w) ∧ I' 76 3 = nI (s_st b n p) ∧ p ≤ n
  | .inr (C, t) => r = (some (.int 1), 161, I', J, RF w) ∧ I' 76 7 = nI C.length ∧ I' 76 8 = nI t ∧ C.length ≤ n ∧ ∀ k, k < C.length → I' 78 k = C.getD k 0
theorem s_RQ_l {I0 I : Nat → Nat → Int32} {J : Nat → Nat → Int64} {w : Nat} {b : Nat → Nat} {n p : Nat} {C : List Int32} {R : Nat ⊕ (List Int32 × Nat)} {I1 : Nat → Nat → Int32} (h1 : ∀ a k, ¬ ((a = 76 ∧ (k = 2 ∨ k = 3 ∨ k = 4 ∨ k = 5 ∨ k = 7 ∨ k = 8)) ∨ a = 78) → I0 a k = I1 a k) (c : s_CS I0 I b n p C) (e : R = .inl p) (hp : p ≤ n) : s_RQ I1 J w b n R (some (.int 0), 161, I, J, RF w) := by
  subst e
  refine ⟨I, fun a k q => (c.same a k (fun r => q ?_)).trans (h1 a k q), rfl, c.st, hp⟩
  rcases r with ⟨r1, r2⟩ | r
  · exact .inl ⟨r1, by omega⟩
  · exact .inr r
theorem s_RQ_r {I0 I : Nat → Nat → Int32} {J : Nat → Nat → Int64} {w : Nat} {b : Nat → Nat} {n p t : Nat} {C : List Int32} {R : Nat ⊕ (List Int32 × Nat)} {I1 : Nat → Nat → Int32} (h1 : ∀ a k, ¬ ((a = 76 ∧ (k = 2 ∨ k = 3 ∨ k = 4 ∨ k = 5 ∨ k = 7 ∨ k = 8)) ∨ a = 78) → I0 a k = I1 a k) (c : s_CS I0 I b n p C) (e : R = .inr (C, t)) (h8 : I0 76 8 = nI t) (hp : p ≤ n) (hl : C.length ≤ p) : s_RQ I1 J w b n R (some (.int 1), 161, I, J, RF w) := by
  subst e
  refine ⟨I, fun a k q => (c.same a k (fun r => q ?_)).trans (h1 a k q), rfl, c.cs, (c.same 76 8 (by decide)).trans h8, by omega, c.cd⟩
  rcases r with ⟨r1, r2⟩ | r
  · exact .inl ⟨r1, by omega⟩
  · exact .inr r
theorem s_CS_8 {I0 I : Nat → Nat → Int32} {b : Nat → Nat} {n p : Nat} {C : List Int32} (x : Int32) (c : s_CS I0 I b n p C) : s_CS (z_u2 I0 76 8 x) (z_u2 I 76 8 x) b n p C := by
  refine s_CS.mk c.n c.m c.b c.tok c.st c.en c.nu c.cs c.cd ?_
  intro a k q
  by_cases h : a = 76 ∧ k = 8
  · obtain ⟨rfl, rfl⟩ := h; rw [z_u2_same, z_u2_same]
  · rw [z_u2_n _ _ h, z_u2_n _ _ h]; exact c.same a k q
set_option maxRecDepth 20000 in
theorem x_readQ (E : zE) (d : Nat) (I : Nat → Nat → Int32) (J : Nat → Nat → Int64) (w : Nat) (b : Nat → Nat) (n : Nat) (hN : I 76 1 = nI n) (hn : n ≤ 160) (hb : ∀ k, k < n → I 77 k = nI (b k) ∧ b k < 256) : ∃ r, z_cl E (d + 45) 64 [.ref 76] (161, I, J, RF w) = some r ∧ s_RQ I J w b n (s_read b n) r := by
  have h256 : ∀ k, k < n → b k < 256 := fun k hk => (hb k hk).2
  have hE := (x_lv5 E d J w b n h256 hn).1
  have gE := (s_gd_lv b n 5).1
  refine z_callQ (d := d + 44) (M := z_m64) rfl rfl ?_
  refine z_qG 8 (y := z_ret (z_cl E (d + 44) 74 [.ref 76] (161, ((z_u2 (z_u2 I 76 4 0) 76 7 0), J, RF w))) 14 [some (.ref 76)] []) (fun _ => rfl) ?_
  obtain ⟨I0, e0, c0⟩ := x_step0 E (d + 37) (I := (z_u2 (z_u2 I 76 4 0) 76 7 0)) J w hN hn hb rfl rfl
  have hI : ∀ a k, ¬ ((a = 76 ∧ (k = 2 ∨ k = 3 ∨ k = 4 ∨ k = 5 ∨ k = 7 ∨ k = 8)) ∨ a = 78) → (z_u2 (z_u2 I 76 4 0) 76 7 0) a k = I a k := by
    intro a k q
    rw [z_u2_n _ _ (fun r => q (.inl ⟨r.1, by omega⟩)), z_u2_n _ _ (fun r => q (.inl ⟨r.1, by omega⟩))]
  have ht0 := s_tok_lt h256 0
  have hp0 : 0 ≤ n := Nat.zero_le n
  have hl0 : ([] : List Int32).length ≤ 0 := Nat.le_refl 0
  refine z_qV (z' := 161) (σ' := (I0, J, RF w)) e0 ?_
  refine z_qG 3 (y := z_ret (z_cl E (d + 44) 65 [.ref 76, .int 3] (161, (I0, J, RF w))) 19 [some (.ref 76)] []) (fun _ => rfl) ?_
  by_cases hs56 : s_tok b n 0 = 3
  · obtain ⟨I56, e56, c56⟩ := x_skipQ E (d + 36) J w c0 hp0 3 (by decide) h256 hs56
    have hp56 := s_en_le b (n := n) hp0
    have hl56 : ([] : List Int32).length ≤ s_en b n 0 := Nat.le_trans hl0 (Nat.le_trans (s_st_ge b n 0) (s_en_ge b n 0))
    have ht56 := s_tok_lt h256 (s_en b n 0)
    refine z_qK (v := .int 1) (z' := 161) (σ' := (I56, J, RF w)) e56 ?_
    refine z_qG 1 (y := if 1 = 0 then z_go 39 [some (.ref 76)] [] 161 (I56, J, RF w) else z_go 22 [some (.ref 76)] [] 161 (I56, J, RF w)) (fun _ => rfl) ?_
    refine z_qI (fun q => absurd q (by decide)) (fun _ => ?_)
    refine z_qL ?_
    refine z_qG 3 (y := z_ret (z_cl E (d + 44) 67 [.ref 76, .int 0] (161, (I56, J, RF w))) 27 [some (.ref 76)] []) (fun _ => rfl) ?_
    obtain ⟨I57, e57, c57⟩ := hE _ I56 (s_en b n 0) ([] : List Int32) c56 hp56 hl56
    have g57 := gE (s_en b n 0, ([] : List Int32)) hp56
    rcases r57 : (s_lv b n 5).1 (s_en b n 0, ([] : List Int32)) with ⟨ok57, p57, C57⟩
    rw [r57] at e57 c57 g57
    obtain ⟨ga57, gb57, gc57⟩ := g57
    simp only at e57 c57 ga57 gb57 gc57
    have hp57 : p57 ≤ n := gb57
    have hl57 : C57.length ≤ p57 := by have := hl56; omega
    have ht57 := s_tok_lt h256 p57
    cases ok57
    · skip
      refine z_qK (v := .int 0) (z' := 161) (σ' := (I57, J, RF w)) e57 ?_
      refine z_qG 1 (y := if 0 = 0 then z_go 39 [some (.ref 76)] [] 161 (I57, J, RF w) else z_go 30 [some (.ref 76)] [] 161 (I57, J, RF w)) (fun _ => rfl) ?_
      refine z_qI (fun _ => ?_) (fun q => absurd (by decide) q)
      refine z_qL ?_
      refine z_qG 2 (y := some (.inr (some (.int 0), 161, I57, J, RF w))) (fun _ => rfl) ?_
      exact z_qR (s_RQ_l hI c57 (by unfold s_read; rw [if_neg (not_not_intro hs56)]; rw [r57]) hp57)
    · skip
      refine z_qK (v := .int 1) (z' := 161) (σ' := (I57, J, RF w)) e57 ?_
      refine z_qG 1 (y := if 1 = 0 then z_go 39 [some (.ref 76)] [] 161 (I57, J, RF w) else z_go 30 [some (.ref 76)] [] 161 (I57, J, RF w)) (fun _ => rfl) ?_
      refine z_qI (fun q => absurd q (by decide)) (fun _ => ?_)
      refine z_qL ?_
      refine z_qG 3 (y := z_ret (z_cl E (d + 44) 65 [.ref 76, .int 59] (161, (I57, J, RF w))) 36 [some (.ref 76)] []) (fun _ => rfl) ?_
      by_cases hs58 : s_tok b n p57 = 59
      · obtain ⟨I58, e58, c58⟩ := x_skipQ E (d + 36) J w c57 hp57 59 (by decide) h256 hs58
        have hp58 := s_en_le b (n := n) hp57
        have hl58 : C57.length ≤ s_en b n p57 := Nat.le_trans hl57 (Nat.le_trans (s_st_ge b n p57) (s_en_ge b n p57))
        have ht58 := s_tok_lt h256 (s_en b n p57)
        refine z_qK (v := .int 1) (z' := 161) (σ' := (I58, J, RF w)) e58 ?_
        refine z_qG 1 (y := if 1 = 0 then z_go 39 [some (.ref 76)] [] 161 (I58, J, RF w) else z_go 41 [some (.ref 76)] [] 161 (I58, J, RF w)) (fun _ => rfl) ?_
        refine z_qI (fun q => absurd q (by decide)) (fun _ => ?_)
        refine z_qL ?_
        refine z_qG 7 (y := z_ret (z_cl E (d + 44) 65 [.ref 76, .int 4] (161, ((z_u2 I58 76 8 (I58 76 7)), J, RF w))) 54 [some (.ref 76)] []) (fun _ => rfl) ?_
        have c59 := s_CS_8 (nI C57.length) c58
        have hI8 : ∀ a k, ¬ ((a = 76 ∧ (k = 2 ∨ k = 3 ∨ k = 4 ∨ k = 5 ∨ k = 7 ∨ k = 8)) ∨ a = 78) → z_u2 (z_u2 (z_u2 I 76 4 0) 76 7 0) 76 8 (nI C57.length) a k = I a k := by
          intro a k q
          rw [z_u2_n _ _ (fun r => q (.inl ⟨r.1, by omega⟩))]; exact hI a k q
        rw [show (I58 76 7 : Int32) = nI C57.length from c58.cs]
        generalize hJ59 : z_u2 I58 76 8 (nI C57.length) = I59 at c59 ⊢
        by_cases hs60 : s_tok b n (s_en b n p57) = 4
        · obtain ⟨I60, e60, c60⟩ := x_skipQ E (d + 36) J w c59 hp58 4 (by decide) h256 hs60
          have hp60 := s_en_le b (n := n) hp58
          have hl60 : C57.length ≤ s_en b n (s_en b n p57) := Nat.le_trans hl58 (Nat.le_trans (s_st_ge b n (s_en b n p57)) (s_en_ge b n (s_en b n p57)))
          have ht60 := s_tok_lt h256 (s_en b n (s_en b n p57))
          refine z_qK (v := .int 1) (z' := 161) (σ' := (I60, J, RF w)) e60 ?_
          refine z_qG 1 (y := if 1 = 0 then z_go 85 [some (.ref 76)] [] 161 (I60, J, RF w) else z_go 57 [some (.ref 76)] [] 161 (I60, J, RF w)) (fun _ => rfl) ?_
          refine z_qI (fun q => absurd q (by decide)) (fun _ => ?_)
          refine z_qL ?_
          refine z_qG 3 (y := z_ret (z_cl E (d + 44) 67 [.ref 76, .int 0] (161, (I60, J, RF w))) 62 [some (.ref 76)] []) (fun _ => rfl) ?_
          obtain ⟨I61, e61, c61⟩ := hE _ I60 (s_en b n (s_en b n p57)) C57 c60 hp60 hl60
          have g61 := gE (s_en b n (s_en b n p57), C57) hp60
          rcases r61 : (s_lv b n 5).1 (s_en b n (s_en b n p57), C57) with ⟨ok61, p61, C61⟩
          rw [r61] at e61 c61 g61
          obtain ⟨ga61, gb61, gc61⟩ := g61
          simp only at e61 c61 ga61 gb61 gc61
          have hp61 : p61 ≤ n := gb61
          have hl61 : C61.length ≤ p61 := by have := hl60; omega
          have ht61 := s_tok_lt h256 p61
          cases ok61
          · skip
            refine z_qK (v := .int 0) (z' := 161) (σ' := (I61, J, RF w)) e61 ?_
            refine z_qG 1 (y := if 0 = 0 then z_go 85 [some (.ref 76)] [] 161 (I61, J, RF w) else z_go 65 [some (.ref 76)] [] 161 (I61, J, RF w)) (fun _ => rfl) ?_
            refine z_qI (fun _ => ?_) (fun q => absurd (by decide) q)
            refine z_qL ?_
            refine z_qG 2 (y := some (.inr (some (.int 0), 161, I61, J, RF w))) (fun _ => rfl) ?_
            exact z_qR (s_RQ_l hI8 c61 (by unfold s_read; rw [if_neg (not_not_intro hs56)]; rw [r57]; simp only; rw [if_neg (not_not_intro hs58)]; rw [if_neg (not_not_intro hs60)]; rw [r61]) hp61)
          · skip
            refine z_qK (v := .int 1) (z' := 161) (σ' := (I61, J, RF w)) e61 ?_
            refine z_qG 1 (y := if 1 = 0 then z_go 85 [some (.ref 76)] [] 161 (I61, J, RF w) else z_go 65 [some (.ref 76)] [] 161 (I61, J, RF w)) (fun _ => rfl) ?_
            refine z_qI (fun q => absurd q (by decide)) (fun _ => ?_)
            refine z_qL ?_
            refine z_qG 3 (y := z_ret (z_cl E (d + 44) 65 [.ref 76, .int 59] (161, (I61, J, RF w))) 71 [some (.ref 76)] []) (fun _ => rfl) ?_
            by_cases hs62 : s_tok b n p61 = 59
            · obtain ⟨I62, e62, c62⟩ := x_skipQ E (d + 36) J w c61 hp61 59 (by decide) h256 hs62
              have hp62 := s_en_le b (n := n) hp61
              have hl62 : C61.length ≤ s_en b n p61 := Nat.le_trans hl61 (Nat.le_trans (s_st_ge b n p61) (s_en_ge b n p61))
              have ht62 := s_tok_lt h256 (s_en b n p61)
              refine z_qK (v := .int 1) (z' := 161) (σ' := (I62, J, RF w)) e62 ?_
              refine z_qG 1 (y := if 1 = 0 then z_go 85 [some (.ref 76)] [] 161 (I62, J, RF w) else z_go 74 [some (.ref 76)] [] 161 (I62, J, RF w)) (fun _ => rfl) ?_
              refine z_qI (fun q => absurd q (by decide)) (fun _ => ?_)
              refine z_qL ?_
              refine z_qG 3 (y := if (I62 76 2) = 0 then z_go 81 [some (.ref 76)] [] 161 (I62, J, RF w) else z_go 85 [some (.ref 76)] [] 161 (I62, J, RF w)) (fun _ => rfl) ?_
              refine z_qIN (show _ ↔ (s_tok b n (s_en b n p61)) = 0 from z_eqN c62.tok rfl (by omega) (by omega)) (fun h9 => ?_) (fun h9 => ?_)
              · refine z_qL ?_
                refine z_qG 3 (y := some (.inr (some (.int 1), 161, I62, J, RF w))) (fun _ => rfl) ?_
                exact z_qR (s_RQ_r hI8 c62 (by unfold s_read; rw [if_neg (not_not_intro hs56)]; rw [r57]; simp only; rw [if_neg (not_not_intro hs58)]; rw [if_neg (not_not_intro hs60)]; rw [r61]; simp only; rw [if_neg (not_not_intro hs62)]; rw [if_pos h9]) rfl hp62 hl62)
              · refine z_qL ?_
                refine z_qG 2 (y := some (.inr (some (.int 0), 161, I62, J, RF w))) (fun _ => rfl) ?_
                exact z_qR (s_RQ_l hI8 c62 (by unfold s_read; rw [if_neg (not_not_intro hs56)]; rw [r57]; simp only; rw [if_neg (not_not_intro hs58)]; rw [if_neg (not_not_intro hs60)]; rw [r61]; simp only; rw [if_neg (not_not_intro hs62)]; rw [if_neg h9]) hp62)
            · have e62 := x_skipN E (d + 36) I61 J w 59 (mt (z_eqN c61.tok rfl (by omega) (by decide)).mp hs62)
              refine z_qK (v := .int 0) (z' := 161) (σ' := (I61, J, RF w)) e62 ?_
              refine z_qG 1 (y := if 0 = 0 then z_go 85 [some (.ref 76)] [] 161 (I61, J, RF w) else z_go 74 [some (.ref 76)] [] 161 (I61, J, RF w)) (fun _ => rfl) ?_
              refine z_qI (fun _ => ?_) (fun q => absurd (by decide) q)
              refine z_qL ?_
              refine z_qG 2 (y := some (.inr (some (.int 0), 161, I61, J, RF w))) (fun _ => rfl) ?_
              exact z_qR (s_RQ_l hI8 c61 (by unfold s_read; rw [if_neg (not_not_intro hs56)]; rw [r57]; simp only; rw [if_neg (not_not_intro hs58)]; rw [if_neg (not_not_intro hs60)]; rw [r61]; simp only; rw [if_pos hs62]) hp61)
        · have e60 := x_skipN E (d + 36) I59 J w 4 (mt (z_eqN c59.tok rfl (by omega) (by decide)).mp hs60)
          refine z_qK (v := .int 0) (z' := 161) (σ' := (I59, J, RF w)) e60 ?_
          refine z_qG 1 (y := if 0 = 0 then z_go 85 [some (.ref 76)] [] 161 (I59, J, RF w) else z_go 57 [some (.ref 76)] [] 161 (I59, J, RF w)) (fun _ => rfl) ?_
          refine z_qI (fun _ => ?_) (fun q => absurd (by decide) q)
          refine z_qL ?_
          refine z_qG 2 (y := some (.inr (some (.int 0), 161, I59, J, RF w))) (fun _ => rfl) ?_
          exact z_qR (s_RQ_l hI8 c59 (by unfold s_read; rw [if_neg (not_not_intro hs56)]; rw [r57]; simp only; rw [if_neg (not_not_intro hs58)]; rw [if_pos hs60]) hp58)
      · have e58 := x_skipN E (d + 36) I57 J w 59 (mt (z_eqN c57.tok rfl (by omega) (by decide)).mp hs58)
        refine z_qK (v := .int 0) (z' := 161) (σ' := (I57, J, RF w)) e58 ?_
        refine z_qG 1 (y := if 0 = 0 then z_go 39 [some (.ref 76)] [] 161 (I57, J, RF w) else z_go 41 [some (.ref 76)] [] 161 (I57, J, RF w)) (fun _ => rfl) ?_
        refine z_qI (fun _ => ?_) (fun q => absurd (by decide) q)
        refine z_qL ?_
        refine z_qG 2 (y := some (.inr (some (.int 0), 161, I57, J, RF w))) (fun _ => rfl) ?_
        exact z_qR (s_RQ_l hI c57 (by unfold s_read; rw [if_neg (not_not_intro hs56)]; rw [r57]; simp only; rw [if_pos hs58]) hp57)
  · have e56 := x_skipN E (d + 36) I0 J w 3 (mt (z_eqN c0.tok rfl (by omega) (by decide)).mp hs56)
    refine z_qK (v := .int 0) (z' := 161) (σ' := (I0, J, RF w)) e56 ?_
    refine z_qG 1 (y := if 0 = 0 then z_go 39 [some (.ref 76)] [] 161 (I0, J, RF w) else z_go 22 [some (.ref 76)] [] 161 (I0, J, RF w)) (fun _ => rfl) ?_
    refine z_qI (fun _ => ?_) (fun q => absurd (by decide) q)
    refine z_qL ?_
    refine z_qG 2 (y := some (.inr (some (.int 0), 161, I0, J, RF w))) (fun _ => rfl) ?_
    exact z_qR (s_RQ_l hI c0 (by unfold s_read; rw [if_pos hs56]) hp0)
