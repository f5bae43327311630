-- THE TWO READERS: chains
section SIMB
variable {b : Nat → Nat} {n : Nat} {fa : Nat → Int32}
def s_opk (l : Nat) (t : Nat) : Prop := s_near (s_mtk t) = l ∧ t ≠ 41 ∧ t ≠ 7 ∧ t ≠ 59 ∧ t ≠ 0 ∧ s_mtk t ≠ 14 ∧ s_mtk t ≠ 109 ∧ (∀ x y, s_jn (s_mtk t) x y = s_jc (nI t) x y) ∧ (-(nI t) < 0 ∧ ¬ (¬ -(-(nI t)) < 8 ∧ ¬ 13 < -(-(nI t))) ∧ ¬ (-(nI t) = -14 ∨ -(nI t) = -7) ∧ -(-(nI t)) = nI t)
theorem s_opk_wk {l t : Nat} (h : s_opk l t) (x y : Int32) (V : List Int32) : s_wk (s_mtk t) (y :: x :: V) = some (s_jc (nI t) x y :: V) := by
  show (if s_mtk t = 14 then _ else some (s_jn (s_mtk t) x y :: V)) = _
  rw [if_neg h.2.2.2.2.2.1, h.2.2.2.2.2.2.2.1]
theorem s_opk_ord {l t : Nat} (h : s_opk l t) (x y : Int32) (K : List Int32) : s_ord fa (-(nI t)) (y :: x :: K) = some (s_jc (nI t) x y :: K) := by
  obtain ⟨a1, a2, a3, a4⟩ := h.2.2.2.2.2.2.2.2
  unfold s_ord
  rw [if_neg (not_not_intro a1), if_neg a2, if_neg a3, a4]
theorem s_opk_c14 {l t : Nat} (h : s_opk l t) (R : List Int32) : s_c14 (R ++ [s_mtk t]) = s_c14 R := by
  rw [s_c14_app]
  show s_c14 R + ((if s_mtk t = 14 then 1 else 0) + 0) = _
  rw [if_neg h.2.2.2.2.2.1, Int32.add_zero, Int32.add_zero]
theorem s_Sim_lop {l lim l' lim' : Nat} {M : Bool → Nat → Prop} {Φ : Nat → List Int32 → Prop} {dp : Int32} {op : Nat → Bool} {X : zPS → Bool × zPS} (hX : s_Sim b n fa l' lim' M Φ dp X) (hG : s_gd n X) (hop : ∀ t, t ∈ z_tks → op t = true → s_opk l t) (hl : l ≤ l') (hlim : lim ≤ l) (hlim' : l < lim') (h4 : l ≠ 4) (h0 : 0 < l) (hM : ∀ p, M (decide (l < 3)) p) (hΦ : ∀ t R R', Φ t R → Φ t (R ++ R')) :
    ∀ f p C, 1 ≤ p → p ≤ n → n < p + f →
      (∀ p' C', s_lop b n op X f (p, C) = (true, (p', C')) → ∃ c, C' = C ++ c ∧ ∀ v, ∃ v', (∀ K, s_ex fa c (v :: K) = some (v' :: K)) ∧ ∀ S V R V1 mn, s_tpn S < lim → s_nom S → (∀ s, s ∈ R → l ≤ s_near s) → s_set R V1 = some (v :: V) → Φ (s_tok b n p) R → ∃ R' V' mn', s_Rch b n fa (p, R ++ S, V1, dp + s_c14 R, false, mn) (p', R' ++ S, V', dp + s_c14 R', false, mn') ∧ (∀ s, s ∈ R' → l ≤ s_near s) ∧ s_set R' V' = some (v' :: V) ∧ Φ (s_tok b n p') R' ∧ op (s_tok b n p') = false) ∧
      (∀ p' C', s_lop b n op X f (p, C) = (false, (p', C')) → ∀ v S V R V1 mn, s_tpn S < lim → s_nom S → (∀ s, s ∈ R → l ≤ s_near s) → s_set R V1 = some (v :: V) → Φ (s_tok b n p) R → s_Bad b n fa (p, R ++ S, V1, dp + s_c14 R, false, mn) p')
  | 0, p, C, h1, hp, hf => by omega
  | f + 1, p, C, h1, hp, hf => by
    by_cases q : op (s_tok b n p) = true
    · have ok := hop _ (s_tok_mem b n p) q
      obtain ⟨k1, k2, k3, k4, k5, k6, k7, _, _⟩ := ok
      have hgt := s_en_gt k5
      have hge := s_st_ge b n p
      have hen := s_en_le b hp
      -- the sign is taken
      have take : ∀ v S V R V1 mn, s_tpn S < lim → (∀ s, s ∈ R → l ≤ s_near s) → s_set R V1 = some (v :: V) → s_Rch b n fa (p, R ++ S, V1, dp + s_c14 R, false, mn) (s_en b n p, s_mtk (s_tok b n p) :: S, v :: V, dp, true, decide (l < 3)) := by
        intro v S V R V1 mn hS hR hV
        refine s_Rch_msg (R := (s_mtk (s_tok b n p) :: S, v :: V, dp, true, decide (l < 3))) k4 ?_
        unfold s_msg
        rw [if_neg k2, k1, if_neg (fun r => r.elim (fun r => by omega) k3), if_neg h4, s_wd_all hR hV, s_wd_stop (by omega)]
        show s_psh (s_tok b n p) (S, v :: V, dp) = _
        show (if s_near (s_mtk (s_tok b n p)) = 4 ∧ s_tpn S = 4 then some none else some (some (s_mtk (s_tok b n p) :: S, v :: V, dp, true, decide (s_near (s_mtk (s_tok b n p)) < 3)))) = _
        rw [k1, if_neg (fun r => h4 r.1)]
      have X1 := hX (s_en b n p) C (by omega) hen
      have g := hG (s_en b n p, C) hen
      rcases r : X (s_en b n p, C) with ⟨okk, p2, C2⟩
      rw [r] at g
      simp only at g
      cases okk
      · rw [s_lop_bad q r]
        refine ⟨fun p' C' e => by simp at e, ?_⟩
        intro p' C' e v S V R V1 mn hS hN hR hV _
        have e' : p2 = p' := by simp at e; exact e.1
        subst e'
        exact s_Bad_of (take v S V R V1 mn hS hR hV) (X1.2 _ _ r _ _ _ (show s_near (s_mtk (s_tok b n p)) < lim' by rw [k1]; exact hlim') k7 (hM _))
      · rw [s_lop_ok q r]
        obtain ⟨c2, v2, ec, ex2, sim2⟩ := X1.1 _ _ r
        have ih := s_Sim_lop hX hG hop hl hlim hlim' h4 h0 hM hΦ f p2 (C2 ++ [-(nI (s_tok b n p))]) (by omega) g.2.1 (by omega)
        have nxt : ∀ v S V R V1 mn, s_tpn S < lim → (∀ s, s ∈ R → l ≤ s_near s) → s_set R V1 = some (v :: V) → ∃ R2 V2 mn2, s_Rch b n fa (p, R ++ S, V1, dp + s_c14 R, false, mn) (p2, (R2 ++ [s_mtk (s_tok b n p)]) ++ S, V2, dp + s_c14 (R2 ++ [s_mtk (s_tok b n p)]), false, mn2) ∧ (∀ s, s ∈ R2 ++ [s_mtk (s_tok b n p)] → l ≤ s_near s) ∧ s_set (R2 ++ [s_mtk (s_tok b n p)]) V2 = some (s_jc (nI (s_tok b n p)) v v2 :: V) ∧ Φ (s_tok b n p2) (R2 ++ [s_mtk (s_tok b n p)]) := by
          intro v S V R V1 mn hS hR hV
          obtain ⟨R2, V2, mn2, a1, a2, a3, a4⟩ := sim2 (s_mtk (s_tok b n p) :: S) (v :: V) (decide (l < 3)) (show s_near (s_mtk (s_tok b n p)) < lim' by rw [k1]; exact hlim') k7 (hM _)
          refine ⟨R2, V2, mn2, ?_, ?_, ?_, hΦ _ _ _ a4⟩
          · rw [s_opk_c14 (hop _ (s_tok_mem b n p) q), List.append_assoc]
            exact s_Rch_trans (take v S V R V1 mn hS hR hV) a1
          · intro s hs
            rcases List.mem_append.mp hs with hs | hs
            · exact Nat.le_trans hl (a2 s hs)
            · rw [List.mem_singleton.mp hs, k1]; exact Nat.le_refl _
          · rw [s_set_app, a3]
            show (s_wk (s_mtk (s_tok b n p)) (v2 :: v :: V)).bind (s_set []) = _
            rw [s_opk_wk (hop _ (s_tok_mem b n p) q)]
            rfl
        refine ⟨?_, ?_⟩
        · intro p' C' e
          obtain ⟨c3, ec3, sim3⟩ := ih.1 _ _ e
          refine ⟨c2 ++ ([-(nI (s_tok b n p))] ++ c3), by rw [ec3, ec]; simp, ?_⟩
          intro v
          obtain ⟨v', ex3, fin⟩ := sim3 (s_jc (nI (s_tok b n p)) v v2)
          refine ⟨v', ?_, ?_⟩
          · intro K
            rw [s_ex_app, ex2]
            show s_ex fa ([-(nI (s_tok b n p))] ++ c3) (v2 :: v :: K) = _
            show (s_ord fa (-(nI (s_tok b n p))) (v2 :: v :: K)).bind (s_ex fa c3) = _
            rw [s_opk_ord (hop _ (s_tok_mem b n p) q)]
            exact ex3 K
          · intro S V R V1 mn hS hN hR hV _
            obtain ⟨R2, V2, mn2, a1, a2, a3, a4⟩ := nxt v S V R V1 mn hS hR hV
            obtain ⟨R', V', mn', b1, b2, b3, b4, b5⟩ := fin S V _ V2 mn2 hS hN a2 a3 a4
            exact ⟨R', V', mn', s_Rch_trans a1 b1, b2, b3, b4, b5⟩
        · intro p' C' e v S V R V1 mn hS hN hR hV _
          obtain ⟨R2, V2, mn2, a1, a2, a3, a4⟩ := nxt v S V R V1 mn hS hR hV
          exact s_Bad_of a1 (ih.2 _ _ e _ S V _ V2 mn2 hS hN a2 a3 a4)
    · have q' : op (s_tok b n p) = false := by cases h : op (s_tok b n p) with
        | false => rfl
        | true => exact absurd h q
      rw [s_lop_no q']
      refine ⟨?_, fun p' C' e => by simp at e⟩
      intro p' C' e
      simp at e
      obtain ⟨e1, e2⟩ := e
      subst e1 e2
      refine ⟨[], by simp, fun v => ⟨v, fun K => rfl, ?_⟩⟩
      intro S V R V1 mn hS hN hR hV hp
      exact ⟨R, V1, mn, s_Rch_refl _, hR, hV, hp, q'⟩
theorem s_Sim_bin {l lim l' lim' : Nat} {M : Bool → Nat → Prop} {Φ : Nat → List Int32 → Prop} {dp : Int32} {op : Nat → Bool} {X : zPS → Bool × zPS} (hn : n ≤ 160) (hX : s_Sim b n fa l' lim' M Φ dp X) (hG : s_gd n X) (hop : ∀ t, t ∈ z_tks → op t = true → s_opk l t) (hl : l ≤ l') (hlim : lim ≤ l) (hlim' : l < lim') (h4 : l ≠ 4) (h0 : 0 < l) (hM : ∀ p, M (decide (l < 3)) p) (hΦ : ∀ t R R', Φ t R → Φ t (R ++ R')) : s_Sim b n fa l lim M (fun t R => Φ t R ∧ op t = false) dp (s_bin b n op X) := by
  intro p C h1 hp
  have X1 := hX p C h1 hp
  have g := hG (p, C) hp
  rcases r : X (p, C) with ⟨okk, p2, C2⟩
  rw [r] at g
  simp only at g
  cases okk
  · rw [s_bin_bad r]
    refine ⟨fun p' C' e => by simp at e, ?_⟩
    intro p' C' e S V mn hS hN hm
    have e' : p2 = p' := by simp at e; exact e.1
    subst e'
    exact X1.2 _ _ r S V mn (by omega) hN hm
  · rw [s_bin_ok r]
    obtain ⟨c, v, ec, ex, sim⟩ := X1.1 _ _ r
    have L := s_Sim_lop hX hG hop hl hlim hlim' h4 h0 hM hΦ 160 p2 C2 (by omega) g.2.1 (by omega)
    refine ⟨?_, ?_⟩
    · intro p' C' e
      obtain ⟨c3, ec3, sim3⟩ := L.1 _ _ e
      obtain ⟨v', ex3, fin⟩ := sim3 v
      refine ⟨c ++ c3, v', by rw [ec3, ec, List.append_assoc], ?_, ?_⟩
      · intro K
        rw [s_ex_app, ex]
        exact ex3 K
      · intro S V mn hS hN hm
        obtain ⟨R, V1, mn1, a1, a2, a3, a4⟩ := sim S V mn (by omega) hN hm
        obtain ⟨R', V', mn', b1, b2, b3, b4, b5⟩ := fin S V R V1 mn1 hS hN (fun s hs => Nat.le_trans hl (a2 s hs)) a3 a4
        exact ⟨R', V', mn', s_Rch_trans a1 b1, b2, b3, b4, b5⟩
    · intro p' C' e S V mn hS hN hm
      obtain ⟨R, V1, mn1, a1, a2, a3, a4⟩ := sim S V mn (by omega) hN hm
      exact s_Bad_of a1 (L.2 _ _ e v S V R V1 mn1 hS hN (fun s hs => Nat.le_trans hl (a2 s hs)) a3 a4)
theorem s_opk42 : s_opk 6 42 := ⟨by decide, by decide, by decide, by decide, by decide, by decide, by decide, fun x y => rfl, by decide⟩
theorem s_opk43 : s_opk 5 43 := ⟨by decide, by decide, by decide, by decide, by decide, by decide, by decide, fun x y => rfl, by decide⟩
theorem s_opk45 : s_opk 5 45 := ⟨by decide, by decide, by decide, by decide, by decide, by decide, by decide, fun x y => rfl, by decide⟩
theorem s_opk6 : s_opk 2 6 := ⟨by decide, by decide, by decide, by decide, by decide, by decide, by decide, fun x y => rfl, by decide⟩
theorem s_opk5 : s_opk 1 5 := ⟨by decide, by decide, by decide, by decide, by decide, by decide, by decide, fun x y => rfl, by decide⟩
theorem s_opk60 : s_opk 4 60 := ⟨by decide, by decide, by decide, by decide, by decide, by decide, by decide, fun x y => rfl, by decide⟩
theorem s_opk61 : s_opk 4 61 := ⟨by decide, by decide, by decide, by decide, by decide, by decide, by decide, fun x y => rfl, by decide⟩
end SIMB
