-- THE TWO READERS: NOT, ONE, all
section SIMC
variable {b : Nat → Nat} {n : Nat} {fa : Nat → Int32}
def s_MO (b : Nat → Nat) (n : Nat) : Bool → Nat → Prop := fun mn p => s_tok b n p = 7 → mn = false
def s_MT : Bool → Nat → Prop := fun mn _ => mn = true
def s_ΦS : Nat → List Int32 → Prop := fun t R => ((True ∧ (t == 42) = false) ∧ (t == 43 || t == 45) = false)
def s_cmp (R : List Int32) : Prop := ∃ R1 s R2, R = R1 ++ s :: R2 ∧ (∀ x, x ∈ R1 → 5 ≤ s_near x) ∧ s_near s = 4
def s_ΦN : Nat → List Int32 → Prop := fun t R => ((t == 42) = false ∧ (t == 43 || t == 45) = false) ∧ (t = 60 ∨ t = 61 → s_cmp R)
def s_ΦE : Nat → List Int32 → Prop := fun t R => (s_ΦN t R ∧ (t == 6) = false) ∧ (t == 5) = false
theorem s_cmp_app {R R' : List Int32} (h : s_cmp R) : s_cmp (R ++ R') := by
  obtain ⟨R1, s, R2, e, h1, h2⟩ := h
  exact ⟨R1, s, R2 ++ R', by rw [e]; simp, h1, h2⟩
theorem s_Sim_sum {dp : Int32} {X : zPS → Bool × zPS} (hn : n ≤ 160) (h : s_SimO b n fa dp X) (hG : s_gd n X) : s_Sim b n fa 5 5 (s_MO b n) s_ΦS dp (s_sum b n X) := by
  have t := s_Sim_bin (op := fun t => t == 42) (l := 6) (lim := 6) hn (s_Sim_O h) hG (by
    intro t _ q; rw [beq_iff_eq.mp q]; exact s_opk42) (by decide) (by decide) (by decide) (by decide) (by decide) (fun p _ => rfl) (fun _ _ _ _ => trivial)
  exact s_Sim_bin (op := fun t => t == 43 || t == 45) (l := 5) (lim := 5) hn t (s_gd_bin rfl hG) (by
    intro t _ q
    rcases Bool.or_eq_true _ _ ▸ q with q | q
    · rw [beq_iff_eq.mp q]; exact s_opk43
    · rw [beq_iff_eq.mp q]; exact s_opk45) (by decide) (by decide) (by decide) (by decide) (by decide) (fun p _ => rfl) (fun _ _ _ h => h)
theorem s_Sim_exp {dp : Int32} {X : zPS → Bool × zPS} (hn : n ≤ 160) (h : s_Sim b n fa 3 4 s_MT s_ΦN dp X) (hG : s_gd n X) : s_Sim b n fa 1 1 s_MT s_ΦE dp (s_exp b n X) := by
  have t := s_Sim_bin (op := fun t => t == 6) (l := 2) (lim := 2) hn h hG (by
    intro t _ q; rw [beq_iff_eq.mp q]; exact s_opk6) (by decide) (by decide) (by decide) (by decide) (by decide) (fun p => rfl) (fun t R R' h => ⟨h.1, fun q => s_cmp_app (h.2 q)⟩)
  exact s_Sim_bin (op := fun t => t == 5) (l := 1) (lim := 1) hn t (s_gd_bin rfl hG) (by
    intro t _ q; rw [beq_iff_eq.mp q]; exact s_opk5) (by decide) (by decide) (by decide) (by decide) (by decide) (fun p => rfl) (fun t R R' h => ⟨⟨h.1.1, fun q => s_cmp_app (h.1.2 q)⟩, h.2⟩)
theorem s_Sim_not {dp : Int32} {r : Bool} {nt sm : zPS → Bool × zPS} (hS : s_Sim b n fa 5 5 (s_MO b n) s_ΦS dp sm) (hG : s_gd n sm) (hr : r = true → s_Sim b n fa 3 4 s_MT s_ΦN (dp + 1) nt ∧ dp ≠ 5) (h0 : r = false → dp = 5) : s_Sim b n fa 3 4 s_MT s_ΦN dp (s_not b n r nt sm) := by
  intro p C h1 hp
  by_cases q : s_tok b n p = 7
  · have hgt := s_en_gt (b := b) (n := n) (p := p) (by rw [q]; decide)
    have hge := s_st_ge b n p
    cases r
    · rw [s_not3 q]
      refine ⟨fun p' C' e => by simp at e, ?_⟩
      intro p' C' e S V mn _ _ _
      have e' : p = p' := by simp at e; exact e.1
      subst e'
      refine s_Bad_mo ?_
      unfold s_mo
      by_cases c : s_tok b n p = 40 ∨ s_tok b n p = 45 ∨ (s_tok b n p = 7 ∧ mn = true)
      · rw [if_pos c, if_pos (h0 rfl)]
      · rw [if_neg c, if_neg (by omega)]
    · obtain ⟨hN, h5⟩ := hr rfl
      have take : ∀ S V, s_Rch b n fa (p, S, V, dp, true, true) (s_en b n p, 14 :: S, V, dp + 1, true, true) := by
        intro S V
        refine s_Rch_mo (R := (14 :: S, V, dp + 1, true, true)) ?_
        unfold s_mo
        rw [if_pos (.inr (.inr ⟨q, rfl⟩)), if_neg h5, q]
        rfl
      have X1 := hN (s_en b n p) C (by omega) (s_en_le b hp)
      rcases e : nt (s_en b n p, C) with ⟨okk, p2, C2⟩
      cases okk
      · rw [s_not2 q e]
        refine ⟨fun p' C' e => by simp at e, ?_⟩
        intro p' C' e' S V mn hS' hN' hm
        have e'' : p2 = p' := by simp at e'; exact e'.1
        subst e''
        change mn = true at hm
        subst hm
        exact s_Bad_of (take S V) (X1.2 _ _ e _ _ _ (show s_near 14 < 4 by decide) (show (14 : Int32) ≠ 109 by decide) rfl)
      · rw [s_not1 q e]
        obtain ⟨c, v, ec, ex, sim⟩ := X1.1 _ _ e
        refine ⟨?_, fun p' C' e => by simp at e⟩
        intro p' C' e'
        simp at e'
        obtain ⟨e1, e2⟩ := e'
        subst e1 e2
        refine ⟨c ++ [-7], if v = 0 then 1 else 0, by rw [ec, List.append_assoc], ?_, ?_⟩
        · intro K; rw [s_ex_app, ex]; rfl
        · intro S V mn hS' hN' hm
          change mn = true at hm
          subst hm
          obtain ⟨R, V', mn', a1, a2, a3, a4⟩ := sim (14 :: S) V true (show s_near 14 < 4 by decide) (show (14 : Int32) ≠ 109 by decide) rfl
          refine ⟨R ++ [14], V', mn', ?_, ?_, ?_, a4.1, fun x => s_cmp_app (a4.2 x)⟩
          · rw [s_c14_app, List.append_assoc]
            refine s_Rch_trans (take S V) ?_
            show s_Rch b n fa _ (p2, R ++ 14 :: S, V', dp + (s_c14 R + (1 + 0)), false, mn')
            rw [show dp + (s_c14 R + (1 + 0)) = dp + 1 + s_c14 R by grind]
            exact a1
          · intro s hs
            rcases List.mem_append.mp hs with hs | hs
            · exact a2 s hs
            · rw [List.mem_singleton.mp hs]; decide
          · rw [s_set_app, a3]; rfl
  · have X1 := hS p C h1 hp
    have g := hG (p, C) hp
    rcases e : sm (p, C) with ⟨okk, p1, C1⟩
    rw [e] at g
    simp only at g
    cases okk
    · rw [s_not4 q e]
      refine ⟨fun p' C' e => by simp at e, ?_⟩
      intro p' C' e' S V mn hS' hN' hm
      have e'' : p1 = p' := by simp at e'; exact e'.1
      subst e''
      exact X1.2 _ _ e S V mn (by omega) hN' (fun x => absurd x q)
    · obtain ⟨c, v, ec, ex, sim⟩ := X1.1 _ _ e
      by_cases t : s_tok b n p1 = 60 ∨ s_tok b n p1 = 61
      · have ok : s_opk 4 (s_tok b n p1) := by
          rcases t with t | t
          · rw [t]; exact s_opk60
          · rw [t]; exact s_opk61
        obtain ⟨k1, k2, k3, k4, k5, k6, k7, _, _⟩ := ok
        have hgt := s_en_gt k5
        have hge := s_st_ge b n p1
        have take : ∀ S V mn, s_tpn S < 4 → s_nom S → ∃ R V1 mn1, s_set R V1 = some (v :: V) ∧ s_Rch b n fa (p, S, V, dp, true, mn) (p1, R ++ S, V1, dp + s_c14 R, false, mn1) ∧ s_Rch b n fa (p1, R ++ S, V1, dp + s_c14 R, false, mn1) (s_en b n p1, s_mtk (s_tok b n p1) :: S, v :: V, dp, true, false) := by
          intro S V mn hS' hN'
          obtain ⟨R, V1, mn1, a1, a2, a3, a4⟩ := sim S V mn (by omega) hN' (fun x => absurd x q)
          refine ⟨R, V1, mn1, a3, a1, ?_⟩
          refine s_Rch_msg (R := (s_mtk (s_tok b n p1) :: S, v :: V, dp, true, false)) k4 ?_
          unfold s_msg
          rw [if_neg k2, k1, if_neg (fun r => r.elim (fun r => by omega) k3), if_pos rfl, s_wd_all a2 a3, s_wd_stop (by omega)]
          show (if s_near (s_mtk (s_tok b n p1)) = 4 ∧ s_tpn S = 4 then some none else some (some (s_mtk (s_tok b n p1) :: S, v :: V, dp, true, decide (s_near (s_mtk (s_tok b n p1)) < 3)))) = _
          rw [k1, if_neg (fun r => by omega)]
          rfl
        have X2 := hS (s_en b n p1) C1 (by omega) (s_en_le b g.2.1)
        rcases e2 : sm (s_en b n p1, C1) with ⟨okk2, p2, C2⟩
        cases okk2
        · rw [s_not6 q e t e2]
          refine ⟨fun p' C' e => by simp at e, ?_⟩
          intro p' C' e' S V mn hS' hN' hm
          have e'' : p2 = p' := by simp at e'; exact e'.1
          subst e''
          obtain ⟨R, V1, mn1, _, a1, a2⟩ := take S V mn hS' hN'
          exact s_Bad_of (s_Rch_trans a1 a2) (X2.2 _ _ e2 _ _ _ (show s_near (s_mtk (s_tok b n p1)) < 5 by omega) k7 (fun _ => rfl))
        · rw [s_not7 q e t e2]
          obtain ⟨c2, v2, ec2, ex2, sim2⟩ := X2.1 _ _ e2
          refine ⟨?_, fun p' C' e => by simp at e⟩
          intro p' C' e'
          simp at e'
          obtain ⟨e1, e3⟩ := e'
          subst e1 e3
          have ok : s_opk 4 (s_tok b n p1) := by
            rcases t with t | t
            · rw [t]; exact s_opk60
            · rw [t]; exact s_opk61
          refine ⟨c ++ (c2 ++ [-(nI (s_tok b n p1))]), s_jc (nI (s_tok b n p1)) v v2, by rw [ec2, ec]; simp, ?_, ?_⟩
          · intro K
            rw [s_ex_app, ex]
            show s_ex fa (c2 ++ [-(nI (s_tok b n p1))]) (v :: K) = _
            rw [s_ex_app, ex2]
            show (s_ord fa (-(nI (s_tok b n p1))) (v2 :: v :: K)).bind (s_ex fa []) = _
            rw [s_opk_ord ok]
            rfl
          · intro S V mn hS' hN' hm
            obtain ⟨R, V1, mn1, _, a1, a2⟩ := take S V mn hS' hN'
            obtain ⟨R2, V2, mn2, b1, b2, b3, b4⟩ := sim2 (s_mtk (s_tok b n p1) :: S) (v :: V) false (show s_near (s_mtk (s_tok b n p1)) < 5 by omega) k7 (fun _ => rfl)
            refine ⟨R2 ++ [s_mtk (s_tok b n p1)], V2, mn2, ?_, ?_, ?_, ⟨b4.1.2, b4.2⟩, fun _ => ⟨R2, s_mtk (s_tok b n p1), [], rfl, b2, k1⟩⟩
            · rw [s_opk_c14 ok, List.append_assoc]
              exact s_Rch_trans a1 (s_Rch_trans a2 b1)
            · intro s hs
              rcases List.mem_append.mp hs with hs | hs
              · exact Nat.le_trans (by decide) (b2 s hs)
              · rw [List.mem_singleton.mp hs, k1]; decide
            · rw [s_set_app, b3]
              show (s_wk (s_mtk (s_tok b n p1)) (v2 :: v :: V)).bind (s_set []) = _
              rw [s_opk_wk ok]
              rfl
      · rw [s_not5 q e (fun x => t (.inl x)) (fun x => t (.inr x))]
        refine ⟨?_, fun p' C' e => by simp at e⟩
        intro p' C' e'
        simp at e'
        obtain ⟨e1, e3⟩ := e'
        subst e1 e3
        refine ⟨c, v, ec, ex, ?_⟩
        intro S V mn hS' hN' hm
        obtain ⟨R, V1, mn1, a1, a2, a3, a4⟩ := sim S V mn (by omega) hN' (fun x => absurd x q)
        exact ⟨R, V1, mn1, a1, fun s hs => Nat.le_trans (by decide) (a2 s hs), a3, ⟨a4.1.2, a4.2⟩, fun x => absurd x t⟩
/-- where an expression has ended, nothing else can stand -/
theorem s_endBad {p : Nat} {S R V1 V : List Int32} {v dp : Int32} {mn : Bool} (hS : S = [] ∨ ∃ S', S = 40 :: S') (hR : ∀ s, s ∈ R → 1 ≤ s_near s) (hV : s_set R V1 = some (v :: V)) (hΦ : s_ΦE (s_tok b n p) R) (h41 : s_tok b n p = 41 → S = []) (h59 : s_tok b n p = 59 → S ≠ []) : s_Bad b n fa (p, R ++ S, V1, dp + s_c14 R, false, mn) p := by
  have tpn : s_tpn S < 1 := by
    rcases hS with r | ⟨S', r⟩
    · rw [r]; decide
    · rw [r]; show s_near 40 < 1; decide
  have wd1 : s_wd 1 (R ++ S) V1 (dp + s_c14 R) = some (S, v :: V, dp) := by rw [s_wd_all hR hV, s_wd_stop tpn]
  by_cases c : s_tok b n p = 59
  · rcases hS with r | ⟨S', r⟩
    · exact absurd r (h59 c)
    · refine ⟨1, fun f => ?_⟩
      show (s_mrun b n fa (f + 1) p (R ++ S) V1 (dp + s_c14 R) false mn).bind s_fin = _
      rw [s_mrun_e _ _ _ _ _ _ c]
      show s_fin (.inr (p, R ++ S, V1, dp + s_c14 R)) = _
      subst r
      simp only [s_fin, wd1]
  · refine s_Bad_msg c ?_
    unfold s_msg
    by_cases c41 : s_tok b n p = 41
    · rw [if_pos c41, wd1, h41 c41]; rfl
    · rw [if_neg c41]
      by_cases c0 : s_near (s_mtk (s_tok b n p)) = 0 ∨ s_tok b n p = 7
      · rw [if_pos c0]
      · rw [if_neg c0]
        have z : ∀ t, t ∈ z_tks → (t == 42) = false → (t == 43 || t == 45) = false → (t == 6) = false → (t == 5) = false → ¬ (s_near (s_mtk t) = 0 ∨ t = 7) → (t = 60 ∨ t = 61) ∧ s_near (s_mtk t) = 4 := by decide
        obtain ⟨z1, z2⟩ := z _ (s_tok_mem b n p) hΦ.1.1.1.1 hΦ.1.1.1.2 hΦ.1.2 hΦ.2 c0
        obtain ⟨R1, s, R2, e, g1, g2⟩ := hΦ.1.1.2 z1
        rw [if_pos z2]
        have hv : ∃ V2, s_set R1 V1 = some V2 := by
          rw [e, s_set_app] at hV
          cases h : s_set R1 V1 with
          | none => rw [h] at hV; cases hV
          | some V2 => exact ⟨V2, rfl⟩
        obtain ⟨V2, hv⟩ := hv
        rw [e, s_c14_app, List.append_assoc, show dp + (s_c14 R1 + s_c14 (s :: R2)) = (dp + s_c14 (s :: R2)) + s_c14 R1 by grind, s_wd_all g1 hv, s_wd_stop (show s_near s < 5 by omega)]
        show (if s_near (s_mtk (s_tok b n p)) = 4 ∧ s_near s = 4 then some none else _) = _
        rw [if_pos ⟨z2, g2⟩]
theorem s_dec_nat {k : Nat} {s : Nat} (h : ∀ j, j < k → s_dg b (s + j) = true) : ∃ v, v < 10 ^ k ∧ s_dec b s k = nI v := by
  induction k with
  | zero => exact ⟨0, by decide, rfl⟩
  | succ k ih =>
    obtain ⟨v, h1, h2⟩ := ih (fun j hj => h j (by omega))
    have d := of_decide_eq_true (h k (by omega))
    refine ⟨v * 10 + (b (s + k) - 48), by rw [Nat.pow_succ]; omega, ?_⟩
    show s_dec b s k * 10 + nI (b (s + k)) - 48 = _
    rw [h2]
    have e1 : nI v * 10 = nI (v * 10) := z_mul v 10
    rw [e1, nI_add]
    exact (z_subE (b := 48) rfl rfl (by omega)).trans (by congr 1; omega)
theorem s_num_nat {p : Nat} (h : s_tok b n p = 2) : ∃ v, v < 10000 ∧ s_num b n p = nI v := by
  unfold s_tok at h
  unfold s_num
  by_cases hz : n ≤ s_st b n p
  · rw [if_pos hz] at h; cases h
  · rw [if_neg hz] at h
    by_cases hd : s_dg b (s_st b n p) = true
    · rw [if_pos hd] at h
      by_cases h4 : 4 < s_rn (s_dg b) n (s_st b n p)
      · rw [if_pos h4] at h; cases h
      · obtain ⟨v, h1, h2⟩ := s_dec_nat (b := b) (k := s_rn (s_dg b) n (s_st b n p)) (s := s_st b n p) (fun j hj => (s_rn_lt hj).2)
        have : 10 ^ s_rn (s_dg b) n (s_st b n p) ≤ 10 ^ 4 := Nat.pow_le_pow_right (by decide) (by omega)
        exact ⟨v, by omega, h2⟩
    · rw [if_neg hd] at h
      exfalso
      by_cases ha : s_al b (s_st b n p) = true
      · rw [if_pos ha] at h
        revert h
        cases s_first (s_isw b (s_st b n p) (s_st b n p + s_rn (s_al b) n (s_st b n p))) 11 with
        | none => intro h; cases h
        | some k => intro h; change 3 + k = 2 at h; omega
      · rw [if_neg ha] at h
        by_cases hg : s_sg (b (s_st b n p)) = true
        · rw [if_pos hg] at h; rw [h] at hg; cases hg
        · rw [if_neg hg] at h; cases h
theorem s_SimO_one {dp : Int32} {r : Bool} {ex on : zPS → Bool × zPS} (hr : r = true → s_Sim b n fa 1 1 s_MT s_ΦE (dp + 1) ex ∧ s_gd n ex ∧ s_SimO b n fa (dp + 1) on ∧ dp ≠ 5) (h0 : r = false → dp = 5) : s_SimO b n fa dp (s_one b n r ex on) := by
  intro p C h1 hp
  have hge := s_st_ge b n p
  have back : dp + 1 - 1 = dp := by grind
  by_cases q : s_tok b n p = 40
  · have hgt := s_en_gt (b := b) (n := n) (p := p) (by rw [q]; decide)
    cases r
    · rw [s_one4 q]
      refine ⟨fun p' C' e => by simp at e, ?_⟩
      intro p' C' e S V mn _
      have e' : p = p' := by simp at e; exact e.1
      subst e'
      refine s_Bad_mo ?_
      unfold s_mo
      rw [if_pos (.inl q), if_pos (h0 rfl)]
    · obtain ⟨hE, gE, _, h5⟩ := hr rfl
      have take : ∀ S V mn, s_Rch b n fa (p, S, V, dp, true, mn) (s_en b n p, 40 :: S, V, dp + 1, true, true) := by
        intro S V mn
        refine s_Rch_mo (R := (40 :: S, V, dp + 1, true, true)) ?_
        unfold s_mo
        rw [if_pos (.inl q), if_neg h5, q]
        rfl
      have X1 := hE (s_en b n p) C (by omega) (s_en_le b hp)
      have g := gE (s_en b n p, C) (s_en_le b hp)
      rcases e : ex (s_en b n p, C) with ⟨okk, p1, C1⟩
      rw [e] at g
      simp only at g
      cases okk
      · rw [s_one3 q e]
        refine ⟨fun p' C' e => by simp at e, ?_⟩
        intro p' C' e' S V mn _
        have e'' : p1 = p' := by simp at e'; exact e'.1
        subst e''
        exact s_Bad_of (take S V mn) (X1.2 _ _ e _ _ _ (show s_near 40 < 1 by decide) (show (40 : Int32) ≠ 109 by decide) rfl)
      · obtain ⟨c, v, ec, exx, sim⟩ := X1.1 _ _ e
        by_cases t : s_tok b n p1 = 41
        · rw [s_one1 q e t]
          refine ⟨?_, fun p' C' e => by simp at e⟩
          intro p' C' e'
          simp at e'
          obtain ⟨e1, e3⟩ := e'
          subst e1 e3
          refine ⟨c, v, ec, exx, ?_⟩
          intro S V mn _
          obtain ⟨R, V1, mn1, a1, a2, a3, a4⟩ := sim (40 :: S) V true (show s_near 40 < 1 by decide) (show (40 : Int32) ≠ 109 by decide) rfl
          refine ⟨mn1, s_Rch_trans (take S V mn) (s_Rch_trans a1 ?_)⟩
          refine s_Rch_msg (R := ((s_oe S (v :: V) dp).1, (s_oe S (v :: V) dp).2.1, (s_oe S (v :: V) dp).2.2, false, mn1)) (by rw [t]; decide) ?_
          unfold s_msg
          rw [if_pos t, s_wd_all a2 a3, s_wd_stop (show s_near 40 < 1 by decide)]
          show (if (40 : Int32) = 40 then some (some ((s_oe S (v :: V) (dp + 1 - 1)).1, (s_oe S (v :: V) (dp + 1 - 1)).2.1, (s_oe S (v :: V) (dp + 1 - 1)).2.2, false, mn1)) else some none) = _
          rw [if_pos rfl, back]
        · rw [s_one2 q e t]
          refine ⟨fun p' C' e => by simp at e, ?_⟩
          intro p' C' e' S V mn _
          have e'' : p1 = p' := by simp at e'; exact e'.1
          subst e''
          obtain ⟨R, V1, mn1, a1, a2, a3, a4⟩ := sim (40 :: S) V true (show s_near 40 < 1 by decide) (show (40 : Int32) ≠ 109 by decide) rfl
          exact s_Bad_of (s_Rch_trans (take S V mn) a1) (s_endBad (.inr ⟨S, rfl⟩) a2 a3 a4 (fun x => absurd x t) (fun _ x => by cases x))
  · by_cases q2 : s_tok b n p = 45
    · have hgt := s_en_gt (b := b) (n := n) (p := p) (by rw [q2]; decide)
      cases r
      · rw [s_one7 q2]
        refine ⟨fun p' C' e => by simp at e, ?_⟩
        intro p' C' e S V mn _
        have e' : p = p' := by simp at e; exact e.1
        subst e'
        refine s_Bad_mo ?_
        unfold s_mo
        rw [if_pos (.inr (.inl q2)), if_pos (h0 rfl)]
      · obtain ⟨_, _, hO, h5⟩ := hr rfl
        have take : ∀ S V mn, s_Rch b n fa (p, S, V, dp, true, mn) (s_en b n p, 109 :: S, V, dp + 1, true, false) := by
          intro S V mn
          refine s_Rch_mo (R := (109 :: S, V, dp + 1, true, false)) ?_
          unfold s_mo
          rw [if_pos (.inr (.inl q2)), if_neg h5, if_pos q2, q2]
          rfl
        have X1 := hO (s_en b n p) C (by omega) (s_en_le b hp)
        rcases e : on (s_en b n p, C) with ⟨okk, p1, C1⟩
        cases okk
        · rw [s_one6 q2 e]
          refine ⟨fun p' C' e => by simp at e, ?_⟩
          intro p' C' e' S V mn _
          have e'' : p1 = p' := by simp at e'; exact e'.1
          subst e''
          exact s_Bad_of (take S V mn) (X1.2 _ _ e _ _ _ (fun _ => rfl))
        · rw [s_one5 q2 e]
          obtain ⟨c, v, ec, exx, sim⟩ := X1.1 _ _ e
          refine ⟨?_, fun p' C' e => by simp at e⟩
          intro p' C' e'
          simp at e'
          obtain ⟨e1, e3⟩ := e'
          subst e1 e3
          refine ⟨c ++ [-14], -v, by rw [ec, List.append_assoc], ?_, ?_⟩
          · intro K; rw [s_ex_app, exx]; rfl
          · intro S V mn _
            obtain ⟨mn1, a1⟩ := sim (109 :: S) V false (fun _ => rfl)
            refine ⟨mn1, s_Rch_trans (take S V mn) ?_⟩
            have o : s_oe (109 :: S) (v :: V) (dp + 1) = s_oe S (-v :: V) (dp + 1 - 1) := if_pos rfl
            rw [o, back] at a1
            exact a1
    · have nc : ∀ mn : Bool, (s_tok b n p = 7 → mn = false) → ¬ (s_tok b n p = 40 ∨ s_tok b n p = 45 ∨ (s_tok b n p = 7 ∧ mn = true)) := by
        intro mn h x
        rcases x with x | x | x
        · exact q x
        · exact q2 x
        · rw [h x.1] at x; exact Bool.false_ne_true x.2
      by_cases q3 : s_tok b n p = 2
      · rw [s_one8 q3]
        refine ⟨?_, fun p' C' e => by simp at e⟩
        intro p' C' e'
        simp at e'
        obtain ⟨e1, e3⟩ := e'
        subst e1 e3
        obtain ⟨v, hv1, hv2⟩ := s_num_nat (b := b) (n := n) q3
        refine ⟨[s_num b n p], s_num b n p, rfl, ?_, ?_⟩
        · intro K
          show (s_ord fa (s_num b n p) K).bind (s_ex fa []) = _
          unfold s_ord
          rw [if_pos (by rw [hv2]; exact nI_pos (by omega))]
          rfl
        · intro S V mn hm
          refine ⟨mn, s_Rch_mo (R := ((s_oe S (s_num b n p :: V) dp).1, (s_oe S (s_num b n p :: V) dp).2.1, (s_oe S (s_num b n p :: V) dp).2.2, false, mn)) ?_⟩
          unfold s_mo
          rw [if_neg (nc mn hm), if_pos (.inl q3), show s_xv fa b n p = s_num b n p from if_pos q3]
      · by_cases q4 : 8 ≤ s_tok b n p ∧ s_tok b n p ≤ 13
        · rw [s_one9 q4.1 q4.2]
          refine ⟨?_, fun p' C' e => by simp at e⟩
          intro p' C' e'
          simp at e'
          obtain ⟨e1, e3⟩ := e'
          subst e1 e3
          refine ⟨[-(nI (s_tok b n p))], fa (s_tok b n p - 8), rfl, ?_, ?_⟩
          · intro K
            show (s_ord fa (-(nI (s_tok b n p))) K).bind (s_ex fa []) = _
            rcases (by omega : s_tok b n p = 8 ∨ s_tok b n p = 9 ∨ s_tok b n p = 10 ∨ s_tok b n p = 11 ∨ s_tok b n p = 12 ∨ s_tok b n p = 13) with h | h | h | h | h | h <;> rw [h] <;> rfl
          · intro S V mn hm
            refine ⟨mn, s_Rch_mo (R := ((s_oe S (fa (s_tok b n p - 8) :: V) dp).1, (s_oe S (fa (s_tok b n p - 8) :: V) dp).2.1, (s_oe S (fa (s_tok b n p - 8) :: V) dp).2.2, false, mn)) ?_⟩
            unfold s_mo
            rw [if_neg (nc mn hm), if_pos (.inr q4), show s_xv fa b n p = fa (s_tok b n p - 8) from if_neg q3]
        · rw [s_one10 q q2 q3 q4]
          refine ⟨fun p' C' e => by simp at e, ?_⟩
          intro p' C' e S V mn hm
          have e' : p = p' := by simp at e; exact e.1
          subst e'
          refine s_Bad_mo ?_
          unfold s_mo
          rw [if_neg (nc mn hm), if_neg (fun x => x.elim q3 q4)]
end SIMC
section SIMD
variable {b : Nat → Nat} {n : Nat} {fa : Nat → Int32}
theorem s_SimL (hn : n ≤ 160) : ∀ f, f ≤ 5 → s_Sim b n fa 1 1 s_MT s_ΦE (nI (5 - f)) (s_lv b n f).1 ∧ s_Sim b n fa 3 4 s_MT s_ΦN (nI (5 - f)) (s_lv b n f).2.1 ∧ s_SimO b n fa (nI (5 - f)) (s_lv b n f).2.2
  | 0, _ => by
    have G := s_gd_lv b n 0
    have o : s_SimO b n fa (nI 5) (s_lv b n 0).2.2 := s_SimO_one (fun h => by cases h) (fun _ => rfl)
    have nt : s_Sim b n fa 3 4 s_MT s_ΦN (nI 5) (s_lv b n 0).2.1 := s_Sim_not (s_Sim_sum hn o G.2.2) (s_gd_sum G.2.2) (fun h => by cases h) (fun _ => rfl)
    exact ⟨s_Sim_exp hn nt G.2.1, nt, o⟩
  | f + 1, hf => by
    have G := s_gd_lv b n (f + 1)
    have G' := s_gd_lv b n f
    obtain ⟨h1, h2, h3⟩ := s_SimL hn f (by omega)
    have e : nI (5 - f) = nI (5 - (f + 1)) + 1 := by rw [nI_1]; congr 1; omega
    have n5 : nI (5 - (f + 1)) ≠ 5 := by
      intro q
      have := (z_eqN (b := 5) rfl rfl (by omega) (by decide)).mp q
      omega
    rw [e] at h1 h2 h3
    have o : s_SimO b n fa (nI (5 - (f + 1))) (s_lv b n (f + 1)).2.2 := s_SimO_one (fun _ => ⟨h1, G'.1, h3, n5⟩) (fun h => by cases h)
    have nt : s_Sim b n fa 3 4 s_MT s_ΦN (nI (5 - (f + 1))) (s_lv b n (f + 1)).2.1 := s_Sim_not (s_Sim_sum hn o G.2.2) (s_gd_sum G.2.2) (fun _ => ⟨h2, n5⟩) (fun h => by cases h)
    exact ⟨s_Sim_exp hn nt G.2.1, nt, o⟩
/-- one worth: the class's E with a semicolon ahead, and the reference's readWorth -/
theorem s_worth_bad (hn : n ≤ 160) {p q : Nat} {C C' : List Int32} (h1 : 1 ≤ p) (hp : p ≤ n) (e : (s_lv b n 5).1 (p, C) = (false, (q, C'))) : s_wrt b n fa p = some (.inl q) := by
  obtain ⟨k, h⟩ := ((s_SimL (b := b) (fa := fa) hn 5 (by decide)).1 p C h1 hp).2 _ _ e [] [] true (by decide) trivial rfl
  have := h (n + 2)
  unfold s_mf at this
  rw [s_mrun_enough hp] at this
  exact this
theorem s_worth_ok (hn : n ≤ 160) {p q : Nat} {C C' : List Int32} (h1 : 1 ≤ p) (hp : p ≤ n) (e : (s_lv b n 5).1 (p, C) = (true, (q, C'))) : ∃ c v, C' = C ++ c ∧ (∀ K, s_ex fa c K = some (v :: K)) ∧ s_wrt b n fa p = if s_tok b n q = 59 then some (.inr (q, v)) else some (.inl q) := by
  obtain ⟨c, v, ec, ex, sim⟩ := ((s_SimL (b := b) (fa := fa) hn 5 (by decide)).1 p C h1 hp).1 _ _ e
  refine ⟨c, v, ec, ex, ?_⟩
  obtain ⟨R, V1, mn1, a1, a2, a3, a4⟩ := sim [] [] true (by decide) trivial rfl
  by_cases t : s_tok b n q = 59
  · rw [if_pos t]
    obtain ⟨k, h⟩ := a1
    have := h (n + 2)
    unfold s_mf at this
    rw [s_mrun_enough hp] at this
    refine (show s_wrt b n fa p = _ from this).trans ?_
    show (s_mrun b n fa (n + 1 + 1) q (R ++ []) V1 (nI (5 - 5) + s_c14 R) false mn1).bind s_fin = _
    rw [s_mrun_e _ _ _ _ _ _ t]
    have wd1 : s_wd 1 (R ++ []) V1 (nI (5 - 5) + s_c14 R) = some ([], v :: [], nI (5 - 5)) := by rw [s_wd_all a2 a3]; rfl
    show s_fin (.inr (q, R ++ [], V1, nI (5 - 5) + s_c14 R)) = _
    simp only [s_fin, wd1]
  · rw [if_neg t]
    obtain ⟨k, h⟩ := s_Bad_of a1 (s_endBad (.inl rfl) a2 a3 a4 (fun _ => rfl) (fun x => absurd x t))
    have := h (n + 2)
    unfold s_mf at this
    rw [s_mrun_enough hp] at this
    exact this
/-- the two readers read alike -/
theorem s_read_bad (hn : n ≤ 160) {p : Nat} (e : s_read b n = .inl p) (fa : Nat → Int32) : s_mtx b n fa = some (.inl p) := by
  unfold s_read at e
  unfold s_mtx
  by_cases c1 : s_tok b n 0 = 3
  · rw [if_neg (not_not_intro c1)] at e ⊢
    have g1 := s_en_gt (b := b) (n := n) (p := 0) (by rw [c1]; decide)
    have l1 := s_en_le b (Nat.zero_le n)
    rcases r : (s_lv b n 5).1 (s_en b n 0, []) with ⟨ok, q, C⟩
    rw [r] at e
    have G := (s_gd_lv b n 5).1 (s_en b n 0, []) l1
    rw [r] at G
    simp only at G
    cases ok
    · have e' : q = p := by simpa using e
      subst e'
      rw [s_worth_bad hn (by omega) l1 r]
    · obtain ⟨c, v, ec, ex, w1⟩ := s_worth_ok (fa := fa) hn (by omega) l1 r
      simp only at e
      by_cases c2 : s_tok b n q = 59
      · rw [if_neg (not_not_intro c2)] at e
        rw [w1, if_pos c2]
        simp only
        have g2 := s_en_gt (b := b) (n := n) (p := q) (by rw [c2]; decide)
        have l2 := s_en_le b G.2.1
        by_cases c3 : s_tok b n (s_en b n q) = 4
        · rw [if_neg (not_not_intro c3)] at e ⊢
          have l3 := s_en_le b l2
          have g3 := s_en_gt (b := b) (n := n) (p := s_en b n q) (by rw [c3]; decide)
          rcases r2 : (s_lv b n 5).1 (s_en b n (s_en b n q), C) with ⟨ok2, q2, C2⟩
          rw [r2] at e
          cases ok2
          · have e' : q2 = p := by simpa using e
            subst e'
            rw [s_worth_bad hn (by omega) l3 r2]
          · obtain ⟨c', v', ec', ex', w2⟩ := s_worth_ok (fa := fa) hn (by omega) l3 r2
            simp only at e
            by_cases c4 : s_tok b n q2 = 59
            · rw [if_neg (not_not_intro c4)] at e
              rw [w2, if_pos c4]
              simp only
              by_cases c5 : s_tok b n (s_en b n q2) = 0
              · rw [if_pos c5] at e; cases e
              · rw [if_neg c5] at e ⊢
                have e' : s_en b n q2 = p := by simpa using e
                rw [e']
            · rw [if_pos c4] at e
              have e' : q2 = p := by simpa using e
              subst e'
              rw [w2, if_neg c4]
        · rw [if_pos c3] at e ⊢
          have e' : s_en b n q = p := by simpa using e
          rw [e']
      · rw [if_pos c2] at e
        have e' : q = p := by simpa using e
        subst e'
        rw [w1, if_neg c2]
  · rw [if_pos c1] at e ⊢
    have e' : 0 = p := by simpa using e
    rw [e']
theorem s_read_ok (hn : n ≤ 160) {C : List Int32} {t : Nat} (e : s_read b n = .inr (C, t)) : ∃ c1 c2, C = c1 ++ c2 ∧ t = c1.length ∧ ∀ fa, ∃ v1 v2, s_mtx b n fa = some (.inr (v1, v2)) ∧ s_ex fa c1 [] = some [v1] ∧ s_ex fa c2 [] = some [v2] := by
  unfold s_read at e
  by_cases c1 : s_tok b n 0 = 3
  · rw [if_neg (not_not_intro c1)] at e
    have g1 := s_en_gt (b := b) (n := n) (p := 0) (by rw [c1]; decide)
    have l1 := s_en_le b (Nat.zero_le n)
    rcases r : (s_lv b n 5).1 (s_en b n 0, []) with ⟨ok, q, C1⟩
    rw [r] at e
    have G := (s_gd_lv b n 5).1 (s_en b n 0, []) l1
    rw [r] at G
    simp only at G
    cases ok
    · cases e
    · simp only at e
      by_cases c2 : s_tok b n q = 59
      · rw [if_neg (not_not_intro c2)] at e
        have g2 := s_en_gt (b := b) (n := n) (p := q) (by rw [c2]; decide)
        have l2 := s_en_le b G.2.1
        by_cases c3 : s_tok b n (s_en b n q) = 4
        · rw [if_neg (not_not_intro c3)] at e
          have l3 := s_en_le b l2
          have g3 := s_en_gt (b := b) (n := n) (p := s_en b n q) (by rw [c3]; decide)
          rcases r2 : (s_lv b n 5).1 (s_en b n (s_en b n q), C1) with ⟨ok2, q2, C2⟩
          rw [r2] at e
          cases ok2
          · cases e
          · simp only at e
            by_cases c4 : s_tok b n q2 = 59
            · rw [if_neg (not_not_intro c4)] at e
              by_cases c5 : s_tok b n (s_en b n q2) = 0
              · rw [if_pos c5] at e
                have e' : C2 = C ∧ C1.length = t := by simpa using e
                obtain ⟨e1, e2⟩ := e'
                subst e1 e2
                obtain ⟨cc, _, ecc, _, _⟩ := s_worth_ok (fa := fun _ => 0) hn (by omega) l3 r2
                refine ⟨C1, cc, ecc, rfl, ?_⟩
                intro fa
                obtain ⟨x1, v1, ec, ex, w1⟩ := s_worth_ok (fa := fa) hn (by omega) l1 r
                obtain ⟨x2, v2, ec', ex', w2⟩ := s_worth_ok (fa := fa) hn (by omega) l3 r2
                have e1 : C1 = x1 := by rw [ec]; rfl
                have e2 : cc = x2 := List.append_cancel_left (ecc.symm.trans ec')
                refine ⟨v1, v2, ?_, by rw [e1]; exact ex [], by rw [e2]; exact ex' []⟩
                unfold s_mtx
                rw [if_neg (not_not_intro c1), w1, if_pos c2]
                simp only
                rw [if_neg (not_not_intro c3), w2, if_pos c4]
                simp only
                rw [if_pos c5]
              · rw [if_neg c5] at e; cases e
            · rw [if_pos c4] at e; cases e
        · rw [if_pos c3] at e; cases e
      · rw [if_pos c2] at e; cases e
  · rw [if_pos c1] at e; cases e
end SIMD
