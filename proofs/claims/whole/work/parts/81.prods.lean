-- THE CLASS'S READER: its methods
def s_Q (I0 : Nat → Nat → Int32) (J : Nat → Nat → Int64) (w : Nat) (b : Nat → Nat) (n : Nat) (R : Bool × zPS) (r : zR) : Prop := ∃ I', r = (some (.int (if R.1 = true then 1 else 0)), 161, I', J, RF w) ∧ s_CS I0 I' b n R.2.1 R.2.2
theorem s_Q_mk {I0 I : Nat → Nat → Int32} {J : Nat → Nat → Int64} {w : Nat} {b : Nat → Nat} {n p : Nat} {C : List Int32} {bl : Bool} {v : Int32} {R : Bool × zPS} (e : R = (bl, (p, C))) (hv : v = if bl = true then 1 else 0) (c : s_CS I0 I b n p C) : s_Q I0 J w b n R (some (.int v), 161, I, J, RF w) := by
  subst e hv
  exact ⟨I, rfl, c⟩
def s_rd (E : zE) (D mid o : Nat) (J : Nat → Nat → Int64) (w : Nat) (b : Nat → Nat) (n : Nat) (f : zPS → Bool × zPS) : Prop := ∀ I0 I p C, s_CS I0 I b n p C → p ≤ n → C.length ≤ p → ∃ I', z_cl E D mid [.ref 76, .int (nI o)] (161, I, J, RF w) = some (some (.int (if (f (p, C)).1 = true then 1 else 0)), 161, I', J, RF w) ∧ s_CS I0 I' b n (f (p, C)).2.1 (f (p, C)).2.2
def s_gd (n : Nat) (f : zPS → Bool × zPS) : Prop := ∀ s, s.1 ≤ n → s.1 ≤ (f s).2.1 ∧ (f s).2.1 ≤ n ∧ (f s).2.2.length + s.1 ≤ s.2.length + (f s).2.1
theorem s_rd_of {E : zE} {D mid o : Nat} {J : Nat → Nat → Int64} {w : Nat} {b : Nat → Nat} {n : Nat} {f : zPS → Bool × zPS} (h : ∀ I0 I p C, s_CS I0 I b n p C → p ≤ n → C.length ≤ p → ∃ r, z_cl E D mid [.ref 76, .int (nI o)] (161, I, J, RF w) = some r ∧ s_Q I0 J w b n (f (p, C)) r) : s_rd E D mid o J w b n f := by
  intro I0 I p C c h1 h2
  obtain ⟨r, e, I', q, c'⟩ := h I0 I p C c h1 h2
  exact ⟨I', by rw [e, q], c'⟩
theorem s_lop_no {b : Nat → Nat} {n f p : Nat} {op : Nat → Bool} {nx : zPS → Bool × zPS} {C : List Int32} (h : op (s_tok b n p) = false) : s_lop b n op nx (f + 1) (p, C) = (true, (p, C)) := if_neg (by show ¬ op (s_tok b n p) = true; rw [h]; exact Bool.false_ne_true)
theorem s_lop_bad {b : Nat → Nat} {n f p : Nat} {op : Nat → Bool} {nx : zPS → Bool × zPS} {C : List Int32} {s : zPS} (h : op (s_tok b n p) = true) (e : nx (s_en b n p, C) = (false, s)) : s_lop b n op nx (f + 1) (p, C) = (false, s) := by
  show (if op (s_tok b n p) = true then (if (nx (s_en b n p, C)).1 = true then s_lop b n op nx f (s_emt (-(nI (s_tok b n p))) (nx (s_en b n p, C)).2) else (false, (nx (s_en b n p, C)).2)) else (true, (p, C))) = _
  rw [if_pos h, e]; rfl
theorem s_lop_ok {b : Nat → Nat} {n f p p' : Nat} {op : Nat → Bool} {nx : zPS → Bool × zPS} {C C' : List Int32} (h : op (s_tok b n p) = true) (e : nx (s_en b n p, C) = (true, (p', C'))) : s_lop b n op nx (f + 1) (p, C) = s_lop b n op nx f (p', C' ++ [-(nI (s_tok b n p))]) := by
  show (if op (s_tok b n p) = true then (if (nx (s_en b n p, C)).1 = true then s_lop b n op nx f (s_emt (-(nI (s_tok b n p))) (nx (s_en b n p, C)).2) else (false, (nx (s_en b n p, C)).2)) else (true, (p, C))) = _
  rw [if_pos h, e]; rfl
theorem s_bin_bad {b : Nat → Nat} {n p : Nat} {op : Nat → Bool} {nx : zPS → Bool × zPS} {C : List Int32} {s : zPS} (e : nx (p, C) = (false, s)) : s_bin b n op nx (p, C) = (false, s) := by
  unfold s_bin; rw [e]; rfl
theorem s_bin_ok {b : Nat → Nat} {n p : Nat} {op : Nat → Bool} {nx : zPS → Bool × zPS} {C : List Int32} {s : zPS} (e : nx (p, C) = (true, s)) : s_bin b n op nx (p, C) = s_lop b n op nx 160 s := by
  unfold s_bin; rw [e]; rfl
set_option maxRecDepth 20000 in
theorem x_readTerm_l (E : zE) (d o : Nat) (J : Nat → Nat → Int64) (w : Nat) (b : Nat → Nat) (n : Nat) (nx : zPS → Bool × zPS) (hC : s_rd E (d + 7) 72 o J w b n nx) (hG : s_gd n nx) (ho : o < 2 ^ 31) (I0 : Nat → Nat → Int32) (h256 : ∀ k, k < n → b k < 256) (hn : n ≤ 160) : ∀ f i p C I, i + f = 160 → s_CS I0 I b n p C → p ≤ n → C.length ≤ p → z_Qv E (d + 7) z_m71 12 [some (.ref 76), some (.int (nI o)), some (.int (nI i))] [] 161 (I, J, RF w) (s_Q I0 J w b n (s_lop b n (fun t => t == 42) nx f (p, C))) := by
  intro f
  induction f with
  | zero =>
    intro i p C I hi c hp hl
    refine z_qG 3 (y := if (nI i) < 160 then z_go 19 [some (.ref 76), some (.int (nI o)), some (.int (nI i))] [] 161 (I, J, RF w) else z_go 54 [some (.ref 76), some (.int (nI o)), some (.int (nI i))] [] 161 (I, J, RF w)) (fun _ => rfl) ?_
    refine z_qF (mt (show _ ↔ i < 160 from z_ltN rfl rfl (by omega) (by decide)).mp (by omega)) ?_
    refine z_qL ?_
    refine z_qG 2 (y := some (.inr (some (.int 1), 161, I, J, RF w))) (fun _ => rfl) ?_
    exact z_qR (s_Q_mk (show s_lop b n (fun t => t == 42) nx 0 (p, C) = (true, (p, C)) from rfl) rfl c)
  | succ f ih =>
    intro i p C I hi c hp hl
    have ht := s_tok_lt h256 p
    refine z_qG 3 (y := if (nI i) < 160 then z_go 19 [some (.ref 76), some (.int (nI o)), some (.int (nI i))] [] 161 (I, J, RF w) else z_go 54 [some (.ref 76), some (.int (nI o)), some (.int (nI i))] [] 161 (I, J, RF w)) (fun _ => rfl) ?_
    refine z_qT ((show _ ↔ i < 160 from z_ltN rfl rfl (by omega) (by decide)).mpr (by omega)) ?_
    refine z_qL ?_
    refine z_qG 4 (y := if (I 76 2) = 42 then z_go 28 [some (.ref 76), some (.int (nI o)), some (.int (nI i))] [] 161 (I, J, RF w) else z_go 54 [some (.ref 76), some (.int (nI o)), some (.int (nI i))] [] 161 (I, J, RF w)) (fun _ => rfl) ?_
    refine z_qIN (show _ ↔ (s_tok b n p) = 42 from z_eqN c.tok rfl (by omega) (by omega)) (fun h2 => ?_) (fun h2 => ?_)
    · refine z_qL ?_
      refine z_qG 2 (y := z_ret (z_cl E (d + 7) 74 [.ref 76] (161, (I, J, RF w))) 32 [some (.ref 76), some (.int (nI o)), some (.int (nI i))] []) (fun _ => rfl) ?_
      have hT := h2
      have hop : (fun t => t == 42) (s_tok b n p) = true := by rw [hT]; rfl
      have hgt := s_en_gt (b := b) (n := n) (p := p) (by intro q; rw [q] at hop; cases hop)
      have hge := s_st_ge b n p
      obtain ⟨I1, e1, c1⟩ := x_stepQ E d J w c hp
      have hp1 := s_en_le b (n := n) hp
      have hl1 : C.length ≤ s_en b n p := Nat.le_trans hl (Nat.le_trans (s_st_ge b n p) (s_en_ge b n p))
      have ht1 := s_tok_lt h256 (s_en b n p)
      refine z_qV (z' := 161) (σ' := (I1, J, RF w)) e1 ?_
      refine z_qG 3 (y := z_ret (z_cl E (d + 7) 72 [.ref 76, .int (nI o)] (161, (I1, J, RF w))) 37 [some (.ref 76), some (.int (nI o)), some (.int (nI i))] []) (fun _ => rfl) ?_
      obtain ⟨I2, e2, c2⟩ := hC _ I1 (s_en b n p) C c1 hp1 hl1
      have g2 := hG (s_en b n p, C) hp1
      rcases r2 : nx (s_en b n p, C) with ⟨ok2, p2, C2⟩
      rw [r2] at e2 c2 g2
      obtain ⟨ga2, gb2, gc2⟩ := g2
      simp only at e2 c2 ga2 gb2 gc2
      have hp2 : p2 ≤ n := gb2
      have hl2 : C2.length ≤ p2 := by have := hl1; omega
      have ht2 := s_tok_lt h256 p2
      cases ok2
      · skip
        refine z_qK (v := .int 0) (z' := 161) (σ' := (I2, J, RF w)) e2 ?_
        refine z_qG 1 (y := if 0 = 0 then z_go 40 [some (.ref 76), some (.int (nI o)), some (.int (nI i))] [] 161 (I2, J, RF w) else z_go 42 [some (.ref 76), some (.int (nI o)), some (.int (nI i))] [] 161 (I2, J, RF w)) (fun _ => rfl) ?_
        refine z_qI (fun _ => ?_) (fun q => absurd (by decide) q)
        refine z_qL ?_
        refine z_qG 2 (y := some (.inr (some (.int 0), 161, I2, J, RF w))) (fun _ => rfl) ?_
        exact z_qR (s_Q_mk (s_lop_bad hop r2) rfl c2)
      · skip
        refine z_qK (v := .int 1) (z' := 161) (σ' := (I2, J, RF w)) e2 ?_
        refine z_qG 1 (y := if 1 = 0 then z_go 40 [some (.ref 76), some (.int (nI o)), some (.int (nI i))] [] 161 (I2, J, RF w) else z_go 42 [some (.ref 76), some (.int (nI o)), some (.int (nI i))] [] 161 (I2, J, RF w)) (fun _ => rfl) ?_
        refine z_qI (fun q => absurd q (by decide)) (fun _ => ?_)
        refine z_qL ?_
        refine z_qG 3 (y := z_ret (z_cl E (d + 7) 66 [.ref 76, .int (-42)] (161, (I2, J, RF w))) 48 [some (.ref 76), some (.int (nI o)), some (.int (nI i))] []) (fun _ => rfl) ?_
        rw [show ((-42) : Int32) = -(nI (s_tok b n p)) from (by rw [hT]; rfl)]
        obtain ⟨I3, e3, c3⟩ := x_emitQ E (d + 6) J w (-(nI (s_tok b n p))) c2 (by have := s_st_ge b n p; omega)
        have hl3 : (C2 ++ [-(nI (s_tok b n p))]).length ≤ p2 := by rw [List.length_append]; show C2.length + 1 ≤ _; omega
        refine z_qV (z' := 161) (σ' := (I3, J, RF w)) e3 ?_
        refine z_qG 2 (y := z_go 12 [some (.ref 76), some (.int (nI o)), some (.int ((nI i) + 1))] [] 161 (I3, J, RF w)) (fun _ => rfl) ?_
        refine z_qL ?_
        rw [nI_1 i, s_lop_ok hop r2]
        exact ih (i + 1) p2 (C2 ++ [-(nI (s_tok b n p))]) I3 (by omega) c3 hp2 hl3
    · refine z_qL ?_
      refine z_qG 2 (y := some (.inr (some (.int 1), 161, I, J, RF w))) (fun _ => rfl) ?_
      have hop : (fun t => t == 42) (s_tok b n p) = false := by simp [h2]
      exact z_qR (s_Q_mk (s_lop_no hop) rfl c)
set_option maxRecDepth 20000 in
theorem x_readTerm_r (E : zE) (d o : Nat) (J : Nat → Nat → Int64) (w : Nat) (b : Nat → Nat) (n : Nat) (nx : zPS → Bool × zPS) (hC : s_rd E (d + 7) 72 o J w b n nx) (hG : s_gd n nx) (ho : o < 2 ^ 31) (h256 : ∀ k, k < n → b k < 256) (hn : n ≤ 160) : s_rd E (d + 8) 71 o J w b n (s_bin b n (fun t => t == 42) nx) := by
  refine s_rd_of ?_
  intro I0 I p C c hp hl
  refine z_callQ (d := d + 7) (M := z_m71) rfl rfl ?_
  refine z_qG 3 (y := z_ret (z_cl E (d + 7) 72 [.ref 76, .int (nI o)] (161, (I, J, RF w))) 5 [some (.ref 76), some (.int (nI o)), none] []) (fun _ => rfl) ?_
  obtain ⟨I4, e4, c4⟩ := hC _ I p C c hp hl
  have g4 := hG (p, C) hp
  rcases r4 : nx (p, C) with ⟨ok4, p4, C4⟩
  rw [r4] at e4 c4 g4
  obtain ⟨ga4, gb4, gc4⟩ := g4
  simp only at e4 c4 ga4 gb4 gc4
  have hp4 : p4 ≤ n := gb4
  have hl4 : C4.length ≤ p4 := by have := hl; omega
  have ht4 := s_tok_lt h256 p4
  cases ok4
  · skip
    refine z_qK (v := .int 0) (z' := 161) (σ' := (I4, J, RF w)) e4 ?_
    refine z_qG 1 (y := if 0 = 0 then z_go 8 [some (.ref 76), some (.int (nI o)), none] [] 161 (I4, J, RF w) else z_go 10 [some (.ref 76), some (.int (nI o)), none] [] 161 (I4, J, RF w)) (fun _ => rfl) ?_
    refine z_qI (fun _ => ?_) (fun q => absurd (by decide) q)
    refine z_qL ?_
    refine z_qG 2 (y := some (.inr (some (.int 0), 161, I4, J, RF w))) (fun _ => rfl) ?_
    exact z_qR (s_Q_mk (s_bin_bad r4) rfl c4)
  · skip
    refine z_qK (v := .int 1) (z' := 161) (σ' := (I4, J, RF w)) e4 ?_
    refine z_qG 1 (y := if 1 = 0 then z_go 8 [some (.ref 76), some (.int (nI o)), none] [] 161 (I4, J, RF w) else z_go 10 [some (.ref 76), some (.int (nI o)), none] [] 161 (I4, J, RF w)) (fun _ => rfl) ?_
    refine z_qI (fun q => absurd q (by decide)) (fun _ => ?_)
    refine z_qL ?_
    refine z_qG 2 (y := z_go 12 [some (.ref 76), some (.int (nI o)), some (.int 0)] [] 161 (I4, J, RF w)) (fun _ => rfl) ?_
    refine z_qL ?_
    rw [s_bin_ok r4]
    exact x_readTerm_l E d o J w b n nx hC hG ho I0 h256 hn 160 0 p4 C4 I4 (by decide) c4 hp4 hl4
set_option maxRecDepth 20000 in
theorem x_readSum_l (E : zE) (d o : Nat) (J : Nat → Nat → Int64) (w : Nat) (b : Nat → Nat) (n : Nat) (nx : zPS → Bool × zPS) (hC : s_rd E (d + 7) 71 o J w b n nx) (hG : s_gd n nx) (ho : o < 2 ^ 31) (I0 : Nat → Nat → Int32) (h256 : ∀ k, k < n → b k < 256) (hn : n ≤ 160) : ∀ f i (x4 : Option Value) p C I, i + f = 160 → s_CS I0 I b n p C → p ≤ n → C.length ≤ p → z_Qv E (d + 7) z_m70 12 [some (.ref 76), some (.int (nI o)), some (.int (nI i)), x4] [] 161 (I, J, RF w) (s_Q I0 J w b n (s_lop b n (fun t => t == 43 || t == 45) nx f (p, C))) := by
  intro f
  induction f with
  | zero =>
    intro i x4 p C I hi c hp hl
    refine z_qG 3 (y := if (nI i) < 160 then z_go 19 [some (.ref 76), some (.int (nI o)), some (.int (nI i)), x4] [] 161 (I, J, RF w) else z_go 68 [some (.ref 76), some (.int (nI o)), some (.int (nI i)), x4] [] 161 (I, J, RF w)) (fun _ => rfl) ?_
    refine z_qF (mt (show _ ↔ i < 160 from z_ltN rfl rfl (by omega) (by decide)).mp (by omega)) ?_
    refine z_qL ?_
    refine z_qG 2 (y := some (.inr (some (.int 1), 161, I, J, RF w))) (fun _ => rfl) ?_
    exact z_qR (s_Q_mk (show s_lop b n (fun t => t == 43 || t == 45) nx 0 (p, C) = (true, (p, C)) from rfl) rfl c)
  | succ f ih =>
    intro i x4 p C I hi c hp hl
    have ht := s_tok_lt h256 p
    refine z_qG 3 (y := if (nI i) < 160 then z_go 19 [some (.ref 76), some (.int (nI o)), some (.int (nI i)), x4] [] 161 (I, J, RF w) else z_go 68 [some (.ref 76), some (.int (nI o)), some (.int (nI i)), x4] [] 161 (I, J, RF w)) (fun _ => rfl) ?_
    refine z_qT ((show _ ↔ i < 160 from z_ltN rfl rfl (by omega) (by decide)).mpr (by omega)) ?_
    refine z_qL ?_
    refine z_qG 4 (y := if (I 76 2) = 43 then z_go 37 [some (.ref 76), some (.int (nI o)), some (.int (nI i)), x4] [] 161 (I, J, RF w) else z_go 28 [some (.ref 76), some (.int (nI o)), some (.int (nI i)), x4] [] 161 (I, J, RF w)) (fun _ => rfl) ?_
    refine z_qIN (show _ ↔ (s_tok b n p) = 43 from z_eqN c.tok rfl (by omega) (by omega)) (fun h2 => ?_) (fun h2 => ?_)
    · refine z_qL ?_
      refine z_qG 5 (y := z_ret (z_cl E (d + 7) 74 [.ref 76] (161, (I, J, RF w))) 46 [some (.ref 76), some (.int (nI o)), some (.int (nI i)), some (.int (I 76 2))] []) (fun _ => rfl) ?_
      have hT := h2
      have hop : (fun t => t == 43 || t == 45) (s_tok b n p) = true := by rw [hT]; rfl
      have hgt := s_en_gt (b := b) (n := n) (p := p) (by intro q; rw [q] at hop; cases hop)
      have hge := s_st_ge b n p
      obtain ⟨I5, e5, c5⟩ := x_stepQ E d J w c hp
      have hp5 := s_en_le b (n := n) hp
      have hl5 : C.length ≤ s_en b n p := Nat.le_trans hl (Nat.le_trans (s_st_ge b n p) (s_en_ge b n p))
      have ht5 := s_tok_lt h256 (s_en b n p)
      refine z_qV (z' := 161) (σ' := (I5, J, RF w)) e5 ?_
      refine z_qG 3 (y := z_ret (z_cl E (d + 7) 71 [.ref 76, .int (nI o)] (161, (I5, J, RF w))) 51 [some (.ref 76), some (.int (nI o)), some (.int (nI i)), some (.int (I 76 2))] []) (fun _ => rfl) ?_
      obtain ⟨I6, e6, c6⟩ := hC _ I5 (s_en b n p) C c5 hp5 hl5
      have g6 := hG (s_en b n p, C) hp5
      rcases r6 : nx (s_en b n p, C) with ⟨ok6, p6, C6⟩
      rw [r6] at e6 c6 g6
      obtain ⟨ga6, gb6, gc6⟩ := g6
      simp only at e6 c6 ga6 gb6 gc6
      have hp6 : p6 ≤ n := gb6
      have hl6 : C6.length ≤ p6 := by have := hl5; omega
      have ht6 := s_tok_lt h256 p6
      cases ok6
      · skip
        refine z_qK (v := .int 0) (z' := 161) (σ' := (I6, J, RF w)) e6 ?_
        refine z_qG 1 (y := if 0 = 0 then z_go 54 [some (.ref 76), some (.int (nI o)), some (.int (nI i)), some (.int (I 76 2))] [] 161 (I6, J, RF w) else z_go 56 [some (.ref 76), some (.int (nI o)), some (.int (nI i)), some (.int (I 76 2))] [] 161 (I6, J, RF w)) (fun _ => rfl) ?_
        refine z_qI (fun _ => ?_) (fun q => absurd (by decide) q)
        refine z_qL ?_
        refine z_qG 2 (y := some (.inr (some (.int 0), 161, I6, J, RF w))) (fun _ => rfl) ?_
        exact z_qR (s_Q_mk (s_lop_bad hop r6) rfl c6)
      · skip
        refine z_qK (v := .int 1) (z' := 161) (σ' := (I6, J, RF w)) e6 ?_
        refine z_qG 1 (y := if 1 = 0 then z_go 54 [some (.ref 76), some (.int (nI o)), some (.int (nI i)), some (.int (I 76 2))] [] 161 (I6, J, RF w) else z_go 56 [some (.ref 76), some (.int (nI o)), some (.int (nI i)), some (.int (I 76 2))] [] 161 (I6, J, RF w)) (fun _ => rfl) ?_
        refine z_qI (fun q => absurd q (by decide)) (fun _ => ?_)
        refine z_qL ?_
        refine z_qG 4 (y := z_ret (z_cl E (d + 7) 66 [.ref 76, .int (-(I 76 2))] (161, (I6, J, RF w))) 62 [some (.ref 76), some (.int (nI o)), some (.int (nI i)), some (.int (I 76 2))] []) (fun _ => rfl) ?_
        rw [show (-(I 76 2) : Int32) = -(nI (s_tok b n p)) from (by rw [c.tok])]
        obtain ⟨I7, e7, c7⟩ := x_emitQ E (d + 6) J w (-(nI (s_tok b n p))) c6 (by have := s_st_ge b n p; omega)
        have hl7 : (C6 ++ [-(nI (s_tok b n p))]).length ≤ p6 := by rw [List.length_append]; show C6.length + 1 ≤ _; omega
        refine z_qV (z' := 161) (σ' := (I7, J, RF w)) e7 ?_
        refine z_qG 2 (y := z_go 12 [some (.ref 76), some (.int (nI o)), some (.int ((nI i) + 1)), some (.int (I 76 2))] [] 161 (I7, J, RF w)) (fun _ => rfl) ?_
        refine z_qL ?_
        rw [nI_1 i, s_lop_ok hop r6]
        exact ih (i + 1) _ p6 (C6 ++ [-(nI (s_tok b n p))]) I7 (by omega) c7 hp6 hl7
    · refine z_qL ?_
      refine z_qG 4 (y := if (I 76 2) = 45 then z_go 37 [some (.ref 76), some (.int (nI o)), some (.int (nI i)), x4] [] 161 (I, J, RF w) else z_go 68 [some (.ref 76), some (.int (nI o)), some (.int (nI i)), x4] [] 161 (I, J, RF w)) (fun _ => rfl) ?_
      refine z_qIN (show _ ↔ (s_tok b n p) = 45 from z_eqN c.tok rfl (by omega) (by omega)) (fun h5 => ?_) (fun h5 => ?_)
      · refine z_qL ?_
        refine z_qG 5 (y := z_ret (z_cl E (d + 7) 74 [.ref 76] (161, (I, J, RF w))) 46 [some (.ref 76), some (.int (nI o)), some (.int (nI i)), some (.int (I 76 2))] []) (fun _ => rfl) ?_
        have hT := h5
        have hop : (fun t => t == 43 || t == 45) (s_tok b n p) = true := by rw [hT]; rfl
        have hgt := s_en_gt (b := b) (n := n) (p := p) (by intro q; rw [q] at hop; cases hop)
        have hge := s_st_ge b n p
        obtain ⟨I8, e8, c8⟩ := x_stepQ E d J w c hp
        have hp8 := s_en_le b (n := n) hp
        have hl8 : C.length ≤ s_en b n p := Nat.le_trans hl (Nat.le_trans (s_st_ge b n p) (s_en_ge b n p))
        have ht8 := s_tok_lt h256 (s_en b n p)
        refine z_qV (z' := 161) (σ' := (I8, J, RF w)) e8 ?_
        refine z_qG 3 (y := z_ret (z_cl E (d + 7) 71 [.ref 76, .int (nI o)] (161, (I8, J, RF w))) 51 [some (.ref 76), some (.int (nI o)), some (.int (nI i)), some (.int (I 76 2))] []) (fun _ => rfl) ?_
        obtain ⟨I9, e9, c9⟩ := hC _ I8 (s_en b n p) C c8 hp8 hl8
        have g9 := hG (s_en b n p, C) hp8
        rcases r9 : nx (s_en b n p, C) with ⟨ok9, p9, C9⟩
        rw [r9] at e9 c9 g9
        obtain ⟨ga9, gb9, gc9⟩ := g9
        simp only at e9 c9 ga9 gb9 gc9
        have hp9 : p9 ≤ n := gb9
        have hl9 : C9.length ≤ p9 := by have := hl8; omega
        have ht9 := s_tok_lt h256 p9
        cases ok9
        · skip
          refine z_qK (v := .int 0) (z' := 161) (σ' := (I9, J, RF w)) e9 ?_
          refine z_qG 1 (y := if 0 = 0 then z_go 54 [some (.ref 76), some (.int (nI o)), some (.int (nI i)), some (.int (I 76 2))] [] 161 (I9, J, RF w) else z_go 56 [some (.ref 76), some (.int (nI o)), some (.int (nI i)), some (.int (I 76 2))] [] 161 (I9, J, RF w)) (fun _ => rfl) ?_
          refine z_qI (fun _ => ?_) (fun q => absurd (by decide) q)
          refine z_qL ?_
          refine z_qG 2 (y := some (.inr (some (.int 0), 161, I9, J, RF w))) (fun _ => rfl) ?_
          exact z_qR (s_Q_mk (s_lop_bad hop r9) rfl c9)
        · skip
          refine z_qK (v := .int 1) (z' := 161) (σ' := (I9, J, RF w)) e9 ?_
          refine z_qG 1 (y := if 1 = 0 then z_go 54 [some (.ref 76), some (.int (nI o)), some (.int (nI i)), some (.int (I 76 2))] [] 161 (I9, J, RF w) else z_go 56 [some (.ref 76), some (.int (nI o)), some (.int (nI i)), some (.int (I 76 2))] [] 161 (I9, J, RF w)) (fun _ => rfl) ?_
          refine z_qI (fun q => absurd q (by decide)) (fun _ => ?_)
          refine z_qL ?_
          refine z_qG 4 (y := z_ret (z_cl E (d + 7) 66 [.ref 76, .int (-(I 76 2))] (161, (I9, J, RF w))) 62 [some (.ref 76), some (.int (nI o)), some (.int (nI i)), some (.int (I 76 2))] []) (fun _ => rfl) ?_
          rw [show (-(I 76 2) : Int32) = -(nI (s_tok b n p)) from (by rw [c.tok])]
          obtain ⟨I10, e10, c10⟩ := x_emitQ E (d + 6) J w (-(nI (s_tok b n p))) c9 (by have := s_st_ge b n p; omega)
          have hl10 : (C9 ++ [-(nI (s_tok b n p))]).length ≤ p9 := by rw [List.length_append]; show C9.length + 1 ≤ _; omega
          refine z_qV (z' := 161) (σ' := (I10, J, RF w)) e10 ?_
          refine z_qG 2 (y := z_go 12 [some (.ref 76), some (.int (nI o)), some (.int ((nI i) + 1)), some (.int (I 76 2))] [] 161 (I10, J, RF w)) (fun _ => rfl) ?_
          refine z_qL ?_
          rw [nI_1 i, s_lop_ok hop r9]
          exact ih (i + 1) _ p9 (C9 ++ [-(nI (s_tok b n p))]) I10 (by omega) c10 hp9 hl10
      · refine z_qL ?_
        refine z_qG 2 (y := some (.inr (some (.int 1), 161, I, J, RF w))) (fun _ => rfl) ?_
        have hop : (fun t => t == 43 || t == 45) (s_tok b n p) = false := by simp [h2, h5]
        exact z_qR (s_Q_mk (s_lop_no hop) rfl c)
set_option maxRecDepth 20000 in
theorem x_readSum_r (E : zE) (d o : Nat) (J : Nat → Nat → Int64) (w : Nat) (b : Nat → Nat) (n : Nat) (nx : zPS → Bool × zPS) (hC : s_rd E (d + 7) 71 o J w b n nx) (hG : s_gd n nx) (ho : o < 2 ^ 31) (h256 : ∀ k, k < n → b k < 256) (hn : n ≤ 160) : s_rd E (d + 8) 70 o J w b n (s_bin b n (fun t => t == 43 || t == 45) nx) := by
  refine s_rd_of ?_
  intro I0 I p C c hp hl
  refine z_callQ (d := d + 7) (M := z_m70) rfl rfl ?_
  refine z_qG 3 (y := z_ret (z_cl E (d + 7) 71 [.ref 76, .int (nI o)] (161, (I, J, RF w))) 5 [some (.ref 76), some (.int (nI o)), none, none] []) (fun _ => rfl) ?_
  obtain ⟨I11, e11, c11⟩ := hC _ I p C c hp hl
  have g11 := hG (p, C) hp
  rcases r11 : nx (p, C) with ⟨ok11, p11, C11⟩
  rw [r11] at e11 c11 g11
  obtain ⟨ga11, gb11, gc11⟩ := g11
  simp only at e11 c11 ga11 gb11 gc11
  have hp11 : p11 ≤ n := gb11
  have hl11 : C11.length ≤ p11 := by have := hl; omega
  have ht11 := s_tok_lt h256 p11
  cases ok11
  · skip
    refine z_qK (v := .int 0) (z' := 161) (σ' := (I11, J, RF w)) e11 ?_
    refine z_qG 1 (y := if 0 = 0 then z_go 8 [some (.ref 76), some (.int (nI o)), none, none] [] 161 (I11, J, RF w) else z_go 10 [some (.ref 76), some (.int (nI o)), none, none] [] 161 (I11, J, RF w)) (fun _ => rfl) ?_
    refine z_qI (fun _ => ?_) (fun q => absurd (by decide) q)
    refine z_qL ?_
    refine z_qG 2 (y := some (.inr (some (.int 0), 161, I11, J, RF w))) (fun _ => rfl) ?_
    exact z_qR (s_Q_mk (s_bin_bad r11) rfl c11)
  · skip
    refine z_qK (v := .int 1) (z' := 161) (σ' := (I11, J, RF w)) e11 ?_
    refine z_qG 1 (y := if 1 = 0 then z_go 8 [some (.ref 76), some (.int (nI o)), none, none] [] 161 (I11, J, RF w) else z_go 10 [some (.ref 76), some (.int (nI o)), none, none] [] 161 (I11, J, RF w)) (fun _ => rfl) ?_
    refine z_qI (fun q => absurd q (by decide)) (fun _ => ?_)
    refine z_qL ?_
    refine z_qG 2 (y := z_go 12 [some (.ref 76), some (.int (nI o)), some (.int 0), none] [] 161 (I11, J, RF w)) (fun _ => rfl) ?_
    refine z_qL ?_
    rw [s_bin_ok r11]
    exact x_readSum_l E d o J w b n nx hC hG ho I0 h256 hn 160 0 none p11 C11 I11 (by decide) c11 hp11 hl11
set_option maxRecDepth 20000 in
theorem x_readAnd_l (E : zE) (d o : Nat) (J : Nat → Nat → Int64) (w : Nat) (b : Nat → Nat) (n : Nat) (nx : zPS → Bool × zPS) (hC : s_rd E (d + 7) 69 o J w b n nx) (hG : s_gd n nx) (ho : o < 2 ^ 31) (I0 : Nat → Nat → Int32) (h256 : ∀ k, k < n → b k < 256) (hn : n ≤ 160) : ∀ f i p C I, i + f = 160 → s_CS I0 I b n p C → p ≤ n → C.length ≤ p → z_Qv E (d + 7) z_m68 12 [some (.ref 76), some (.int (nI o)), some (.int (nI i))] [] 161 (I, J, RF w) (s_Q I0 J w b n (s_lop b n (fun t => t == 6) nx f (p, C))) := by
  intro f
  induction f with
  | zero =>
    intro i p C I hi c hp hl
    refine z_qG 3 (y := if (nI i) < 160 then z_go 19 [some (.ref 76), some (.int (nI o)), some (.int (nI i))] [] 161 (I, J, RF w) else z_go 54 [some (.ref 76), some (.int (nI o)), some (.int (nI i))] [] 161 (I, J, RF w)) (fun _ => rfl) ?_
    refine z_qF (mt (show _ ↔ i < 160 from z_ltN rfl rfl (by omega) (by decide)).mp (by omega)) ?_
    refine z_qL ?_
    refine z_qG 2 (y := some (.inr (some (.int 1), 161, I, J, RF w))) (fun _ => rfl) ?_
    exact z_qR (s_Q_mk (show s_lop b n (fun t => t == 6) nx 0 (p, C) = (true, (p, C)) from rfl) rfl c)
  | succ f ih =>
    intro i p C I hi c hp hl
    have ht := s_tok_lt h256 p
    refine z_qG 3 (y := if (nI i) < 160 then z_go 19 [some (.ref 76), some (.int (nI o)), some (.int (nI i))] [] 161 (I, J, RF w) else z_go 54 [some (.ref 76), some (.int (nI o)), some (.int (nI i))] [] 161 (I, J, RF w)) (fun _ => rfl) ?_
    refine z_qT ((show _ ↔ i < 160 from z_ltN rfl rfl (by omega) (by decide)).mpr (by omega)) ?_
    refine z_qL ?_
    refine z_qG 4 (y := if (I 76 2) = 6 then z_go 28 [some (.ref 76), some (.int (nI o)), some (.int (nI i))] [] 161 (I, J, RF w) else z_go 54 [some (.ref 76), some (.int (nI o)), some (.int (nI i))] [] 161 (I, J, RF w)) (fun _ => rfl) ?_
    refine z_qIN (show _ ↔ (s_tok b n p) = 6 from z_eqN c.tok rfl (by omega) (by omega)) (fun h2 => ?_) (fun h2 => ?_)
    · refine z_qL ?_
      refine z_qG 2 (y := z_ret (z_cl E (d + 7) 74 [.ref 76] (161, (I, J, RF w))) 32 [some (.ref 76), some (.int (nI o)), some (.int (nI i))] []) (fun _ => rfl) ?_
      have hT := h2
      have hop : (fun t => t == 6) (s_tok b n p) = true := by rw [hT]; rfl
      have hgt := s_en_gt (b := b) (n := n) (p := p) (by intro q; rw [q] at hop; cases hop)
      have hge := s_st_ge b n p
      obtain ⟨I12, e12, c12⟩ := x_stepQ E d J w c hp
      have hp12 := s_en_le b (n := n) hp
      have hl12 : C.length ≤ s_en b n p := Nat.le_trans hl (Nat.le_trans (s_st_ge b n p) (s_en_ge b n p))
      have ht12 := s_tok_lt h256 (s_en b n p)
      refine z_qV (z' := 161) (σ' := (I12, J, RF w)) e12 ?_
      refine z_qG 3 (y := z_ret (z_cl E (d + 7) 69 [.ref 76, .int (nI o)] (161, (I12, J, RF w))) 37 [some (.ref 76), some (.int (nI o)), some (.int (nI i))] []) (fun _ => rfl) ?_
      obtain ⟨I13, e13, c13⟩ := hC _ I12 (s_en b n p) C c12 hp12 hl12
      have g13 := hG (s_en b n p, C) hp12
      rcases r13 : nx (s_en b n p, C) with ⟨ok13, p13, C13⟩
      rw [r13] at e13 c13 g13
      obtain ⟨ga13, gb13, gc13⟩ := g13
      simp only at e13 c13 ga13 gb13 gc13
      have hp13 : p13 ≤ n := gb13
      have hl13 : C13.length ≤ p13 := by have := hl12; omega
      have ht13 := s_tok_lt h256 p13
      cases ok13
      · skip
        refine z_qK (v := .int 0) (z' := 161) (σ' := (I13, J, RF w)) e13 ?_
        refine z_qG 1 (y := if 0 = 0 then z_go 40 [some (.ref 76), some (.int (nI o)), some (.int (nI i))] [] 161 (I13, J, RF w) else z_go 42 [some (.ref 76), some (.int (nI o)), some (.int (nI i))] [] 161 (I13, J, RF w)) (fun _ => rfl) ?_
        refine z_qI (fun _ => ?_) (fun q => absurd (by decide) q)
        refine z_qL ?_
        refine z_qG 2 (y := some (.inr (some (.int 0), 161, I13, J, RF w))) (fun _ => rfl) ?_
        exact z_qR (s_Q_mk (s_lop_bad hop r13) rfl c13)
      · skip
        refine z_qK (v := .int 1) (z' := 161) (σ' := (I13, J, RF w)) e13 ?_
        refine z_qG 1 (y := if 1 = 0 then z_go 40 [some (.ref 76), some (.int (nI o)), some (.int (nI i))] [] 161 (I13, J, RF w) else z_go 42 [some (.ref 76), some (.int (nI o)), some (.int (nI i))] [] 161 (I13, J, RF w)) (fun _ => rfl) ?_
        refine z_qI (fun q => absurd q (by decide)) (fun _ => ?_)
        refine z_qL ?_
        refine z_qG 3 (y := z_ret (z_cl E (d + 7) 66 [.ref 76, .int (-6)] (161, (I13, J, RF w))) 48 [some (.ref 76), some (.int (nI o)), some (.int (nI i))] []) (fun _ => rfl) ?_
        rw [show ((-6) : Int32) = -(nI (s_tok b n p)) from (by rw [hT]; rfl)]
        obtain ⟨I14, e14, c14⟩ := x_emitQ E (d + 6) J w (-(nI (s_tok b n p))) c13 (by have := s_st_ge b n p; omega)
        have hl14 : (C13 ++ [-(nI (s_tok b n p))]).length ≤ p13 := by rw [List.length_append]; show C13.length + 1 ≤ _; omega
        refine z_qV (z' := 161) (σ' := (I14, J, RF w)) e14 ?_
        refine z_qG 2 (y := z_go 12 [some (.ref 76), some (.int (nI o)), some (.int ((nI i) + 1))] [] 161 (I14, J, RF w)) (fun _ => rfl) ?_
        refine z_qL ?_
        rw [nI_1 i, s_lop_ok hop r13]
        exact ih (i + 1) p13 (C13 ++ [-(nI (s_tok b n p))]) I14 (by omega) c14 hp13 hl14
    · refine z_qL ?_
      refine z_qG 2 (y := some (.inr (some (.int 1), 161, I, J, RF w))) (fun _ => rfl) ?_
      have hop : (fun t => t == 6) (s_tok b n p) = false := by simp [h2]
      exact z_qR (s_Q_mk (s_lop_no hop) rfl c)
set_option maxRecDepth 20000 in
theorem x_readAnd_r (E : zE) (d o : Nat) (J : Nat → Nat → Int64) (w : Nat) (b : Nat → Nat) (n : Nat) (nx : zPS → Bool × zPS) (hC : s_rd E (d + 7) 69 o J w b n nx) (hG : s_gd n nx) (ho : o < 2 ^ 31) (h256 : ∀ k, k < n → b k < 256) (hn : n ≤ 160) : s_rd E (d + 8) 68 o J w b n (s_bin b n (fun t => t == 6) nx) := by
  refine s_rd_of ?_
  intro I0 I p C c hp hl
  refine z_callQ (d := d + 7) (M := z_m68) rfl rfl ?_
  refine z_qG 3 (y := z_ret (z_cl E (d + 7) 69 [.ref 76, .int (nI o)] (161, (I, J, RF w))) 5 [some (.ref 76), some (.int (nI o)), none] []) (fun _ => rfl) ?_
  obtain ⟨I15, e15, c15⟩ := hC _ I p C c hp hl
  have g15 := hG (p, C) hp
  rcases r15 : nx (p, C) with ⟨ok15, p15, C15⟩
  rw [r15] at e15 c15 g15
  obtain ⟨ga15, gb15, gc15⟩ := g15
  simp only at e15 c15 ga15 gb15 gc15
  have hp15 : p15 ≤ n := gb15
  have hl15 : C15.length ≤ p15 := by have := hl; omega
  have ht15 := s_tok_lt h256 p15
  cases ok15
  · skip
    refine z_qK (v := .int 0) (z' := 161) (σ' := (I15, J, RF w)) e15 ?_
    refine z_qG 1 (y := if 0 = 0 then z_go 8 [some (.ref 76), some (.int (nI o)), none] [] 161 (I15, J, RF w) else z_go 10 [some (.ref 76), some (.int (nI o)), none] [] 161 (I15, J, RF w)) (fun _ => rfl) ?_
    refine z_qI (fun _ => ?_) (fun q => absurd (by decide) q)
    refine z_qL ?_
    refine z_qG 2 (y := some (.inr (some (.int 0), 161, I15, J, RF w))) (fun _ => rfl) ?_
    exact z_qR (s_Q_mk (s_bin_bad r15) rfl c15)
  · skip
    refine z_qK (v := .int 1) (z' := 161) (σ' := (I15, J, RF w)) e15 ?_
    refine z_qG 1 (y := if 1 = 0 then z_go 8 [some (.ref 76), some (.int (nI o)), none] [] 161 (I15, J, RF w) else z_go 10 [some (.ref 76), some (.int (nI o)), none] [] 161 (I15, J, RF w)) (fun _ => rfl) ?_
    refine z_qI (fun q => absurd q (by decide)) (fun _ => ?_)
    refine z_qL ?_
    refine z_qG 2 (y := z_go 12 [some (.ref 76), some (.int (nI o)), some (.int 0)] [] 161 (I15, J, RF w)) (fun _ => rfl) ?_
    refine z_qL ?_
    rw [s_bin_ok r15]
    exact x_readAnd_l E d o J w b n nx hC hG ho I0 h256 hn 160 0 p15 C15 I15 (by decide) c15 hp15 hl15
set_option maxRecDepth 20000 in
theorem x_readE_l (E : zE) (d o : Nat) (J : Nat → Nat → Int64) (w : Nat) (b : Nat → Nat) (n : Nat) (nx : zPS → Bool × zPS) (hC : s_rd E (d + 7) 68 o J w b n nx) (hG : s_gd n nx) (ho : o < 2 ^ 31) (I0 : Nat → Nat → Int32) (h256 : ∀ k, k < n → b k < 256) (hn : n ≤ 160) : ∀ f i p C I, i + f = 160 → s_CS I0 I b n p C → p ≤ n → C.length ≤ p → z_Qv E (d + 7) z_m67 12 [some (.ref 76), some (.int (nI o)), some (.int (nI i))] [] 161 (I, J, RF w) (s_Q I0 J w b n (s_lop b n (fun t => t == 5) nx f (p, C))) := by
  intro f
  induction f with
  | zero =>
    intro i p C I hi c hp hl
    refine z_qG 3 (y := if (nI i) < 160 then z_go 19 [some (.ref 76), some (.int (nI o)), some (.int (nI i))] [] 161 (I, J, RF w) else z_go 53 [some (.ref 76), some (.int (nI o)), some (.int (nI i))] [] 161 (I, J, RF w)) (fun _ => rfl) ?_
    refine z_qF (mt (show _ ↔ i < 160 from z_ltN rfl rfl (by omega) (by decide)).mp (by omega)) ?_
    refine z_qL ?_
    refine z_qG 2 (y := some (.inr (some (.int 1), 161, I, J, RF w))) (fun _ => rfl) ?_
    exact z_qR (s_Q_mk (show s_lop b n (fun t => t == 5) nx 0 (p, C) = (true, (p, C)) from rfl) rfl c)
  | succ f ih =>
    intro i p C I hi c hp hl
    have ht := s_tok_lt h256 p
    refine z_qG 3 (y := if (nI i) < 160 then z_go 19 [some (.ref 76), some (.int (nI o)), some (.int (nI i))] [] 161 (I, J, RF w) else z_go 53 [some (.ref 76), some (.int (nI o)), some (.int (nI i))] [] 161 (I, J, RF w)) (fun _ => rfl) ?_
    refine z_qT ((show _ ↔ i < 160 from z_ltN rfl rfl (by omega) (by decide)).mpr (by omega)) ?_
    refine z_qL ?_
    refine z_qG 4 (y := if (I 76 2) = 5 then z_go 27 [some (.ref 76), some (.int (nI o)), some (.int (nI i))] [] 161 (I, J, RF w) else z_go 53 [some (.ref 76), some (.int (nI o)), some (.int (nI i))] [] 161 (I, J, RF w)) (fun _ => rfl) ?_
    refine z_qIN (show _ ↔ (s_tok b n p) = 5 from z_eqN c.tok rfl (by omega) (by omega)) (fun h2 => ?_) (fun h2 => ?_)
    · refine z_qL ?_
      refine z_qG 2 (y := z_ret (z_cl E (d + 7) 74 [.ref 76] (161, (I, J, RF w))) 31 [some (.ref 76), some (.int (nI o)), some (.int (nI i))] []) (fun _ => rfl) ?_
      have hT := h2
      have hop : (fun t => t == 5) (s_tok b n p) = true := by rw [hT]; rfl
      have hgt := s_en_gt (b := b) (n := n) (p := p) (by intro q; rw [q] at hop; cases hop)
      have hge := s_st_ge b n p
      obtain ⟨I16, e16, c16⟩ := x_stepQ E d J w c hp
      have hp16 := s_en_le b (n := n) hp
      have hl16 : C.length ≤ s_en b n p := Nat.le_trans hl (Nat.le_trans (s_st_ge b n p) (s_en_ge b n p))
      have ht16 := s_tok_lt h256 (s_en b n p)
      refine z_qV (z' := 161) (σ' := (I16, J, RF w)) e16 ?_
      refine z_qG 3 (y := z_ret (z_cl E (d + 7) 68 [.ref 76, .int (nI o)] (161, (I16, J, RF w))) 36 [some (.ref 76), some (.int (nI o)), some (.int (nI i))] []) (fun _ => rfl) ?_
      obtain ⟨I17, e17, c17⟩ := hC _ I16 (s_en b n p) C c16 hp16 hl16
      have g17 := hG (s_en b n p, C) hp16
      rcases r17 : nx (s_en b n p, C) with ⟨ok17, p17, C17⟩
      rw [r17] at e17 c17 g17
      obtain ⟨ga17, gb17, gc17⟩ := g17
      simp only at e17 c17 ga17 gb17 gc17
      have hp17 : p17 ≤ n := gb17
      have hl17 : C17.length ≤ p17 := by have := hl16; omega
      have ht17 := s_tok_lt h256 p17
      cases ok17
      · skip
        refine z_qK (v := .int 0) (z' := 161) (σ' := (I17, J, RF w)) e17 ?_
        refine z_qG 1 (y := if 0 = 0 then z_go 39 [some (.ref 76), some (.int (nI o)), some (.int (nI i))] [] 161 (I17, J, RF w) else z_go 41 [some (.ref 76), some (.int (nI o)), some (.int (nI i))] [] 161 (I17, J, RF w)) (fun _ => rfl) ?_
        refine z_qI (fun _ => ?_) (fun q => absurd (by decide) q)
        refine z_qL ?_
        refine z_qG 2 (y := some (.inr (some (.int 0), 161, I17, J, RF w))) (fun _ => rfl) ?_
        exact z_qR (s_Q_mk (s_lop_bad hop r17) rfl c17)
      · skip
        refine z_qK (v := .int 1) (z' := 161) (σ' := (I17, J, RF w)) e17 ?_
        refine z_qG 1 (y := if 1 = 0 then z_go 39 [some (.ref 76), some (.int (nI o)), some (.int (nI i))] [] 161 (I17, J, RF w) else z_go 41 [some (.ref 76), some (.int (nI o)), some (.int (nI i))] [] 161 (I17, J, RF w)) (fun _ => rfl) ?_
        refine z_qI (fun q => absurd q (by decide)) (fun _ => ?_)
        refine z_qL ?_
        refine z_qG 3 (y := z_ret (z_cl E (d + 7) 66 [.ref 76, .int (-5)] (161, (I17, J, RF w))) 47 [some (.ref 76), some (.int (nI o)), some (.int (nI i))] []) (fun _ => rfl) ?_
        rw [show ((-5) : Int32) = -(nI (s_tok b n p)) from (by rw [hT]; rfl)]
        obtain ⟨I18, e18, c18⟩ := x_emitQ E (d + 6) J w (-(nI (s_tok b n p))) c17 (by have := s_st_ge b n p; omega)
        have hl18 : (C17 ++ [-(nI (s_tok b n p))]).length ≤ p17 := by rw [List.length_append]; show C17.length + 1 ≤ _; omega
        refine z_qV (z' := 161) (σ' := (I18, J, RF w)) e18 ?_
        refine z_qG 2 (y := z_go 12 [some (.ref 76), some (.int (nI o)), some (.int ((nI i) + 1))] [] 161 (I18, J, RF w)) (fun _ => rfl) ?_
        refine z_qL ?_
        rw [nI_1 i, s_lop_ok hop r17]
        exact ih (i + 1) p17 (C17 ++ [-(nI (s_tok b n p))]) I18 (by omega) c18 hp17 hl18
    · refine z_qL ?_
      refine z_qG 2 (y := some (.inr (some (.int 1), 161, I, J, RF w))) (fun _ => rfl) ?_
      have hop : (fun t => t == 5) (s_tok b n p) = false := by simp [h2]
      exact z_qR (s_Q_mk (s_lop_no hop) rfl c)
set_option maxRecDepth 20000 in
theorem x_readE_r (E : zE) (d o : Nat) (J : Nat → Nat → Int64) (w : Nat) (b : Nat → Nat) (n : Nat) (nx : zPS → Bool × zPS) (hC : s_rd E (d + 7) 68 o J w b n nx) (hG : s_gd n nx) (ho : o < 2 ^ 31) (h256 : ∀ k, k < n → b k < 256) (hn : n ≤ 160) : s_rd E (d + 8) 67 o J w b n (s_bin b n (fun t => t == 5) nx) := by
  refine s_rd_of ?_
  intro I0 I p C c hp hl
  refine z_callQ (d := d + 7) (M := z_m67) rfl rfl ?_
  refine z_qG 3 (y := z_ret (z_cl E (d + 7) 68 [.ref 76, .int (nI o)] (161, (I, J, RF w))) 5 [some (.ref 76), some (.int (nI o)), none] []) (fun _ => rfl) ?_
  obtain ⟨I19, e19, c19⟩ := hC _ I p C c hp hl
  have g19 := hG (p, C) hp
  rcases r19 : nx (p, C) with ⟨ok19, p19, C19⟩
  rw [r19] at e19 c19 g19
  obtain ⟨ga19, gb19, gc19⟩ := g19
  simp only at e19 c19 ga19 gb19 gc19
  have hp19 : p19 ≤ n := gb19
  have hl19 : C19.length ≤ p19 := by have := hl; omega
  have ht19 := s_tok_lt h256 p19
  cases ok19
  · skip
    refine z_qK (v := .int 0) (z' := 161) (σ' := (I19, J, RF w)) e19 ?_
    refine z_qG 1 (y := if 0 = 0 then z_go 8 [some (.ref 76), some (.int (nI o)), none] [] 161 (I19, J, RF w) else z_go 10 [some (.ref 76), some (.int (nI o)), none] [] 161 (I19, J, RF w)) (fun _ => rfl) ?_
    refine z_qI (fun _ => ?_) (fun q => absurd (by decide) q)
    refine z_qL ?_
    refine z_qG 2 (y := some (.inr (some (.int 0), 161, I19, J, RF w))) (fun _ => rfl) ?_
    exact z_qR (s_Q_mk (s_bin_bad r19) rfl c19)
  · skip
    refine z_qK (v := .int 1) (z' := 161) (σ' := (I19, J, RF w)) e19 ?_
    refine z_qG 1 (y := if 1 = 0 then z_go 8 [some (.ref 76), some (.int (nI o)), none] [] 161 (I19, J, RF w) else z_go 10 [some (.ref 76), some (.int (nI o)), none] [] 161 (I19, J, RF w)) (fun _ => rfl) ?_
    refine z_qI (fun q => absurd q (by decide)) (fun _ => ?_)
    refine z_qL ?_
    refine z_qG 2 (y := z_go 12 [some (.ref 76), some (.int (nI o)), some (.int 0)] [] 161 (I19, J, RF w)) (fun _ => rfl) ?_
    refine z_qL ?_
    rw [s_bin_ok r19]
    exact x_readE_l E d o J w b n nx hC hG ho I0 h256 hn 160 0 p19 C19 I19 (by decide) c19 hp19 hl19
