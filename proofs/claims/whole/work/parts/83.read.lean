-- THE CLASS'S READER: all of it
theorem s_gd_lop {b : Nat → Nat} {n : Nat} {op : Nat → Bool} {nx : zPS → Bool × zPS} (h0 : op 0 = false) (hG : s_gd n nx) : ∀ f, s_gd n (s_lop b n op nx f)
  | 0 => fun s h => ⟨Nat.le_refl _, h, Nat.le_refl _⟩
  | f + 1 => by
    intro s h
    obtain ⟨p, C⟩ := s
    simp only at h
    by_cases q : op (s_tok b n p) = true
    · have hgt := s_en_gt (b := b) (n := n) (p := p) (by intro r; rw [r, h0] at q; cases q)
      have hge := s_st_ge b n p
      have g := hG (s_en b n p, C) (s_en_le b h)
      rcases r : nx (s_en b n p, C) with ⟨ok, p', C'⟩
      rw [r] at g
      simp only at g
      cases ok
      · rw [s_lop_bad q r]
        simp only
        omega
      · rw [s_lop_ok q r]
        have ih := s_gd_lop (b := b) h0 hG f (p', C' ++ [-(nI (s_tok b n p))]) g.2.1
        simp only [List.length_append, List.length_cons, List.length_nil] at ih ⊢
        omega
    · rw [s_lop_no (Bool.not_eq_true _ ▸ q)]
      exact ⟨Nat.le_refl _, h, Nat.le_refl _⟩
theorem s_gd_bin {b : Nat → Nat} {n : Nat} {op : Nat → Bool} {nx : zPS → Bool × zPS} (h0 : op 0 = false) (hG : s_gd n nx) : s_gd n (s_bin b n op nx) := by
  intro s h
  obtain ⟨p, C⟩ := s
  simp only at h
  have g := hG (p, C) h
  rcases r : nx (p, C) with ⟨ok, p', C'⟩
  rw [r] at g
  simp only at g
  cases ok
  · rw [s_bin_bad r]
    simp only
    omega
  · rw [s_bin_ok r]
    have l := s_gd_lop (b := b) h0 hG 160 (p', C') g.2.1
    simp only at l ⊢
    omega
theorem s_gd_not {b : Nat → Nat} {n : Nat} {r : Bool} {nt sm : zPS → Bool × zPS} (hN : s_gd n nt) (hS : s_gd n sm) : s_gd n (s_not b n r nt sm) := by
  intro s h
  obtain ⟨p, C⟩ := s
  simp only at h
  by_cases q : s_tok b n p = 7
  · cases r
    · rw [s_not3 q]; exact ⟨Nat.le_refl _, h, Nat.le_refl _⟩
    · have hgt := s_en_gt (b := b) (n := n) (p := p) (by rw [q]; decide)
      have hge := s_st_ge b n p
      have g := hN (s_en b n p, C) (s_en_le b h)
      rcases e : nt (s_en b n p, C) with ⟨ok, p', C'⟩
      rw [e] at g
      simp only at g
      cases ok
      · rw [s_not2 q e]; simp only; omega
      · rw [s_not1 q e]; simp only [List.length_append, List.length_cons, List.length_nil]; omega
  · have g := hS (p, C) h
    rcases e : sm (p, C) with ⟨ok, p', C'⟩
    rw [e] at g
    simp only at g
    cases ok
    · rw [s_not4 q e]; simp only; omega
    · by_cases c : s_tok b n p' = 60 ∨ s_tok b n p' = 61
      · have hgt := s_en_gt (b := b) (n := n) (p := p') (by rcases c with c | c <;> rw [c] <;> decide)
        have hge := s_st_ge b n p'
        have g2 := hS (s_en b n p', C') (s_en_le b g.2.1)
        rcases e2 : sm (s_en b n p', C') with ⟨ok2, p2, C2⟩
        rw [e2] at g2
        simp only at g2
        cases ok2
        · rw [s_not6 q e c e2]; simp only; omega
        · rw [s_not7 q e c e2]; simp only [List.length_append, List.length_cons, List.length_nil]; omega
      · rw [s_not5 q e (fun x => c (.inl x)) (fun x => c (.inr x))]; simp only; omega
theorem s_gd_one {b : Nat → Nat} {n : Nat} {r : Bool} {ex on : zPS → Bool × zPS} (hE : s_gd n ex) (hO : s_gd n on) : s_gd n (s_one b n r ex on) := by
  intro s h
  obtain ⟨p, C⟩ := s
  simp only at h
  have hge := s_st_ge b n p
  by_cases q : s_tok b n p = 40
  · cases r
    · rw [s_one4 q]; exact ⟨Nat.le_refl _, h, Nat.le_refl _⟩
    · have hgt := s_en_gt (b := b) (n := n) (p := p) (by rw [q]; decide)
      have g := hE (s_en b n p, C) (s_en_le b h)
      rcases e : ex (s_en b n p, C) with ⟨ok, p', C'⟩
      rw [e] at g
      simp only at g
      cases ok
      · rw [s_one3 q e]; simp only; omega
      · by_cases c : s_tok b n p' = 41
        · have l := s_en_le b g.2.1
          have l2 := s_st_ge b n p'
          have l3 := s_en_ge b n p'
          rw [s_one1 q e c]; simp only; omega
        · rw [s_one2 q e c]; simp only; omega
  · by_cases q2 : s_tok b n p = 45
    · cases r
      · rw [s_one7 q2]; exact ⟨Nat.le_refl _, h, Nat.le_refl _⟩
      · have hgt := s_en_gt (b := b) (n := n) (p := p) (by rw [q2]; decide)
        have g := hO (s_en b n p, C) (s_en_le b h)
        rcases e : on (s_en b n p, C) with ⟨ok, p', C'⟩
        rw [e] at g
        simp only at g
        cases ok
        · rw [s_one6 q2 e]; simp only; omega
        · rw [s_one5 q2 e]; simp only [List.length_append, List.length_cons, List.length_nil]; omega
    · by_cases q3 : s_tok b n p = 2
      · have hgt := s_en_gt (b := b) (n := n) (p := p) (by rw [q3]; decide)
        have l := s_en_le b h
        rw [s_one8 q3]; simp only [List.length_append, List.length_cons, List.length_nil]; omega
      · by_cases q4 : 8 ≤ s_tok b n p ∧ s_tok b n p ≤ 13
        · have hgt := s_en_gt (b := b) (n := n) (p := p) (by omega)
          have l := s_en_le b h
          rw [s_one9 q4.1 q4.2]; simp only [List.length_append, List.length_cons, List.length_nil]; omega
        · rw [s_one10 q q2 q3 q4]; exact ⟨Nat.le_refl _, h, Nat.le_refl _⟩
theorem s_gd_no (n : Nat) : s_gd n (fun s => (false, s)) := fun s h => ⟨Nat.le_refl _, h, Nat.le_refl _⟩
theorem s_gd_sum {b : Nat → Nat} {n : Nat} {on : zPS → Bool × zPS} (h : s_gd n on) : s_gd n (s_sum b n on) := s_gd_bin rfl (s_gd_bin rfl h)
theorem s_gd_exp {b : Nat → Nat} {n : Nat} {nt : zPS → Bool × zPS} (h : s_gd n nt) : s_gd n (s_exp b n nt) := s_gd_bin rfl (s_gd_bin rfl h)
theorem s_gd_lv (b : Nat → Nat) (n : Nat) : ∀ f, s_gd n (s_lv b n f).1 ∧ s_gd n (s_lv b n f).2.1 ∧ s_gd n (s_lv b n f).2.2
  | 0 => by
    have o := s_gd_one (b := b) (r := false) (s_gd_no n) (s_gd_no n)
    have nn := s_gd_not (b := b) (r := false) (s_gd_no n) (s_gd_sum (b := b) o)
    exact ⟨s_gd_exp nn, nn, o⟩
  | f + 1 => by
    obtain ⟨h1, h2, h3⟩ := s_gd_lv b n f
    have o := s_gd_one (b := b) (r := true) h1 h3
    have nn := s_gd_not (b := b) (r := true) h2 (s_gd_sum (b := b) o)
    exact ⟨s_gd_exp nn, nn, o⟩
theorem x_lv0 (E : zE) (d : Nat) (J : Nat → Nat → Int64) (w : Nat) (b : Nat → Nat) (n : Nat) (h256 : ∀ k, k < n → b k < 256) (hn : n ≤ 160) : s_rd E (d + 14) 67 5 J w b n (s_lv b n 0).1 ∧ s_rd E (d + 12) 69 5 J w b n (s_lv b n 0).2.1 ∧ s_rd E (d + 9) 72 5 J w b n (s_lv b n 0).2.2 := by
  have G := s_gd_lv b n 0
  have one : ∀ d, s_rd E (d + 9) 72 5 J w b n (s_lv b n 0).2.2 := fun d => x_readOne_0 E d J w b n _ _ h256 hn
  have trm : ∀ d, s_rd E (d + 10) 71 5 J w b n (s_trm b n (s_lv b n 0).2.2) := fun d => x_readTerm_r E (d + 2) 5 J w b n _ (one d) G.2.2 (by decide) h256 hn
  have sm : ∀ d, s_rd E (d + 11) 70 5 J w b n (s_sum b n (s_lv b n 0).2.2) := fun d => x_readSum_r E (d + 3) 5 J w b n _ (trm d) (s_gd_bin rfl G.2.2) (by decide) h256 hn
  have nt : ∀ d, s_rd E (d + 12) 69 5 J w b n (s_lv b n 0).2.1 := fun d => x_readNot_0 E (d + 3) J w b n _ _ (sm d) (s_gd_sum G.2.2) h256 hn
  have an : ∀ d, s_rd E (d + 13) 68 5 J w b n (s_bin b n (fun t => t == 6) (s_lv b n 0).2.1) := fun d => x_readAnd_r E (d + 5) 5 J w b n _ (nt d) G.2.1 (by decide) h256 hn
  exact ⟨x_readE_r E (d + 6) 5 J w b n _ (an d) (s_gd_bin rfl G.2.1) (by decide) h256 hn, nt d, one d⟩
theorem x_lv1 (E : zE) (d : Nat) (J : Nat → Nat → Int64) (w : Nat) (b : Nat → Nat) (n : Nat) (h256 : ∀ k, k < n → b k < 256) (hn : n ≤ 160) : s_rd E (d + 20) 67 4 J w b n (s_lv b n 1).1 ∧ s_rd E (d + 18) 69 4 J w b n (s_lv b n 1).2.1 ∧ s_rd E (d + 15) 72 4 J w b n (s_lv b n 1).2.2 := by
  have G := s_gd_lv b n 1
  have G' := s_gd_lv b n 0
  have one : ∀ d, s_rd E (d + 15) 72 4 J w b n (s_lv b n 1).2.2 := fun d => x_readOne_r E (d + 6) 4 J w b n _ _ (x_lv0 E d J w b n h256 hn).1 G'.1 (x_lv0 E (d + 5) J w b n h256 hn).2.2 G'.2.2 (by decide) h256 hn
  have trm : ∀ d, s_rd E (d + 16) 71 4 J w b n (s_trm b n (s_lv b n 1).2.2) := fun d => x_readTerm_r E (d + 8) 4 J w b n _ (one d) G.2.2 (by decide) h256 hn
  have sm : ∀ d, s_rd E (d + 17) 70 4 J w b n (s_sum b n (s_lv b n 1).2.2) := fun d => x_readSum_r E (d + 9) 4 J w b n _ (trm d) (s_gd_bin rfl G.2.2) (by decide) h256 hn
  have nt : ∀ d, s_rd E (d + 18) 69 4 J w b n (s_lv b n 1).2.1 := fun d => x_readNot_r E (d + 9) 4 J w b n _ _ (sm d) (s_gd_sum G.2.2) (x_lv0 E (d + 5) J w b n h256 hn).2.1 G'.2.1 (by decide) h256 hn
  have an : ∀ d, s_rd E (d + 19) 68 4 J w b n (s_bin b n (fun t => t == 6) (s_lv b n 1).2.1) := fun d => x_readAnd_r E (d + 11) 4 J w b n _ (nt d) G.2.1 (by decide) h256 hn
  exact ⟨x_readE_r E (d + 12) 4 J w b n _ (an d) (s_gd_bin rfl G.2.1) (by decide) h256 hn, nt d, one d⟩
theorem x_lv2 (E : zE) (d : Nat) (J : Nat → Nat → Int64) (w : Nat) (b : Nat → Nat) (n : Nat) (h256 : ∀ k, k < n → b k < 256) (hn : n ≤ 160) : s_rd E (d + 26) 67 3 J w b n (s_lv b n 2).1 ∧ s_rd E (d + 24) 69 3 J w b n (s_lv b n 2).2.1 ∧ s_rd E (d + 21) 72 3 J w b n (s_lv b n 2).2.2 := by
  have G := s_gd_lv b n 2
  have G' := s_gd_lv b n 1
  have one : ∀ d, s_rd E (d + 21) 72 3 J w b n (s_lv b n 2).2.2 := fun d => x_readOne_r E (d + 12) 3 J w b n _ _ (x_lv1 E d J w b n h256 hn).1 G'.1 (x_lv1 E (d + 5) J w b n h256 hn).2.2 G'.2.2 (by decide) h256 hn
  have trm : ∀ d, s_rd E (d + 22) 71 3 J w b n (s_trm b n (s_lv b n 2).2.2) := fun d => x_readTerm_r E (d + 14) 3 J w b n _ (one d) G.2.2 (by decide) h256 hn
  have sm : ∀ d, s_rd E (d + 23) 70 3 J w b n (s_sum b n (s_lv b n 2).2.2) := fun d => x_readSum_r E (d + 15) 3 J w b n _ (trm d) (s_gd_bin rfl G.2.2) (by decide) h256 hn
  have nt : ∀ d, s_rd E (d + 24) 69 3 J w b n (s_lv b n 2).2.1 := fun d => x_readNot_r E (d + 15) 3 J w b n _ _ (sm d) (s_gd_sum G.2.2) (x_lv1 E (d + 5) J w b n h256 hn).2.1 G'.2.1 (by decide) h256 hn
  have an : ∀ d, s_rd E (d + 25) 68 3 J w b n (s_bin b n (fun t => t == 6) (s_lv b n 2).2.1) := fun d => x_readAnd_r E (d + 17) 3 J w b n _ (nt d) G.2.1 (by decide) h256 hn
  exact ⟨x_readE_r E (d + 18) 3 J w b n _ (an d) (s_gd_bin rfl G.2.1) (by decide) h256 hn, nt d, one d⟩
theorem x_lv3 (E : zE) (d : Nat) (J : Nat → Nat → Int64) (w : Nat) (b : Nat → Nat) (n : Nat) (h256 : ∀ k, k < n → b k < 256) (hn : n ≤ 160) : s_rd E (d + 32) 67 2 J w b n (s_lv b n 3).1 ∧ s_rd E (d + 30) 69 2 J w b n (s_lv b n 3).2.1 ∧ s_rd E (d + 27) 72 2 J w b n (s_lv b n 3).2.2 := by
  have G := s_gd_lv b n 3
  have G' := s_gd_lv b n 2
  have one : ∀ d, s_rd E (d + 27) 72 2 J w b n (s_lv b n 3).2.2 := fun d => x_readOne_r E (d + 18) 2 J w b n _ _ (x_lv2 E d J w b n h256 hn).1 G'.1 (x_lv2 E (d + 5) J w b n h256 hn).2.2 G'.2.2 (by decide) h256 hn
  have trm : ∀ d, s_rd E (d + 28) 71 2 J w b n (s_trm b n (s_lv b n 3).2.2) := fun d => x_readTerm_r E (d + 20) 2 J w b n _ (one d) G.2.2 (by decide) h256 hn
  have sm : ∀ d, s_rd E (d + 29) 70 2 J w b n (s_sum b n (s_lv b n 3).2.2) := fun d => x_readSum_r E (d + 21) 2 J w b n _ (trm d) (s_gd_bin rfl G.2.2) (by decide) h256 hn
  have nt : ∀ d, s_rd E (d + 30) 69 2 J w b n (s_lv b n 3).2.1 := fun d => x_readNot_r E (d + 21) 2 J w b n _ _ (sm d) (s_gd_sum G.2.2) (x_lv2 E (d + 5) J w b n h256 hn).2.1 G'.2.1 (by decide) h256 hn
  have an : ∀ d, s_rd E (d + 31) 68 2 J w b n (s_bin b n (fun t => t == 6) (s_lv b n 3).2.1) := fun d => x_readAnd_r E (d + 23) 2 J w b n _ (nt d) G.2.1 (by decide) h256 hn
  exact ⟨x_readE_r E (d + 24) 2 J w b n _ (an d) (s_gd_bin rfl G.2.1) (by decide) h256 hn, nt d, one d⟩
theorem x_lv4 (E : zE) (d : Nat) (J : Nat → Nat → Int64) (w : Nat) (b : Nat → Nat) (n : Nat) (h256 : ∀ k, k < n → b k < 256) (hn : n ≤ 160) : s_rd E (d + 38) 67 1 J w b n (s_lv b n 4).1 ∧ s_rd E (d + 36) 69 1 J w b n (s_lv b n 4).2.1 ∧ s_rd E (d + 33) 72 1 J w b n (s_lv b n 4).2.2 := by
  have G := s_gd_lv b n 4
  have G' := s_gd_lv b n 3
  have one : ∀ d, s_rd E (d + 33) 72 1 J w b n (s_lv b n 4).2.2 := fun d => x_readOne_r E (d + 24) 1 J w b n _ _ (x_lv3 E d J w b n h256 hn).1 G'.1 (x_lv3 E (d + 5) J w b n h256 hn).2.2 G'.2.2 (by decide) h256 hn
  have trm : ∀ d, s_rd E (d + 34) 71 1 J w b n (s_trm b n (s_lv b n 4).2.2) := fun d => x_readTerm_r E (d + 26) 1 J w b n _ (one d) G.2.2 (by decide) h256 hn
  have sm : ∀ d, s_rd E (d + 35) 70 1 J w b n (s_sum b n (s_lv b n 4).2.2) := fun d => x_readSum_r E (d + 27) 1 J w b n _ (trm d) (s_gd_bin rfl G.2.2) (by decide) h256 hn
  have nt : ∀ d, s_rd E (d + 36) 69 1 J w b n (s_lv b n 4).2.1 := fun d => x_readNot_r E (d + 27) 1 J w b n _ _ (sm d) (s_gd_sum G.2.2) (x_lv3 E (d + 5) J w b n h256 hn).2.1 G'.2.1 (by decide) h256 hn
  have an : ∀ d, s_rd E (d + 37) 68 1 J w b n (s_bin b n (fun t => t == 6) (s_lv b n 4).2.1) := fun d => x_readAnd_r E (d + 29) 1 J w b n _ (nt d) G.2.1 (by decide) h256 hn
  exact ⟨x_readE_r E (d + 30) 1 J w b n _ (an d) (s_gd_bin rfl G.2.1) (by decide) h256 hn, nt d, one d⟩
theorem x_lv5 (E : zE) (d : Nat) (J : Nat → Nat → Int64) (w : Nat) (b : Nat → Nat) (n : Nat) (h256 : ∀ k, k < n → b k < 256) (hn : n ≤ 160) : s_rd E (d + 44) 67 0 J w b n (s_lv b n 5).1 ∧ s_rd E (d + 42) 69 0 J w b n (s_lv b n 5).2.1 ∧ s_rd E (d + 39) 72 0 J w b n (s_lv b n 5).2.2 := by
  have G := s_gd_lv b n 5
  have G' := s_gd_lv b n 4
  have one : ∀ d, s_rd E (d + 39) 72 0 J w b n (s_lv b n 5).2.2 := fun d => x_readOne_r E (d + 30) 0 J w b n _ _ (x_lv4 E d J w b n h256 hn).1 G'.1 (x_lv4 E (d + 5) J w b n h256 hn).2.2 G'.2.2 (by decide) h256 hn
  have trm : ∀ d, s_rd E (d + 40) 71 0 J w b n (s_trm b n (s_lv b n 5).2.2) := fun d => x_readTerm_r E (d + 32) 0 J w b n _ (one d) G.2.2 (by decide) h256 hn
  have sm : ∀ d, s_rd E (d + 41) 70 0 J w b n (s_sum b n (s_lv b n 5).2.2) := fun d => x_readSum_r E (d + 33) 0 J w b n _ (trm d) (s_gd_bin rfl G.2.2) (by decide) h256 hn
  have nt : ∀ d, s_rd E (d + 42) 69 0 J w b n (s_lv b n 5).2.1 := fun d => x_readNot_r E (d + 33) 0 J w b n _ _ (sm d) (s_gd_sum G.2.2) (x_lv4 E (d + 5) J w b n h256 hn).2.1 G'.2.1 (by decide) h256 hn
  have an : ∀ d, s_rd E (d + 43) 68 0 J w b n (s_bin b n (fun t => t == 6) (s_lv b n 5).2.1) := fun d => x_readAnd_r E (d + 35) 0 J w b n _ (nt d) G.2.1 (by decide) h256 hn
  exact ⟨x_readE_r E (d + 36) 0 J w b n _ (an d) (s_gd_bin rfl G.2.1) (by decide) h256 hn, nt d, one d⟩
