-- HIDDEN: the packed sums
def s_pk (g : Nat → Nat) (n : Nat) : Nat := s_sm (fun f => g f * 65536 ^ f) n
theorem s_pk_s (g : Nat → Nat) (n : Nat) : s_pk g (n + 1) = s_pk g n + g n * 65536 ^ n := rfl
theorem s_pk_add (g h : Nat → Nat) (n : Nat) : s_pk g n + s_pk h n = s_pk (fun f => g f + h f) n := by
  unfold s_pk
  rw [← s_sm_plus]
  exact s_sm_congr (fun j _ => (Nat.add_mul _ _ _).symm)
theorem s_pk_mul (g : Nat → Nat) (k : Nat) : ∀ n, s_pk g n * k = s_pk (fun f => g f * k) n
  | 0 => Nat.zero_mul k
  | n + 1 => by rw [s_pk_s, s_pk_s, Nat.add_mul, s_pk_mul g k n, Nat.mul_right_comm]
theorem s_pk_lt {g : Nat → Nat} : ∀ {n : Nat}, (∀ f, f < n → g f < 65536) → s_pk g n < 65536 ^ n
  | 0, _ => by show 0 < 65536 ^ 0; decide
  | n + 1, h => by
    have h1 := s_pk_lt (n := n) (fun f hf => h f (by omega))
    have h2 := h n (by omega)
    rw [s_pk_s, Nat.pow_succ]
    have h3 : g n * 65536 ^ n ≤ 65535 * 65536 ^ n := Nat.mul_le_mul (by omega) (Nat.le_refl _)
    omega
theorem s_pk_inj {g h : Nat → Nat} : ∀ {n : Nat}, (∀ f, f < n → g f < 65536) → (∀ f, f < n → h f < 65536) → (s_pk g n = s_pk h n ↔ ∀ f, f < n → g f = h f)
  | 0, _, _ => ⟨fun _ f hf => absurd hf (Nat.not_lt_zero f), fun _ => rfl⟩
  | n + 1, hg, hh => by
    have ih := s_pk_inj (n := n) (fun f hf => hg f (by omega)) (fun f hf => hh f (by omega))
    have b1 := s_pk_lt (n := n) (g := g) (fun f hf => hg f (by omega))
    have b2 := s_pk_lt (n := n) (g := h) (fun f hf => hh f (by omega))
    have bp : 0 < 65536 ^ n := Nat.pow_pos (by decide)
    rw [s_pk_s, s_pk_s]
    constructor
    · intro e
      have d1 : (s_pk g n + g n * 65536 ^ n) / 65536 ^ n = g n := by rw [Nat.add_mul_div_right _ _ bp, Nat.div_eq_of_lt b1, Nat.zero_add]
      have d2 : (s_pk h n + h n * 65536 ^ n) / 65536 ^ n = h n := by rw [Nat.add_mul_div_right _ _ bp, Nat.div_eq_of_lt b2, Nat.zero_add]
      have e1 : g n = h n := by rw [← d1, ← d2, e]
      rw [e1] at e
      have e2 := ih.mp (Nat.add_right_cancel e)
      intro f hf
      rcases Nat.lt_or_ge f n with r | r
      · exact e2 f r
      · rw [show f = n by omega]; exact e1
    · intro e
      rw [ih.mpr (fun f hf => e f (by omega)), e n (by omega)]
theorem s_pk_62 {g : Nat → Nat} {n : Nat} (hn : n ≤ 4) (h : ∀ f, f < n → g f ≤ 2000) : s_pk g n < 2 ^ 62 := by
  rcases (by omega : n = 0 ∨ n = 1 ∨ n = 2 ∨ n = 3 ∨ n = 4) with e | e | e | e | e <;> subst e
  · show 0 < 2 ^ 62; decide
  · have := h 0 (by decide)
    show 0 + g 0 * 1 < _
    omega
  · have := h 0 (by decide)
    have := h 1 (by decide)
    show 0 + g 0 * 1 + g 1 * 65536 < _
    omega
  · have := h 0 (by decide)
    have := h 1 (by decide)
    have := h 2 (by decide)
    show 0 + g 0 * 1 + g 1 * 65536 + g 2 * 4294967296 < _
    omega
  · have := h 0 (by decide)
    have := h 1 (by decide)
    have := h 2 (by decide)
    have := h 3 (by decide)
    show 0 + g 0 * 1 + g 1 * 65536 + g 2 * 4294967296 + g 3 * 281474976710656 < _
    omega
theorem s_wf_n {J : Nat → Nat → Int64} {P : Nat → Nat} {f h : Nat} (hh : h < 256) (hJ : ∀ i, i < 4 → J 111 (f + i) = Int64.ofNat (P i)) : s_wf J f h = Int64.ofNat (P 0 * s_dgt h 0 + P 1 * s_dgt h 1 + P 2 * s_dgt h 2 + P 3 * s_dgt h 3) := by
  have d : ∀ i, i < 4 → (s_dr h (nI i)).toInt64 = Int64.ofNat (s_dgt h i) := fun i hi => by
    rw [show s_dr h (nI i) = nI (s_dgt h i) from s_dr_n (by omega) (by omega), z_i64 (by have := s_dgt_le h i; omega)]
  unfold s_wf
  rw [show (s_dr h 0).toInt64 = Int64.ofNat (s_dgt h 0) from d 0 (by decide), show (s_dr h 1).toInt64 = Int64.ofNat (s_dgt h 1) from d 1 (by decide), show (s_dr h 2).toInt64 = Int64.ofNat (s_dgt h 2) from d 2 (by decide), show (s_dr h 3).toInt64 = Int64.ofNat (s_dgt h 3) from d 3 (by decide), show J 111 f = Int64.ofNat (P 0) from hJ 0 (by decide), hJ 1 (by decide), hJ 2 (by decide), hJ 3 (by decide), Int64.ofNat_add, Int64.ofNat_add, Int64.ofNat_add, Int64.ofNat_mul, Int64.ofNat_mul, Int64.ofNat_mul, Int64.ofNat_mul, Int64.zero_add]
theorem s_sub64 {x y z : Nat} (hx : x + z < 2 ^ 63) (hy : y < 2 ^ 63) : Int64.ofNat x = Int64.ofNat y - Int64.ofNat z ↔ x + z = y := by
  constructor
  · intro e
    have e1 : Int64.ofNat (x + z) = Int64.ofNat y := by rw [Int64.ofNat_add, e]; exact Int64.sub_add_cancel _ _
    have e2 := congrArg Int64.toInt e1
    rw [Int64.toInt_ofNat_of_lt hx, Int64.toInt_ofNat_of_lt hy] at e2
    omega
  · intro e
    rw [← e, Int64.ofNat_add]
    exact (Int64.add_sub_cancel _ _).symm
theorem s_FG {J : Nat → Nat → Int64} {W : Nat → Nat → Nat} {rd : Nat → Nat} {n : Nat} (hn : n ≤ 4) (hW : ∀ f c, f < n → c < 8 → W f c ≤ 9) (hrd : ∀ f, f < n → rd f ≤ 999) (hJ : ∀ c, c < 8 → J 111 c = Int64.ofNat (s_pk (fun f => W f c) n)) (hR : J 110 1 = Int64.ofNat (s_pk rd n)) {a b : Nat} (ha : a < 256) (hb : b < 256) : s_FJ J a b = decide (∀ f, f < n → s_sm (fun c => s_dgt (256 * b + a) c * W f c) 8 = rd f) := by
  obtain ⟨lf, elf⟩ : ∃ lf : Nat → Nat, lf = fun f => W f 0 * s_dgt a 0 + W f 1 * s_dgt a 1 + W f 2 * s_dgt a 2 + W f 3 * s_dgt a 3 := ⟨_, rfl⟩
  obtain ⟨hf, ehf⟩ : ∃ hf : Nat → Nat, hf = fun f => W f 4 * s_dgt b 0 + W f 5 * s_dgt b 1 + W f 6 * s_dgt b 2 + W f 7 * s_dgt b 3 := ⟨_, rfl⟩
  have e0 : s_wf J 0 a = Int64.ofNat (s_pk lf n) := by
    rw [s_wf_n (P := fun i => s_pk (fun f => W f i) n) ha (fun i hi => by rw [Nat.zero_add]; exact hJ i (by omega))]
    simp only [s_pk_mul, s_pk_add]
    rw [elf]
  have e4 : s_wf J 4 b = Int64.ofNat (s_pk hf n) := by
    rw [s_wf_n (P := fun i => s_pk (fun f => W f (4 + i)) n) hb (fun i hi => hJ (4 + i) (by omega))]
    simp only [s_pk_mul, s_pk_add]
    rw [ehf]
  have m9 : ∀ f c x, f < n → c < 8 → x ≤ 3 → W f c * x ≤ 9 * 3 := fun f c x h1 h2 h3 => Nat.mul_le_mul (hW f c h1 h2) h3
  have bl : ∀ f, f < n → lf f ≤ 108 := fun f h => by
    have := m9 f 0 _ h (by decide) (s_dgt_le a 0)
    have := m9 f 1 _ h (by decide) (s_dgt_le a 1)
    have := m9 f 2 _ h (by decide) (s_dgt_le a 2)
    have := m9 f 3 _ h (by decide) (s_dgt_le a 3)
    rw [elf]
    show W f 0 * s_dgt a 0 + W f 1 * s_dgt a 1 + W f 2 * s_dgt a 2 + W f 3 * s_dgt a 3 ≤ 108
    omega
  have bh : ∀ f, f < n → hf f ≤ 108 := fun f h => by
    have := m9 f 4 _ h (by decide) (s_dgt_le b 0)
    have := m9 f 5 _ h (by decide) (s_dgt_le b 1)
    have := m9 f 6 _ h (by decide) (s_dgt_le b 2)
    have := m9 f 7 _ h (by decide) (s_dgt_le b 3)
    rw [ehf]
    show W f 4 * s_dgt b 0 + W f 5 * s_dgt b 1 + W f 6 * s_dgt b 2 + W f 7 * s_dgt b 3 ≤ 108
    omega
  have p1 : s_pk hf n + s_pk lf n = s_pk (fun f => hf f + lf f) n := s_pk_add hf lf n
  have p2 : s_pk (fun f => hf f + lf f) n < 2 ^ 62 := s_pk_62 hn (fun f h => by have := bl f h; have := bh f h; show hf f + lf f ≤ 2000; omega)
  have p3 : s_pk rd n < 2 ^ 62 := s_pk_62 hn (fun f h => by have := hrd f h; omega)
  have key : (s_wf J 4 b = J 110 1 - s_wf J 0 a) ↔ ∀ f, f < n → s_sm (fun c => s_dgt (256 * b + a) c * W f c) 8 = rd f := by
    rw [e0, e4, hR, s_sub64 (by omega) (by omega), p1, s_pk_inj (fun f h => by have := bl f h; have := bh f h; show hf f + lf f < 65536; omega) (fun f h => by have := hrd f h; omega)]
    refine forall_congr' fun f => forall_congr' fun h => ?_
    have es : s_sm (fun c => s_dgt (256 * b + a) c * W f c) 8 = hf f + lf f := by
      show 0 + s_dgt (256 * b + a) 0 * W f 0 + s_dgt (256 * b + a) 1 * W f 1 + s_dgt (256 * b + a) 2 * W f 2 + s_dgt (256 * b + a) 3 * W f 3 + s_dgt (256 * b + a) (4 + 0) * W f 4 + s_dgt (256 * b + a) (4 + 1) * W f 5 + s_dgt (256 * b + a) (4 + 2) * W f 6 + s_dgt (256 * b + a) (4 + 3) * W f 7 = _
      rw [s_dgt_low ha (by decide), s_dgt_low ha (by decide), s_dgt_low ha (by decide), s_dgt_low ha (by decide), s_dgt_high ha (by decide), s_dgt_high ha (by decide), s_dgt_high ha (by decide), s_dgt_high ha (by decide), elf, ehf]
      simp only [Nat.mul_comm]
      omega
    rw [es]
  unfold s_FJ
  exact decide_eq_decide.mpr key
theorem s_fsum_n {f : Nat → Int32} {x : Nat → Nat} {u : Nat} (hf : ∀ c, c < 8 → f c = nI (x c) ∧ x c ≤ 999) (hu : u < 65536) : ∀ k, k ≤ 8 → s_fsum f (nI u) k = nI (s_sm (fun c => s_dgt u c * (x c % 10)) k)
  | 0, _ => rfl
  | k + 1, h => by
    have b := (hf k (by omega)).2
    show s_fsum f (nI u) k + ((nI u >>> ((2 * nI k) &&& 31)) &&& 3) * (f k - f k / 10 * 10) = _
    rw [s_fsum_n hf hu k (by omega), s_dr_n (by omega) (by omega), (hf k (by omega)).1, show nI (x k) - nI (x k) / 10 * 10 = nI (x k % 10) from z_remE (m := 10) rfl (by omega) (by decide) (by decide), z_mul, nI_add, s_sm_s]
theorem s_sm_27 {u : Nat} {x : Nat → Nat} : ∀ k, s_sm (fun c => s_dgt u c * (x c % 10)) k ≤ 27 * k
  | 0 => Nat.le_refl _
  | k + 1 => by
    have := s_sm_27 (u := u) (x := x) k
    have : s_dgt u k * (x k % 10) ≤ 3 * 9 := Nat.mul_le_mul (s_dgt_le u k) (by omega)
    rw [s_sm_s]
    omega
