-- HIDDEN by the reference: its loop; both alike
def s_ismin (G : Nat → Bool) (D : Nat → Nat) (k x : Nat) : Prop := (∃ j, j < k ∧ G j = true ∧ D j = x) ∧ ∀ j, j < k → G j = true → x ≤ D j
def s_ismax (G : Nat → Bool) (D : Nat → Nat) (k x : Nat) : Prop := (∃ j, j < k ∧ G j = true ∧ D j = x) ∧ ∀ j, j < k → G j = true → D j ≤ x
def s_HM (G : Nat → Bool) (D : Nat → Nat) (u : Nat) (n l m : Int32) : Prop := n = nI (s_ct G u) ∧ ((s_ct G u = 0 ∧ l = 9 ∧ m = (-1)) ∨ ∃ lo hi, l = nI lo ∧ m = nI hi ∧ s_ismin G D u lo ∧ s_ismax G D u hi)
theorem s_min_f {G : Nat → Bool} {D : Nat → Nat} {k x : Nat} (h : G k = false) (q : s_ismin G D k x) : s_ismin G D (k + 1) x := by
  obtain ⟨⟨j, h1, h2, h3⟩, h4⟩ := q
  refine ⟨⟨j, by omega, h2, h3⟩, fun i hi hG => ?_⟩
  rcases Nat.lt_or_ge i k with r | r
  · exact h4 i r hG
  · rw [show i = k by omega, h] at hG; cases hG
theorem s_max_f {G : Nat → Bool} {D : Nat → Nat} {k x : Nat} (h : G k = false) (q : s_ismax G D k x) : s_ismax G D (k + 1) x := by
  obtain ⟨⟨j, h1, h2, h3⟩, h4⟩ := q
  refine ⟨⟨j, by omega, h2, h3⟩, fun i hi hG => ?_⟩
  rcases Nat.lt_or_ge i k with r | r
  · exact h4 i r hG
  · rw [show i = k by omega, h] at hG; cases hG
theorem s_min_n {G : Nat → Bool} {D : Nat → Nat} {k x : Nat} (h : G k = true) (q : s_ismin G D k x) (l : D k < x) : s_ismin G D (k + 1) (D k) := by
  refine ⟨⟨k, by omega, h, rfl⟩, fun i hi hG => ?_⟩
  rcases Nat.lt_or_ge i k with r | r
  · have := q.2 i r hG; omega
  · rw [show i = k by omega]; exact Nat.le_refl _
theorem s_min_o {G : Nat → Bool} {D : Nat → Nat} {k x : Nat} (q : s_ismin G D k x) (l : ¬ D k < x) : s_ismin G D (k + 1) x := by
  obtain ⟨⟨j, h1, h2, h3⟩, h4⟩ := q
  refine ⟨⟨j, by omega, h2, h3⟩, fun i hi hG => ?_⟩
  rcases Nat.lt_or_ge i k with r | r
  · exact h4 i r hG
  · rw [show i = k by omega]; omega
theorem s_max_n {G : Nat → Bool} {D : Nat → Nat} {k x : Nat} (h : G k = true) (q : s_ismax G D k x) (l : x < D k) : s_ismax G D (k + 1) (D k) := by
  refine ⟨⟨k, by omega, h, rfl⟩, fun i hi hG => ?_⟩
  rcases Nat.lt_or_ge i k with r | r
  · have := q.2 i r hG; omega
  · rw [show i = k by omega]; exact Nat.le_refl _
theorem s_max_o {G : Nat → Bool} {D : Nat → Nat} {k x : Nat} (q : s_ismax G D k x) (l : ¬ x < D k) : s_ismax G D (k + 1) x := by
  obtain ⟨⟨j, h1, h2, h3⟩, h4⟩ := q
  refine ⟨⟨j, by omega, h2, h3⟩, fun i hi hG => ?_⟩
  rcases Nat.lt_or_ge i k with r | r
  · exact h4 i r hG
  · rw [show i = k by omega]; omega
theorem s_min_1 {G : Nat → Bool} {D : Nat → Nat} {k : Nat} (z : s_ct G k = 0) (h : G k = true) : s_ismin G D (k + 1) (D k) ∧ s_ismax G D (k + 1) (D k) := by
  have one : ∀ i, i < k + 1 → G i = true → i = k := fun i hi hG => by
    rcases Nat.lt_or_ge i k with r | r
    · rw [s_ct_0 z i r] at hG; cases hG
    · omega
  exact ⟨⟨⟨k, by omega, h, rfl⟩, fun i hi hG => by rw [one i hi hG]; exact Nat.le_refl _⟩, ⟨⟨k, by omega, h, rfl⟩, fun i hi hG => by rw [one i hi hG]; exact Nat.le_refl _⟩⟩
theorem s_min_u {G : Nat → Bool} {D : Nat → Nat} {k x y : Nat} (a : s_ismin G D k x) (b : s_ismin G D k y) : x = y := by
  obtain ⟨⟨i, i1, i2, i3⟩, i4⟩ := a
  obtain ⟨⟨j, j1, j2, j3⟩, j4⟩ := b
  have := i4 j j1 j2
  have := j4 i i1 i2
  omega
theorem s_max_u {G : Nat → Bool} {D : Nat → Nat} {k x y : Nat} (a : s_ismax G D k x) (b : s_ismax G D k y) : x = y := by
  obtain ⟨⟨i, i1, i2, i3⟩, i4⟩ := a
  obtain ⟨⟨j, j1, j2, j3⟩, j4⟩ := b
  have := i4 j j1 j2
  have := j4 i i1 i2
  omega
theorem m_hidL (E : zE) (d : Nat) (I : Nat → Nat → Int32) (J : Nat → Nat → Int64) (w : Nat) (v c : Int32) (G : Nat → Bool) (D : Nat → Nat) (hD : ∀ u, D u ≤ 3) (hf : ∀ u, u < 65536 → z_cl E (d + 3) 244 [.ref 127, .int (nI u)] (161, I, J, RF w) = some (some (.int (bif G u then 1 else 0)), 161, I, J, RF w)) (hx : ∀ u, u < 65536 → G u = true → ∀ n l m x7 r, z_Ev E (d + 3) z_m245 73 [some (.ref 127), some (.int v), some (.int c), some (.int n), some (.int l), some (.int m), some (.int (nI u)), some (.int (nI (D u)))] [] 161 (I, J, RF w) r → z_Ev E (d + 3) z_m245 38 [some (.ref 127), some (.int v), some (.int c), some (.int n), some (.int l), some (.int m), some (.int (nI u)), x7] [] 161 (I, J, RF w) r) : ∀ k u n l m x7, u + k = 65536 → s_HM G D u n l m → ∃ n' l' m' x7', s_HM G D 65536 n' l' m' ∧ ∀ r, z_Ev E (d + 3) z_m245 38 [some (.ref 127), some (.int v), some (.int c), some (.int n'), some (.int l'), some (.int m'), some (.int (nI 65536)), x7'] [] 161 (I, J, RF w) r → z_Ev E (d + 3) z_m245 38 [some (.ref 127), some (.int v), some (.int c), some (.int n), some (.int l), some (.int m), some (.int (nI u)), x7] [] 161 (I, J, RF w) r
  | 0, u, n, l, m, x7, hk, hS => by
    have e : u = 65536 := hk
    rw [e] at hS
    exact ⟨n, l, m, x7, hS, fun r h => by rw [e]; exact h⟩
  | k + 1, u, n, l, m, x7, hk, hS => by
    have hu : u < 65536 := by omega
    have b1 := s_ct_le G u
    cases hG : G u with
    | false =>
      have t1 := hf u hu
      rw [hG] at t1
      obtain ⟨n', l', m', x7', q1, q2⟩ := m_hidL E d I J w v c G D hD hf hx k (u + 1) n l m x7 (by omega) (by
        refine ⟨by rw [s_ct_f hG]; exact hS.1, ?_⟩
        rcases hS.2 with h | ⟨lo, hi, h1, h2, h3, h4⟩
        · exact .inl (by rw [s_ct_f hG]; exact h)
        · exact .inr ⟨lo, hi, h1, h2, s_min_f hG h3, s_max_f hG h4⟩)
      exact ⟨n', l', m', x7', q1, fun r h => m_hd_no E d I J w v c n l m u x7 hu t1 (q2 r h)⟩
    | true =>
      have en : n + 1 = nI (s_ct G (u + 1)) := by rw [hS.1, s_ct_t hG, nI_1]
      have bD := hD u
      -- the four roads
      have go : ∀ l1 m1, s_HM G D (u + 1) (n + 1) l1 m1 → (∀ r, z_Ev E (d + 3) z_m245 38 [some (.ref 127), some (.int v), some (.int c), some (.int (n + 1)), some (.int l1), some (.int m1), some (.int (nI (u + 1))), some (.int (nI (D u)))] [] 161 (I, J, RF w) r → z_Ev E (d + 3) z_m245 73 [some (.ref 127), some (.int v), some (.int c), some (.int n), some (.int l), some (.int m), some (.int (nI u)), some (.int (nI (D u)))] [] 161 (I, J, RF w) r) → ∃ n' l' m' x7', s_HM G D 65536 n' l' m' ∧ ∀ r, z_Ev E (d + 3) z_m245 38 [some (.ref 127), some (.int v), some (.int c), some (.int n'), some (.int l'), some (.int m'), some (.int (nI 65536)), x7'] [] 161 (I, J, RF w) r → z_Ev E (d + 3) z_m245 38 [some (.ref 127), some (.int v), some (.int c), some (.int n), some (.int l), some (.int m), some (.int (nI u)), x7] [] 161 (I, J, RF w) r := by
        intro l1 m1 hS1 road
        obtain ⟨n', l', m', x7', q1, q2⟩ := m_hidL E d I J w v c G D hD hf hx k (u + 1) (n + 1) l1 m1 (some (.int (nI (D u)))) (by omega) hS1
        exact ⟨n', l', m', x7', q1, fun r h => hx u hu hG n l m x7 r (road r (q2 r h))⟩
      rcases hS.2 with ⟨h1, h2, h3⟩ | ⟨lo, hi, h1, h2, h3, h4⟩
      · obtain ⟨a1, a2⟩ := s_min_1 (D := D) h1 hG
        exact go _ _ ⟨en, .inr ⟨D u, D u, rfl, rfl, a1, a2⟩⟩ (fun r h => m_hd_TT E d I J w v c n l m u (nI (D u)) (by rw [h2]; exact (z_ltN (b := 9) rfl rfl (by omega) (by decide)).mpr (by omega)) (by rw [h3]; exact z_1ltn rfl (by omega)) h)
      · have lo3 : lo ≤ 3 := by obtain ⟨⟨j, _, _, e⟩, _⟩ := h3; rw [← e]; exact hD j
        have hi3 : hi ≤ 3 := by obtain ⟨⟨j, _, _, e⟩, _⟩ := h4; rw [← e]; exact hD j
        have i1 : nI (D u) < l ↔ D u < lo := z_ltN rfl h1 (by omega) (by omega)
        have i2 : m < nI (D u) ↔ hi < D u := z_ltN h2 rfl (by omega) (by omega)
        by_cases c1 : D u < lo
        · by_cases c2 : hi < D u
          · exact go _ _ ⟨en, .inr ⟨D u, D u, rfl, rfl, s_min_n hG h3 c1, s_max_n hG h4 c2⟩⟩ (fun r h => m_hd_TT E d I J w v c n l m u (nI (D u)) (i1.mpr c1) (i2.mpr c2) h)
          · exact go _ _ ⟨en, .inr ⟨D u, hi, rfl, h2, s_min_n hG h3 c1, s_max_o h4 c2⟩⟩ (fun r h => m_hd_TF E d I J w v c n l m u (nI (D u)) (i1.mpr c1) (mt i2.mp c2) h)
        · by_cases c2 : hi < D u
          · exact go _ _ ⟨en, .inr ⟨lo, D u, h1, rfl, s_min_o h3 c1, s_max_n hG h4 c2⟩⟩ (fun r h => m_hd_FT E d I J w v c n l m u (nI (D u)) (mt i1.mp c1) (i2.mpr c2) h)
          · exact go _ _ ⟨en, .inr ⟨lo, hi, h1, h2, s_min_o h3 c1, s_max_o h4 c2⟩⟩ (fun r h => m_hd_FF E d I J w v c n l m u (nI (D u)) (mt i1.mp c1) (mt i2.mp c2) h)
-- the class's least and most
theorem s_lo_inv (Z : Nat → Bool) (i : Nat) : ∀ k, (∀ j, j < k → Z j = true → s_lo Z i k ≤ s_dgt j i) ∧ (s_lo Z i k = 3 ∨ ∃ j, j < k ∧ Z j = true ∧ s_dgt j i = s_lo Z i k)
  | 0 => ⟨fun j hj => absurd hj (Nat.not_lt_zero j), .inl rfl⟩
  | k + 1 => by
    obtain ⟨h1, h2⟩ := s_lo_inv Z i k
    cases q : Z k with
    | false =>
      rw [s_lo_f q]
      refine ⟨fun j hj hZ => ?_, ?_⟩
      · rcases Nat.lt_or_ge j k with r | r
        · exact h1 j r hZ
        · rw [show j = k by omega, q] at hZ; cases hZ
      · rcases h2 with h2 | ⟨j, a, b, c⟩
        · exact .inl h2
        · exact .inr ⟨j, by omega, b, c⟩
    | true =>
      rw [s_lo_t q]
      refine ⟨fun j hj hZ => ?_, ?_⟩
      · rcases Nat.lt_or_ge j k with r | r
        · exact Nat.le_trans (Nat.min_le_left _ _) (h1 j r hZ)
        · rw [show j = k by omega]; exact Nat.min_le_right _ _
      · rcases Nat.le_total (s_lo Z i k) (s_dgt k i) with r | r
        · rw [Nat.min_eq_left r]
          rcases h2 with h2 | ⟨j, a, b, c⟩
          · exact .inl h2
          · exact .inr ⟨j, by omega, b, c⟩
        · rw [Nat.min_eq_right r]; exact .inr ⟨k, by omega, q, rfl⟩
theorem s_hi_inv (Z : Nat → Bool) (i : Nat) : ∀ k, (∀ j, j < k → Z j = true → s_dgt j i ≤ s_hi Z i k) ∧ (s_hi Z i k = 0 ∨ ∃ j, j < k ∧ Z j = true ∧ s_dgt j i = s_hi Z i k)
  | 0 => ⟨fun j hj => absurd hj (Nat.not_lt_zero j), .inl rfl⟩
  | k + 1 => by
    obtain ⟨h1, h2⟩ := s_hi_inv Z i k
    cases q : Z k with
    | false =>
      rw [s_hi_f q]
      refine ⟨fun j hj hZ => ?_, ?_⟩
      · rcases Nat.lt_or_ge j k with r | r
        · exact h1 j r hZ
        · rw [show j = k by omega, q] at hZ; cases hZ
      · rcases h2 with h2 | ⟨j, a, b, c⟩
        · exact .inl h2
        · exact .inr ⟨j, by omega, b, c⟩
    | true =>
      rw [s_hi_t q]
      refine ⟨fun j hj hZ => ?_, ?_⟩
      · rcases Nat.lt_or_ge j k with r | r
        · exact Nat.le_trans (h1 j r hZ) (Nat.le_max_left _ _)
        · rw [show j = k by omega]; exact Nat.le_max_right _ _
      · rcases Nat.le_total (s_dgt k i) (s_hi Z i k) with r | r
        · rw [Nat.max_eq_left r]
          rcases h2 with h2 | ⟨j, a, b, c⟩
          · exact .inl h2
          · exact .inr ⟨j, by omega, b, c⟩
        · rw [Nat.max_eq_right r]; exact .inr ⟨k, by omega, q, rfl⟩
theorem s_lo_min {Z : Nat → Bool} {i k : Nat} (h : ∃ j, j < k ∧ Z j = true) : s_ismin Z (fun j => s_dgt j i) k (s_lo Z i k) := by
  obtain ⟨h1, h2⟩ := s_lo_inv Z i k
  refine ⟨?_, h1⟩
  rcases h2 with h2 | h2
  · obtain ⟨j, a, b⟩ := h
    refine ⟨j, a, b, ?_⟩
    have := h1 j a b
    have := s_dgt_le j i
    show s_dgt j i = _
    omega
  · exact h2
theorem s_hi_max {Z : Nat → Bool} {i k : Nat} (h : ∃ j, j < k ∧ Z j = true) : s_ismax Z (fun j => s_dgt j i) k (s_hi Z i k) := by
  obtain ⟨h1, h2⟩ := s_hi_inv Z i k
  refine ⟨?_, h1⟩
  rcases h2 with h2 | h2
  · obtain ⟨j, a, b⟩ := h
    refine ⟨j, a, b, ?_⟩
    have := h1 j a b
    show s_dgt j i = _
    omega
  · exact h2
theorem s_any_iff {F : Nat → Nat → Bool} {b : Nat} : ∀ {k : Nat}, s_any F b k = true ↔ ∃ a, a < k ∧ F a b = true
  | 0 => ⟨fun h => absurd h (by intro q; exact Bool.noConfusion q), fun q => by obtain ⟨a, h, _⟩ := q; exact absurd h (Nat.not_lt_zero a)⟩
  | k + 1 => by
    rw [s_any_or, Bool.or_eq_true, s_any_iff]
    constructor
    · rintro (⟨a, h1, h2⟩ | h)
      · exact ⟨a, by omega, h2⟩
      · exact ⟨k, by omega, h⟩
    · rintro ⟨a, h1, h2⟩
      rcases Nat.lt_or_ge a k with r | r
      · exact .inl ⟨a, r, h2⟩
      · rw [show a = k by omega] at h2; exact .inr h2
theorem s_ct_any {F : Nat → Bool} : ∀ {k : Nat} {j : Nat}, j < k → F j = true → 0 < s_ct F k
  | 0, j, h, _ => absurd h (Nat.not_lt_zero j)
  | k + 1, j, h, q => by
    cases r : F k with
    | true => rw [s_ct_t r]; omega
    | false =>
      rw [s_ct_f r]
      refine s_ct_any (j := j) ?_ q
      rcases Nat.lt_or_ge j k with u | u
      · exact u
      · rw [show j = k by omega, r] at q; cases q
theorem s_Za_iff {F : Nat → Nat → Bool} {a : Nat} : s_Za F a = true ↔ ∃ b, b < 256 ∧ F a b = true := by
  unfold s_Za
  rw [decide_eq_true_iff]
  exact ⟨fun h => s_ct_pos h, fun ⟨b, h1, h2⟩ => s_ct_any h1 h2⟩
theorem s_dgt_low {a b c : Nat} (ha : a < 256) (hc : c < 4) : s_dgt (256 * b + a) c = s_dgt a c := by
  unfold s_dgt
  rcases (by omega : c = 0 ∨ c = 1 ∨ c = 2 ∨ c = 3) with e | e | e | e <;> subst e <;> simp only [show 4 ^ 0 = 1 from rfl, show 4 ^ 1 = 4 from rfl, show 4 ^ 2 = 16 from rfl, show 4 ^ 3 = 64 from rfl] <;> omega
theorem s_dgt_high {a b j : Nat} (ha : a < 256) (hj : j < 4) : s_dgt (256 * b + a) (4 + j) = s_dgt b j := by
  unfold s_dgt
  rcases (by omega : j = 0 ∨ j = 1 ∨ j = 2 ∨ j = 3) with e | e | e | e <;> subst e <;> simp only [show 4 ^ 0 = 1 from rfl, show 4 ^ 1 = 4 from rfl, show 4 ^ 2 = 16 from rfl, show 4 ^ 3 = 64 from rfl, show 4 ^ (4 + 0) = 256 from rfl, show 4 ^ (4 + 1) = 1024 from rfl, show 4 ^ (4 + 2) = 4096 from rfl, show 4 ^ (4 + 3) = 16384 from rfl] <;> omega
-- sums
def s_sm (f : Nat → Nat) (k : Nat) : Nat := z_fo (fun j s => s + f j) 0 k
theorem s_sm_s (f : Nat → Nat) (k : Nat) : s_sm f (k + 1) = s_sm f k + f k := rfl
theorem s_sm_congr {f g : Nat → Nat} : ∀ {k : Nat}, (∀ j, j < k → f j = g j) → s_sm f k = s_sm g k
  | 0, _ => rfl
  | k + 1, h => by rw [s_sm_s, s_sm_s, s_sm_congr (fun j hj => h j (by omega)), h k (by omega)]
theorem s_sm_plus (f g : Nat → Nat) : ∀ k, s_sm (fun j => f j + g j) k = s_sm f k + s_sm g k
  | 0 => rfl
  | k + 1 => by rw [s_sm_s, s_sm_s, s_sm_s, s_sm_plus f g k]; omega
theorem s_sm_app (f : Nat → Nat) (m : Nat) : ∀ k, s_sm f (m + k) = s_sm f m + s_sm (fun j => f (m + j)) k
  | 0 => rfl
  | k + 1 => by rw [← Nat.add_assoc, s_sm_s, s_sm_s, s_sm_app f m k]; omega
theorem s_sm_zero : ∀ k, s_sm (fun _ => 0) k = 0
  | 0 => rfl
  | k + 1 => by rw [s_sm_s, s_sm_zero k]
theorem s_sm_swap (f : Nat → Nat → Nat) (m : Nat) : ∀ n, s_sm (fun b => s_sm (fun a => f a b) m) n = s_sm (fun a => s_sm (fun b => f a b) n) m
  | 0 => (s_sm_zero m).symm
  | n + 1 => by
    rw [s_sm_s, s_sm_swap f m n, ← s_sm_plus]
    rfl
theorem s_ct_sm (F : Nat → Bool) : ∀ k, s_ct F k = s_sm (fun j => (F j).toNat) k
  | 0 => rfl
  | k + 1 => by
    rw [s_sm_s, ← s_ct_sm F k]
    cases h : F k with
    | true => rw [s_ct_t h]; rfl
    | false => rw [s_ct_f h]; rfl
theorem s_sm_blocks (f : Nat → Nat) (m : Nat) : ∀ n, s_sm f (m * n) = s_sm (fun b => s_sm (fun a => f (m * b + a)) m) n
  | 0 => rfl
  | n + 1 => by rw [Nat.mul_succ, s_sm_app, s_sm_blocks f m n, s_sm_s]
theorem s_ct_c2 {F : Nat → Nat → Bool} {G : Nat → Bool} (h : ∀ a b, a < 256 → b < 256 → G (256 * b + a) = F a b) : s_ct G 65536 = s_c2 F 256 := by
  rw [s_ct_sm, show 65536 = 256 * 256 from rfl, s_sm_blocks]
  have e1 : s_sm (fun b => s_sm (fun a => (G (256 * b + a)).toNat) 256) 256 = s_sm (fun b => s_sm (fun a => (F a b).toNat) 256) 256 := s_sm_congr (fun b hb => s_sm_congr (fun a ha => by rw [h a b ha hb]))
  rw [e1, s_sm_swap (fun a b => (F a b).toNat)]
  exact s_sm_congr (fun a _ => (s_ct_sm (F a) 256).symm)
theorem s_alike_low {F : Nat → Nat → Bool} {G : Nat → Bool} (h : ∀ a b, a < 256 → b < 256 → G (256 * b + a) = F a b) {c lo hi : Nat} (hc : c < 4) (h1 : s_ismin G (fun u => s_dgt u c) 65536 lo) (h2 : s_ismax G (fun u => s_dgt u c) 65536 hi) : s_lo (s_Za F) c 256 = lo ∧ s_hi (s_Za F) c 256 = hi := by
  have sp : ∀ u, u < 65536 → G u = true → s_Za F (u % 256) = true ∧ s_dgt u c = s_dgt (u % 256) c := fun u hu hG => by
    have e : u = 256 * (u / 256) + u % 256 := by omega
    refine ⟨s_Za_iff.mpr ⟨u / 256, by omega, ?_⟩, ?_⟩
    · rw [← h (u % 256) (u / 256) (by omega) (by omega), ← e]; exact hG
    · have t := s_dgt_low (b := u / 256) (show u % 256 < 256 by omega) hc
      rw [← e] at t; exact t
  have ps : ∀ a, a < 256 → s_Za F a = true → ∃ u, u < 65536 ∧ G u = true ∧ s_dgt u c = s_dgt a c := fun a ha hZ => by
    obtain ⟨b, hb, hF⟩ := s_Za_iff.mp hZ
    exact ⟨256 * b + a, by omega, (h a b ha hb).trans hF, s_dgt_low ha hc⟩
  have ne : ∃ j, j < 256 ∧ s_Za F j = true := by
    obtain ⟨⟨u, u1, u2, _⟩, _⟩ := h1
    exact ⟨u % 256, by omega, (sp u u1 u2).1⟩
  obtain ⟨⟨a, a1, a2, a3⟩, a4⟩ := s_lo_min (i := c) ne
  obtain ⟨⟨b, b1, b2, b3⟩, b4⟩ := s_hi_max (i := c) ne
  constructor
  · refine s_min_u (G := G) (D := fun u => s_dgt u c) (k := 65536) ⟨?_, fun u hu hG => ?_⟩ h1
    · obtain ⟨u, u1, u2, u3⟩ := ps a a1 a2
      exact ⟨u, u1, u2, u3.trans a3⟩
    · show _ ≤ s_dgt u _; rw [(sp u hu hG).2]; exact a4 (u % 256) (by omega) (sp u hu hG).1
  · refine s_max_u (G := G) (D := fun u => s_dgt u c) (k := 65536) ⟨?_, fun u hu hG => ?_⟩ h2
    · obtain ⟨u, u1, u2, u3⟩ := ps b b1 b2
      exact ⟨u, u1, u2, u3.trans b3⟩
    · show s_dgt u _ ≤ _; rw [(sp u hu hG).2]; exact b4 (u % 256) (by omega) (sp u hu hG).1
theorem s_alike_high {F : Nat → Nat → Bool} {G : Nat → Bool} (h : ∀ a b, a < 256 → b < 256 → G (256 * b + a) = F a b) {c lo hi : Nat} (hc : c < 4) (h1 : s_ismin G (fun u => s_dgt u (4 + c)) 65536 lo) (h2 : s_ismax G (fun u => s_dgt u (4 + c)) 65536 hi) : s_lo (fun b => s_any F b 256) c 256 = lo ∧ s_hi (fun b => s_any F b 256) c 256 = hi := by
  have sp : ∀ u, u < 65536 → G u = true → s_any F (u / 256) 256 = true ∧ s_dgt u (4 + c) = s_dgt (u / 256) c := fun u hu hG => by
    have e : u = 256 * (u / 256) + u % 256 := by omega
    refine ⟨s_any_iff.mpr ⟨u % 256, by omega, ?_⟩, ?_⟩
    · rw [← h (u % 256) (u / 256) (by omega) (by omega), ← e]; exact hG
    · have t := s_dgt_high (b := u / 256) (show u % 256 < 256 by omega) hc
      rw [← e] at t; exact t
  have ps : ∀ b, b < 256 → s_any F b 256 = true → ∃ u, u < 65536 ∧ G u = true ∧ s_dgt u (4 + c) = s_dgt b c := fun b hb hZ => by
    obtain ⟨a, ha, hF⟩ := s_any_iff.mp hZ
    exact ⟨256 * b + a, by omega, (h a b ha hb).trans hF, s_dgt_high ha hc⟩
  have ne : ∃ j, j < 256 ∧ (fun b => s_any F b 256) j = true := by
    obtain ⟨⟨u, u1, u2, _⟩, _⟩ := h1
    exact ⟨u / 256, by omega, (sp u u1 u2).1⟩
  obtain ⟨⟨a, a1, a2, a3⟩, a4⟩ := s_lo_min (i := c) ne
  obtain ⟨⟨b, b1, b2, b3⟩, b4⟩ := s_hi_max (i := c) ne
  constructor
  · refine s_min_u (G := G) (D := fun u => s_dgt u (4 + c)) (k := 65536) ⟨?_, fun u hu hG => ?_⟩ h1
    · obtain ⟨u, u1, u2, u3⟩ := ps a a1 a2
      exact ⟨u, u1, u2, u3.trans a3⟩
    · show _ ≤ s_dgt u _; rw [(sp u hu hG).2]; exact a4 (u / 256) (by omega) (sp u hu hG).1
  · refine s_max_u (G := G) (D := fun u => s_dgt u (4 + c)) (k := 65536) ⟨?_, fun u hu hG => ?_⟩ h2
    · obtain ⟨u, u1, u2, u3⟩ := ps b b1 b2
      exact ⟨u, u1, u2, u3.trans b3⟩
    · show s_dgt u _ ≤ _; rw [(sp u hu hG).2]; exact b4 (u / 256) (by omega) (sp u hu hG).1
