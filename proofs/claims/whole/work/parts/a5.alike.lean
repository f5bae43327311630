-- FACTS ALIKE
theorem z_fo8 {α : Type} {f g : Nat → α → α} {a : α} (h : ∀ k, k < 8 → ∀ x, f k x = g k x) : z_fo f a 8 = z_fo g a 8 := z_fo_congr h
theorem z_see_congr {L L' R R' : Nat → Int32} (h : ∀ c, c < 8 → L c = L' c) (h' : ∀ c, c < 8 → R c = R' c) : z_see L R = z_see L' R' := z_fo8 (fun k hk x => by rw [h k hk, h' k hk])
theorem z_see_k {L R : Nat → Int32} (hL : ∀ c, c < 8 → ∃ x, x ≤ 1000000000 ∧ L c = nI x) (hR : ∀ c, c < 8 → ∃ y, y ≤ 999 ∧ R c = nI y) : ∀ k, k ≤ 8 → ∃ s, s ≤ k * 999000000000 ∧ z_fo (fun c s => s + (L c).toInt64 * (R c).toInt64) 0 k = Int64.ofNat s
  | 0, _ => ⟨0, by decide, rfl⟩
  | k + 1, h => by
    obtain ⟨s, h1, h2⟩ := z_see_k hL hR k (by omega)
    obtain ⟨x, x1, x2⟩ := hL k (by omega)
    obtain ⟨y, y1, y2⟩ := hR k (by omega)
    have m : x * y ≤ 1000000000 * 999 := Nat.mul_le_mul x1 y1
    refine ⟨s + x * y, by omega, ?_⟩
    show z_fo (fun c s => s + (L c).toInt64 * (R c).toInt64) 0 k + (L k).toInt64 * (R k).toInt64 = _
    rw [h2, x2, y2, z_i64 (by omega), z_i64 (by omega), Int64.ofNat_add, Int64.ofNat_mul]
theorem z_see_nat {L R : Nat → Int32} (hL : ∀ c, c < 8 → ∃ x, x ≤ 1000000000 ∧ L c = nI x) (hR : ∀ c, c < 8 → ∃ y, y ≤ 999 ∧ R c = nI y) : ∃ s, s < 2 ^ 44 ∧ z_see L R = Int64.ofNat s := by
  obtain ⟨s, h1, h2⟩ := z_see_k hL hR 8 (by decide)
  exact ⟨s, by omega, h2⟩
theorem z_sub64 {x y : Nat} (hx : x ≤ 1000000000) (hy : y ≤ 1000000000) : (nI x - nI y).toInt64 = (nI x).toInt64 - (nI y).toInt64 := by
  apply Int64.toInt_inj.1
  rw [Int32.toInt_toInt64, Int32.toInt_sub, Int64.toInt_sub, Int32.toInt_toInt64, Int32.toInt_toInt64, nI_toInt (by omega), nI_toInt (by omega)]
  rw [Int.bmod_eq_of_le (by omega) (by omega), Int.bmod_eq_of_le (by omega) (by omega)]
theorem z_apa_see {A B R : Nat → Int32} (hA : ∀ c, c < 8 → ∃ x, x ≤ 1000000000 ∧ A c = nI x) (hB : ∀ c, c < 8 → ∃ x, x ≤ 1000000000 ∧ B c = nI x) : ∀ k, k ≤ 8 → z_fo (fun c s => s + (A c - B c).toInt64 * (R c).toInt64) 0 k = z_fo (fun c s => s + (A c).toInt64 * (R c).toInt64) 0 k - z_fo (fun c s => s + (B c).toInt64 * (R c).toInt64) 0 k
  | 0, _ => by show (0 : Int64) = 0 - 0; rfl
  | k + 1, h => by
    show z_fo (fun c s => s + (A c - B c).toInt64 * (R c).toInt64) 0 k + (A k - B k).toInt64 * (R k).toInt64 = (z_fo (fun c s => s + (A c).toInt64 * (R c).toInt64) 0 k + (A k).toInt64 * (R k).toInt64) - (z_fo (fun c s => s + (B c).toInt64 * (R c).toInt64) 0 k + (B k).toInt64 * (R k).toInt64)
    obtain ⟨x, x1, x2⟩ := hA k (by omega)
    obtain ⟨y, y1, y2⟩ := hB k (by omega)
    rw [z_apa_see hA hB k (by omega), x2, y2, z_sub64 x1 y1]
    grind
theorem z_abs_df {x y : Nat} (hx : x < 2 ^ 44) (hy : y < 2 ^ 44) : z_abs (Int64.ofNat x - Int64.ofNat y) = s_df (Int64.ofNat x) (Int64.ofNat y) := by
  have t : (Int64.ofNat x - Int64.ofNat y).toInt = (x : Int) - y := by
    rw [Int64.toInt_sub, Int64.toInt_ofNat_of_lt (by omega), Int64.toInt_ofNat_of_lt (by omega), Int.bmod_eq_of_le (by omega) (by omega)]
  have l : Int64.ofNat x < Int64.ofNat y ↔ x < y := by
    rw [Int64.lt_iff_toInt_lt, Int64.toInt_ofNat_of_lt (by omega), Int64.toInt_ofNat_of_lt (by omega)]; omega
  have p : 0 < Int64.ofNat x - Int64.ofNat y ↔ y < x := by
    rw [Int64.lt_iff_toInt_lt, t]
    show (0 : Int) < _ ↔ _
    omega
  unfold z_abs s_df
  by_cases h : x < y
  · rw [if_pos (l.mpr h), if_neg (fun q => by have := p.mp q; omega)]
    grind
  · rw [if_neg (fun q => h (l.mp q))]
    by_cases h2 : y < x
    · rw [if_pos (p.mpr h2)]
    · rw [if_neg (fun q => h2 (p.mp q)), show x = y by omega]
      grind
theorem s_fx_fm {A B A' B' : Nat → Int32} {R R' : Nat → Nat → Int32} {q t : Nat} (hA : ∀ c, c < 8 → ∃ x, x ≤ 1000000000 ∧ A c = nI x ∧ A' c = nI x) (hB : ∀ c, c < 8 → ∃ x, x ≤ 1000000000 ∧ B c = nI x ∧ B' c = nI x) (hR : t < q → ∀ c, c < 8 → ∃ y, y ≤ 999 ∧ R t c = nI y ∧ R' t c = nI y) : s_fx A B R q t = s_fm A' B' R' q t := by
  unfold s_fx s_fm
  by_cases h : t < q
  · rw [if_pos h, if_pos h]
    have eA : z_see A' (R' t) = z_see A (R t) := z_see_congr (fun c hc => by obtain ⟨x, _, h1, h2⟩ := hA c hc; rw [h1, h2]) (fun c hc => by obtain ⟨x, _, h1, h2⟩ := hR h c hc; rw [h1, h2])
    have eB : z_see B' (R' t) = z_see B (R t) := z_see_congr (fun c hc => by obtain ⟨x, _, h1, h2⟩ := hB c hc; rw [h1, h2]) (fun c hc => by obtain ⟨x, _, h1, h2⟩ := hR h c hc; rw [h1, h2])
    have hA' : ∀ c, c < 8 → ∃ x, x ≤ 1000000000 ∧ A c = nI x := fun c hc => by obtain ⟨x, h0, h1, _⟩ := hA c hc; exact ⟨x, h0, h1⟩
    have hB' : ∀ c, c < 8 → ∃ x, x ≤ 1000000000 ∧ B c = nI x := fun c hc => by obtain ⟨x, h0, h1, _⟩ := hB c hc; exact ⟨x, h0, h1⟩
    have hR' : ∀ c, c < 8 → ∃ x, x ≤ 999 ∧ R t c = nI x := fun c hc => by obtain ⟨x, h0, h1, _⟩ := hR h c hc; exact ⟨x, h0, h1⟩
    have ap : z_apa A B (R t) = z_see A (R t) - z_see B (R t) := z_apa_see hA' hB' 8 (by decide)
    obtain ⟨x, hx, ex⟩ := z_see_nat hA' hR'
    obtain ⟨y, hy, ey⟩ := z_see_nat hB' hR'
    rw [eA, eB, ap, ex, ey, z_abs_df hx hy]
    unfold s_ap
    by_cases g : 1000000 < s_df (Int64.ofNat x) (Int64.ofNat y) / 1000
    · rw [if_pos g, if_pos g]; rfl
    · rw [if_neg g, if_neg g]
  · rw [if_neg h, if_neg h]
theorem s_fs_congr {f g : Nat → Int32} : ∀ {n : Nat}, (∀ t, t < n → f t = g t) → s_fs f n = s_fs g n
  | 0, _ => rfl
  | n + 1, h => by
    show s_fs f n + f n = s_fs g n + g n
    rw [s_fs_congr (n := n) (fun t ht => h t (by omega)), h n (by omega)]
theorem s_fa_congr {f g : Nat → Int32} {kd h : Int32} (e : ∀ t, t < 3 → f t = g t) : s_fa f kd h = s_fa g kd h := by
  funext j
  unfold s_fa
  by_cases q : j < 3
  · rw [if_pos q, if_pos q, e j q]
  · rw [if_neg q, if_neg q, s_fs_congr e]
