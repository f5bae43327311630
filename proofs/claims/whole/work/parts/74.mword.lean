-- WORDS by the reference
def z_wn : List Nat := [108, 105, 107, 101, 32, 116, 114, 117, 101, 32, 111, 114, 32, 32, 32, 97, 110, 100, 32, 32, 110, 111, 116, 32, 32, 97, 32, 32, 32, 32, 98, 32, 32, 32, 32, 99, 32, 32, 32, 32, 115, 117, 109, 32, 32, 107, 105, 110, 100, 32, 104, 111, 117, 114, 32]
set_option maxRecDepth 20000 in
theorem z_wnE : ∀ j, j < 55 → z_wordsL.getD j 0 = nI (z_wn.getD j 0) ∧ z_wn.getD j 0 < 256 := by decide
def s_wn (b : Nat → Nat) (s k : Nat) : Nat := z_fo (fun j a => a * 32 + (b (s + j) - 96)) 0 k
theorem z_ofN64 {x y : Nat} (hx : x < 2 ^ 62) (hy : y < 2 ^ 62) : Int64.ofNat x = Int64.ofNat y ↔ x = y := by
  constructor
  · intro h
    have := congrArg Int64.toInt h
    rw [Int64.toInt_ofNat_of_lt (by omega), Int64.toInt_ofNat_of_lt (by omega)] at this
    omega
  · intro h; rw [h]
theorem s_first_isNone {P : Nat → Bool} {n : Nat} : (s_first P n).isNone = true ↔ ∀ i, i < n → ¬ P i = true := by
  constructor
  · intro h i hi q
    have e : s_first P n = none := by cases r : s_first P n with
      | none => rfl
      | some j => rw [r] at h; cases h
    have := s_first_none e (i + 1) hi
    rw [s_first_t (s_first_none e i (by omega)) q] at this
    cases this
  · intro h
    cases r : s_first P n with
    | none => rfl
    | some j => have := s_first_some r; exact absurd this.2.2 (h j this.1)
theorem s_isw_iff {b : Nat → Nat} {s K k : Nat} (hk : k < 11) (h : ∀ j, j < K → b (s + j) < 256) : s_isw b s (s + K) k = true ↔ K < 5 ∧ ∀ i, i < 5 → z_wn.getD (k * 5 + i) 0 = if i < K then b (s + i) else 32 := by
  unfold s_isw
  rw [Bool.and_eq_true, decide_eq_true_eq, s_first_isNone, show (s + K - s < 5) ↔ K < 5 by omega]
  refine and_congr_right (fun _ => forall_congr' (fun i => forall_congr' (fun hi => ?_)))
  have w := z_wnE (k * 5 + i) (by omega)
  unfold s_ltr
  rw [w.1]
  by_cases q : i < K
  · rw [if_pos (show s + i < s + K by omega), if_pos q]
    have e : nI (z_wn.getD (k * 5 + i) 0) = nI (b (s + i)) ↔ z_wn.getD (k * 5 + i) 0 = b (s + i) := z_eqN rfl rfl (by omega) (by have := h i q; omega)
    rw [← e]
    simp
  · rw [if_neg (show ¬ s + i < s + K by omega), if_neg q]
    have e : nI (z_wn.getD (k * 5 + i) 0) = 32 ↔ z_wn.getD (k * 5 + i) 0 = 32 := z_eqN (b := 32) rfl rfl (by omega) (by decide)
    rw [← e]
    simp
theorem z_i64 {v : Nat} (h : v < 2 ^ 31) : (nI v).toInt64 = Int64.ofNat v := by
  apply Int64.toInt_inj.1
  rw [Int32.toInt_toInt64, nI_toInt h, Int64.toInt_ofNat_of_lt (by omega)]
theorem s_w_n {b : Nat → Nat} {s : Nat} : ∀ K, K ≤ 6 → (∀ j, j < K → 97 ≤ b (s + j) ∧ b (s + j) ≤ 122) → s_w b s K = Int64.ofNat (s_wn b s K) ∧ s_wn b s K < 2 ^ (5 * K)
  | 0, _, _ => ⟨rfl, by show 0 < _; decide⟩
  | K + 1, hK, h => by
    obtain ⟨e, l⟩ := s_w_n (b := b) (s := s) K (by omega) (fun j hj => h j (by omega))
    have hb := h K (by omega)
    have a : s_w b s (K + 1) = s_w b s K * 32 + (nI (b (s + K))).toInt64 - 97 + 1 := if_pos (by omega)
    have c : s_wn b s (K + 1) = s_wn b s K * 32 + (b (s + K) - 96) := rfl
    constructor
    · rw [a, e, c, z_i64 (by omega)]
      obtain ⟨u, hu⟩ : ∃ u, b (s + K) = 96 + u := ⟨b (s + K) - 96, by omega⟩
      rw [hu, show 96 + u - 96 = u by omega, Int64.ofNat_add, Int64.ofNat_add, Int64.ofNat_mul]
      show Int64.ofNat (s_wn b s K) * 32 + (96 + Int64.ofNat u) - 97 + 1 = Int64.ofNat (s_wn b s K) * 32 + Int64.ofNat u
      grind
    · rw [c, show 5 * (K + 1) = 5 * K + 5 by omega, Nat.pow_add]
      omega
theorem s_w_far {b : Nat → Nat} {s : Nat} : ∀ K, 6 ≤ K → s_w b s (K + 1) = -1 := fun K h => if_neg (by omega)
theorem s_wn1 (b : Nat → Nat) (s : Nat) : s_wn b s 1 = 0 * 32 + (b (s + 0) - 96) := rfl
theorem s_wn2 (b : Nat → Nat) (s : Nat) : s_wn b s 2 = (0 * 32 + (b (s + 0) - 96)) * 32 + (b (s + 1) - 96) := rfl
theorem s_wn3 (b : Nat → Nat) (s : Nat) : s_wn b s 3 = ((0 * 32 + (b (s + 0) - 96)) * 32 + (b (s + 1) - 96)) * 32 + (b (s + 2) - 96) := rfl
theorem s_wn4 (b : Nat → Nat) (s : Nat) : s_wn b s 4 = (((0 * 32 + (b (s + 0) - 96)) * 32 + (b (s + 1) - 96)) * 32 + (b (s + 2) - 96)) * 32 + (b (s + 3) - 96) := rfl
theorem s_wn5 (b : Nat → Nat) (s : Nat) : s_wn b s 5 = ((((0 * 32 + (b (s + 0) - 96)) * 32 + (b (s + 1) - 96)) * 32 + (b (s + 2) - 96)) * 32 + (b (s + 3) - 96)) * 32 + (b (s + 4) - 96) := rfl
theorem s_wn6 (b : Nat → Nat) (s : Nat) : s_wn b s 6 = (((((0 * 32 + (b (s + 0) - 96)) * 32 + (b (s + 1) - 96)) * 32 + (b (s + 2) - 96)) * 32 + (b (s + 3) - 96)) * 32 + (b (s + 4) - 96)) * 32 + (b (s + 5) - 96) := rfl
theorem z_wk0 {b : Nat → Nat} {s K : Nat} (h1 : 1 ≤ K) (h6 : K ≤ 6) (h : ∀ j, j < K → 97 ≤ b (s + j) ∧ b (s + j) ≤ 122) : (K < 5 ∧ ∀ i, i < 5 → z_wn.getD (0 * 5 + i) 0 = if i < K then b (s + i) else 32) ↔ s_wn b s K = 402789 := by
  have z : (∀ i, i < 5 → z_wn.getD (0 * 5 + i) 0 = if i < K then b (s + i) else 32) ↔ ((108 = if 0 < K then b (s + 0) else 32) ∧ (105 = if 1 < K then b (s + 1) else 32) ∧ (107 = if 2 < K then b (s + 2) else 32) ∧ (101 = if 3 < K then b (s + 3) else 32) ∧ (32 = if 4 < K then b (s + 4) else 32)) := by
    constructor
    · intro q; exact ⟨q 0 (by decide), q 1 (by decide), q 2 (by decide), q 3 (by decide), q 4 (by decide)⟩
    · rintro ⟨qq0, qq1, qq2, qq3, qq4⟩ i hi
      rcases (by omega : i = 0 ∨ i = 1 ∨ i = 2 ∨ i = 3 ∨ i = 4) with e | e | e | e | e <;> subst e
      · exact qq0
      · exact qq1
      · exact qq2
      · exact qq3
      · exact qq4
  rw [z]
  rcases (by omega : K = 1 ∨ K = 2 ∨ K = 3 ∨ K = 4 ∨ K = 5 ∨ K = 6) with e | e | e | e | e | e <;> subst e
  · rw [s_wn1]
    have g0 := h 0 (by decide)
    simp only [if_pos (show 0 < 1 by decide), if_neg (show ¬ 1 < 1 by decide), if_neg (show ¬ 2 < 1 by decide), if_neg (show ¬ 3 < 1 by decide), if_neg (show ¬ 4 < 1 by decide)]
    constructor
    · intro hh
      omega
    · intro hh
      refine ⟨by first | trivial | omega, ?_, ?_, ?_, ?_, ?_⟩ <;> first | trivial | omega
  · rw [s_wn2]
    have g0 := h 0 (by decide)
    have g1 := h 1 (by decide)
    simp only [if_pos (show 0 < 2 by decide), if_pos (show 1 < 2 by decide), if_neg (show ¬ 2 < 2 by decide), if_neg (show ¬ 3 < 2 by decide), if_neg (show ¬ 4 < 2 by decide)]
    constructor
    · intro hh
      omega
    · intro hh
      refine ⟨by first | trivial | omega, ?_, ?_, ?_, ?_, ?_⟩ <;> first | trivial | omega
  · rw [s_wn3]
    have g0 := h 0 (by decide)
    have g1 := h 1 (by decide)
    have g2 := h 2 (by decide)
    simp only [if_pos (show 0 < 3 by decide), if_pos (show 1 < 3 by decide), if_pos (show 2 < 3 by decide), if_neg (show ¬ 3 < 3 by decide), if_neg (show ¬ 4 < 3 by decide)]
    constructor
    · intro hh
      omega
    · intro hh
      refine ⟨by first | trivial | omega, ?_, ?_, ?_, ?_, ?_⟩ <;> first | trivial | omega
  · rw [s_wn4]
    have g0 := h 0 (by decide)
    have g1 := h 1 (by decide)
    have g2 := h 2 (by decide)
    have g3 := h 3 (by decide)
    simp only [if_pos (show 0 < 4 by decide), if_pos (show 1 < 4 by decide), if_pos (show 2 < 4 by decide), if_pos (show 3 < 4 by decide), if_neg (show ¬ 4 < 4 by decide)]
    constructor
    · intro hh
      omega
    · intro hh
      refine ⟨by first | trivial | omega, ?_, ?_, ?_, ?_, ?_⟩ <;> first | trivial | omega
  · rw [s_wn5]
    have g0 := h 0 (by decide)
    have g1 := h 1 (by decide)
    have g2 := h 2 (by decide)
    have g3 := h 3 (by decide)
    have g4 := h 4 (by decide)
    simp only [if_pos (show 0 < 5 by decide), if_pos (show 1 < 5 by decide), if_pos (show 2 < 5 by decide), if_pos (show 3 < 5 by decide), if_pos (show 4 < 5 by decide)]
    constructor
    · intro hh
      omega
    · intro hh
      refine ⟨by first | trivial | omega, ?_, ?_, ?_, ?_, ?_⟩ <;> first | trivial | omega
  · rw [s_wn6]
    have g0 := h 0 (by decide)
    have g1 := h 1 (by decide)
    have g2 := h 2 (by decide)
    have g3 := h 3 (by decide)
    have g4 := h 4 (by decide)
    have g5 := h 5 (by decide)
    simp only [if_pos (show 0 < 6 by decide), if_pos (show 1 < 6 by decide), if_pos (show 2 < 6 by decide), if_pos (show 3 < 6 by decide), if_pos (show 4 < 6 by decide)]
    constructor
    · intro hh
      omega
    · intro hh
      refine ⟨by first | trivial | omega, ?_, ?_, ?_, ?_, ?_⟩ <;> first | trivial | omega
theorem z_wk1 {b : Nat → Nat} {s K : Nat} (h1 : 1 ≤ K) (h6 : K ≤ 6) (h : ∀ j, j < K → 97 ≤ b (s + j) ∧ b (s + j) ≤ 122) : (K < 5 ∧ ∀ i, i < 5 → z_wn.getD (1 * 5 + i) 0 = if i < K then b (s + i) else 32) ↔ s_wn b s K = 674469 := by
  have z : (∀ i, i < 5 → z_wn.getD (1 * 5 + i) 0 = if i < K then b (s + i) else 32) ↔ ((116 = if 0 < K then b (s + 0) else 32) ∧ (114 = if 1 < K then b (s + 1) else 32) ∧ (117 = if 2 < K then b (s + 2) else 32) ∧ (101 = if 3 < K then b (s + 3) else 32) ∧ (32 = if 4 < K then b (s + 4) else 32)) := by
    constructor
    · intro q; exact ⟨q 0 (by decide), q 1 (by decide), q 2 (by decide), q 3 (by decide), q 4 (by decide)⟩
    · rintro ⟨qq0, qq1, qq2, qq3, qq4⟩ i hi
      rcases (by omega : i = 0 ∨ i = 1 ∨ i = 2 ∨ i = 3 ∨ i = 4) with e | e | e | e | e <;> subst e
      · exact qq0
      · exact qq1
      · exact qq2
      · exact qq3
      · exact qq4
  rw [z]
  rcases (by omega : K = 1 ∨ K = 2 ∨ K = 3 ∨ K = 4 ∨ K = 5 ∨ K = 6) with e | e | e | e | e | e <;> subst e
  · rw [s_wn1]
    have g0 := h 0 (by decide)
    simp only [if_pos (show 0 < 1 by decide), if_neg (show ¬ 1 < 1 by decide), if_neg (show ¬ 2 < 1 by decide), if_neg (show ¬ 3 < 1 by decide), if_neg (show ¬ 4 < 1 by decide)]
    constructor
    · intro hh
      omega
    · intro hh
      refine ⟨by first | trivial | omega, ?_, ?_, ?_, ?_, ?_⟩ <;> first | trivial | omega
  · rw [s_wn2]
    have g0 := h 0 (by decide)
    have g1 := h 1 (by decide)
    simp only [if_pos (show 0 < 2 by decide), if_pos (show 1 < 2 by decide), if_neg (show ¬ 2 < 2 by decide), if_neg (show ¬ 3 < 2 by decide), if_neg (show ¬ 4 < 2 by decide)]
    constructor
    · intro hh
      omega
    · intro hh
      refine ⟨by first | trivial | omega, ?_, ?_, ?_, ?_, ?_⟩ <;> first | trivial | omega
  · rw [s_wn3]
    have g0 := h 0 (by decide)
    have g1 := h 1 (by decide)
    have g2 := h 2 (by decide)
    simp only [if_pos (show 0 < 3 by decide), if_pos (show 1 < 3 by decide), if_pos (show 2 < 3 by decide), if_neg (show ¬ 3 < 3 by decide), if_neg (show ¬ 4 < 3 by decide)]
    constructor
    · intro hh
      omega
    · intro hh
      refine ⟨by first | trivial | omega, ?_, ?_, ?_, ?_, ?_⟩ <;> first | trivial | omega
  · rw [s_wn4]
    have g0 := h 0 (by decide)
    have g1 := h 1 (by decide)
    have g2 := h 2 (by decide)
    have g3 := h 3 (by decide)
    simp only [if_pos (show 0 < 4 by decide), if_pos (show 1 < 4 by decide), if_pos (show 2 < 4 by decide), if_pos (show 3 < 4 by decide), if_neg (show ¬ 4 < 4 by decide)]
    constructor
    · intro hh
      omega
    · intro hh
      refine ⟨by first | trivial | omega, ?_, ?_, ?_, ?_, ?_⟩ <;> first | trivial | omega
  · rw [s_wn5]
    have g0 := h 0 (by decide)
    have g1 := h 1 (by decide)
    have g2 := h 2 (by decide)
    have g3 := h 3 (by decide)
    have g4 := h 4 (by decide)
    simp only [if_pos (show 0 < 5 by decide), if_pos (show 1 < 5 by decide), if_pos (show 2 < 5 by decide), if_pos (show 3 < 5 by decide), if_pos (show 4 < 5 by decide)]
    constructor
    · intro hh
      omega
    · intro hh
      refine ⟨by first | trivial | omega, ?_, ?_, ?_, ?_, ?_⟩ <;> first | trivial | omega
  · rw [s_wn6]
    have g0 := h 0 (by decide)
    have g1 := h 1 (by decide)
    have g2 := h 2 (by decide)
    have g3 := h 3 (by decide)
    have g4 := h 4 (by decide)
    have g5 := h 5 (by decide)
    simp only [if_pos (show 0 < 6 by decide), if_pos (show 1 < 6 by decide), if_pos (show 2 < 6 by decide), if_pos (show 3 < 6 by decide), if_pos (show 4 < 6 by decide)]
    constructor
    · intro hh
      omega
    · intro hh
      refine ⟨by first | trivial | omega, ?_, ?_, ?_, ?_, ?_⟩ <;> first | trivial | omega
theorem z_wk2 {b : Nat → Nat} {s K : Nat} (h1 : 1 ≤ K) (h6 : K ≤ 6) (h : ∀ j, j < K → 97 ≤ b (s + j) ∧ b (s + j) ≤ 122) : (K < 5 ∧ ∀ i, i < 5 → z_wn.getD (2 * 5 + i) 0 = if i < K then b (s + i) else 32) ↔ s_wn b s K = 498 := by
  have z : (∀ i, i < 5 → z_wn.getD (2 * 5 + i) 0 = if i < K then b (s + i) else 32) ↔ ((111 = if 0 < K then b (s + 0) else 32) ∧ (114 = if 1 < K then b (s + 1) else 32) ∧ (32 = if 2 < K then b (s + 2) else 32) ∧ (32 = if 3 < K then b (s + 3) else 32) ∧ (32 = if 4 < K then b (s + 4) else 32)) := by
    constructor
    · intro q; exact ⟨q 0 (by decide), q 1 (by decide), q 2 (by decide), q 3 (by decide), q 4 (by decide)⟩
    · rintro ⟨qq0, qq1, qq2, qq3, qq4⟩ i hi
      rcases (by omega : i = 0 ∨ i = 1 ∨ i = 2 ∨ i = 3 ∨ i = 4) with e | e | e | e | e <;> subst e
      · exact qq0
      · exact qq1
      · exact qq2
      · exact qq3
      · exact qq4
  rw [z]
  rcases (by omega : K = 1 ∨ K = 2 ∨ K = 3 ∨ K = 4 ∨ K = 5 ∨ K = 6) with e | e | e | e | e | e <;> subst e
  · rw [s_wn1]
    have g0 := h 0 (by decide)
    simp only [if_pos (show 0 < 1 by decide), if_neg (show ¬ 1 < 1 by decide), if_neg (show ¬ 2 < 1 by decide), if_neg (show ¬ 3 < 1 by decide), if_neg (show ¬ 4 < 1 by decide)]
    constructor
    · intro hh
      omega
    · intro hh
      refine ⟨by first | trivial | omega, ?_, ?_, ?_, ?_, ?_⟩ <;> first | trivial | omega
  · rw [s_wn2]
    have g0 := h 0 (by decide)
    have g1 := h 1 (by decide)
    simp only [if_pos (show 0 < 2 by decide), if_pos (show 1 < 2 by decide), if_neg (show ¬ 2 < 2 by decide), if_neg (show ¬ 3 < 2 by decide), if_neg (show ¬ 4 < 2 by decide)]
    constructor
    · intro hh
      omega
    · intro hh
      refine ⟨by first | trivial | omega, ?_, ?_, ?_, ?_, ?_⟩ <;> first | trivial | omega
  · rw [s_wn3]
    have g0 := h 0 (by decide)
    have g1 := h 1 (by decide)
    have g2 := h 2 (by decide)
    simp only [if_pos (show 0 < 3 by decide), if_pos (show 1 < 3 by decide), if_pos (show 2 < 3 by decide), if_neg (show ¬ 3 < 3 by decide), if_neg (show ¬ 4 < 3 by decide)]
    constructor
    · intro hh
      omega
    · intro hh
      refine ⟨by first | trivial | omega, ?_, ?_, ?_, ?_, ?_⟩ <;> first | trivial | omega
  · rw [s_wn4]
    have g0 := h 0 (by decide)
    have g1 := h 1 (by decide)
    have g2 := h 2 (by decide)
    have g3 := h 3 (by decide)
    simp only [if_pos (show 0 < 4 by decide), if_pos (show 1 < 4 by decide), if_pos (show 2 < 4 by decide), if_pos (show 3 < 4 by decide), if_neg (show ¬ 4 < 4 by decide)]
    constructor
    · intro hh
      omega
    · intro hh
      refine ⟨by first | trivial | omega, ?_, ?_, ?_, ?_, ?_⟩ <;> first | trivial | omega
  · rw [s_wn5]
    have g0 := h 0 (by decide)
    have g1 := h 1 (by decide)
    have g2 := h 2 (by decide)
    have g3 := h 3 (by decide)
    have g4 := h 4 (by decide)
    simp only [if_pos (show 0 < 5 by decide), if_pos (show 1 < 5 by decide), if_pos (show 2 < 5 by decide), if_pos (show 3 < 5 by decide), if_pos (show 4 < 5 by decide)]
    constructor
    · intro hh
      omega
    · intro hh
      refine ⟨by first | trivial | omega, ?_, ?_, ?_, ?_, ?_⟩ <;> first | trivial | omega
  · rw [s_wn6]
    have g0 := h 0 (by decide)
    have g1 := h 1 (by decide)
    have g2 := h 2 (by decide)
    have g3 := h 3 (by decide)
    have g4 := h 4 (by decide)
    have g5 := h 5 (by decide)
    simp only [if_pos (show 0 < 6 by decide), if_pos (show 1 < 6 by decide), if_pos (show 2 < 6 by decide), if_pos (show 3 < 6 by decide), if_pos (show 4 < 6 by decide)]
    constructor
    · intro hh
      omega
    · intro hh
      refine ⟨by first | trivial | omega, ?_, ?_, ?_, ?_, ?_⟩ <;> first | trivial | omega
theorem z_wk3 {b : Nat → Nat} {s K : Nat} (h1 : 1 ≤ K) (h6 : K ≤ 6) (h : ∀ j, j < K → 97 ≤ b (s + j) ∧ b (s + j) ≤ 122) : (K < 5 ∧ ∀ i, i < 5 → z_wn.getD (3 * 5 + i) 0 = if i < K then b (s + i) else 32) ↔ s_wn b s K = 1476 := by
  have z : (∀ i, i < 5 → z_wn.getD (3 * 5 + i) 0 = if i < K then b (s + i) else 32) ↔ ((97 = if 0 < K then b (s + 0) else 32) ∧ (110 = if 1 < K then b (s + 1) else 32) ∧ (100 = if 2 < K then b (s + 2) else 32) ∧ (32 = if 3 < K then b (s + 3) else 32) ∧ (32 = if 4 < K then b (s + 4) else 32)) := by
    constructor
    · intro q; exact ⟨q 0 (by decide), q 1 (by decide), q 2 (by decide), q 3 (by decide), q 4 (by decide)⟩
    · rintro ⟨qq0, qq1, qq2, qq3, qq4⟩ i hi
      rcases (by omega : i = 0 ∨ i = 1 ∨ i = 2 ∨ i = 3 ∨ i = 4) with e | e | e | e | e <;> subst e
      · exact qq0
      · exact qq1
      · exact qq2
      · exact qq3
      · exact qq4
  rw [z]
  rcases (by omega : K = 1 ∨ K = 2 ∨ K = 3 ∨ K = 4 ∨ K = 5 ∨ K = 6) with e | e | e | e | e | e <;> subst e
  · rw [s_wn1]
    have g0 := h 0 (by decide)
    simp only [if_pos (show 0 < 1 by decide), if_neg (show ¬ 1 < 1 by decide), if_neg (show ¬ 2 < 1 by decide), if_neg (show ¬ 3 < 1 by decide), if_neg (show ¬ 4 < 1 by decide)]
    constructor
    · intro hh
      omega
    · intro hh
      refine ⟨by first | trivial | omega, ?_, ?_, ?_, ?_, ?_⟩ <;> first | trivial | omega
  · rw [s_wn2]
    have g0 := h 0 (by decide)
    have g1 := h 1 (by decide)
    simp only [if_pos (show 0 < 2 by decide), if_pos (show 1 < 2 by decide), if_neg (show ¬ 2 < 2 by decide), if_neg (show ¬ 3 < 2 by decide), if_neg (show ¬ 4 < 2 by decide)]
    constructor
    · intro hh
      omega
    · intro hh
      refine ⟨by first | trivial | omega, ?_, ?_, ?_, ?_, ?_⟩ <;> first | trivial | omega
  · rw [s_wn3]
    have g0 := h 0 (by decide)
    have g1 := h 1 (by decide)
    have g2 := h 2 (by decide)
    simp only [if_pos (show 0 < 3 by decide), if_pos (show 1 < 3 by decide), if_pos (show 2 < 3 by decide), if_neg (show ¬ 3 < 3 by decide), if_neg (show ¬ 4 < 3 by decide)]
    constructor
    · intro hh
      omega
    · intro hh
      refine ⟨by first | trivial | omega, ?_, ?_, ?_, ?_, ?_⟩ <;> first | trivial | omega
  · rw [s_wn4]
    have g0 := h 0 (by decide)
    have g1 := h 1 (by decide)
    have g2 := h 2 (by decide)
    have g3 := h 3 (by decide)
    simp only [if_pos (show 0 < 4 by decide), if_pos (show 1 < 4 by decide), if_pos (show 2 < 4 by decide), if_pos (show 3 < 4 by decide), if_neg (show ¬ 4 < 4 by decide)]
    constructor
    · intro hh
      omega
    · intro hh
      refine ⟨by first | trivial | omega, ?_, ?_, ?_, ?_, ?_⟩ <;> first | trivial | omega
  · rw [s_wn5]
    have g0 := h 0 (by decide)
    have g1 := h 1 (by decide)
    have g2 := h 2 (by decide)
    have g3 := h 3 (by decide)
    have g4 := h 4 (by decide)
    simp only [if_pos (show 0 < 5 by decide), if_pos (show 1 < 5 by decide), if_pos (show 2 < 5 by decide), if_pos (show 3 < 5 by decide), if_pos (show 4 < 5 by decide)]
    constructor
    · intro hh
      omega
    · intro hh
      refine ⟨by first | trivial | omega, ?_, ?_, ?_, ?_, ?_⟩ <;> first | trivial | omega
  · rw [s_wn6]
    have g0 := h 0 (by decide)
    have g1 := h 1 (by decide)
    have g2 := h 2 (by decide)
    have g3 := h 3 (by decide)
    have g4 := h 4 (by decide)
    have g5 := h 5 (by decide)
    simp only [if_pos (show 0 < 6 by decide), if_pos (show 1 < 6 by decide), if_pos (show 2 < 6 by decide), if_pos (show 3 < 6 by decide), if_pos (show 4 < 6 by decide)]
    constructor
    · intro hh
      omega
    · intro hh
      refine ⟨by first | trivial | omega, ?_, ?_, ?_, ?_, ?_⟩ <;> first | trivial | omega
theorem z_wk4 {b : Nat → Nat} {s K : Nat} (h1 : 1 ≤ K) (h6 : K ≤ 6) (h : ∀ j, j < K → 97 ≤ b (s + j) ∧ b (s + j) ≤ 122) : (K < 5 ∧ ∀ i, i < 5 → z_wn.getD (4 * 5 + i) 0 = if i < K then b (s + i) else 32) ↔ s_wn b s K = 14836 := by
  have z : (∀ i, i < 5 → z_wn.getD (4 * 5 + i) 0 = if i < K then b (s + i) else 32) ↔ ((110 = if 0 < K then b (s + 0) else 32) ∧ (111 = if 1 < K then b (s + 1) else 32) ∧ (116 = if 2 < K then b (s + 2) else 32) ∧ (32 = if 3 < K then b (s + 3) else 32) ∧ (32 = if 4 < K then b (s + 4) else 32)) := by
    constructor
    · intro q; exact ⟨q 0 (by decide), q 1 (by decide), q 2 (by decide), q 3 (by decide), q 4 (by decide)⟩
    · rintro ⟨qq0, qq1, qq2, qq3, qq4⟩ i hi
      rcases (by omega : i = 0 ∨ i = 1 ∨ i = 2 ∨ i = 3 ∨ i = 4) with e | e | e | e | e <;> subst e
      · exact qq0
      · exact qq1
      · exact qq2
      · exact qq3
      · exact qq4
  rw [z]
  rcases (by omega : K = 1 ∨ K = 2 ∨ K = 3 ∨ K = 4 ∨ K = 5 ∨ K = 6) with e | e | e | e | e | e <;> subst e
  · rw [s_wn1]
    have g0 := h 0 (by decide)
    simp only [if_pos (show 0 < 1 by decide), if_neg (show ¬ 1 < 1 by decide), if_neg (show ¬ 2 < 1 by decide), if_neg (show ¬ 3 < 1 by decide), if_neg (show ¬ 4 < 1 by decide)]
    constructor
    · intro hh
      omega
    · intro hh
      refine ⟨by first | trivial | omega, ?_, ?_, ?_, ?_, ?_⟩ <;> first | trivial | omega
  · rw [s_wn2]
    have g0 := h 0 (by decide)
    have g1 := h 1 (by decide)
    simp only [if_pos (show 0 < 2 by decide), if_pos (show 1 < 2 by decide), if_neg (show ¬ 2 < 2 by decide), if_neg (show ¬ 3 < 2 by decide), if_neg (show ¬ 4 < 2 by decide)]
    constructor
    · intro hh
      omega
    · intro hh
      refine ⟨by first | trivial | omega, ?_, ?_, ?_, ?_, ?_⟩ <;> first | trivial | omega
  · rw [s_wn3]
    have g0 := h 0 (by decide)
    have g1 := h 1 (by decide)
    have g2 := h 2 (by decide)
    simp only [if_pos (show 0 < 3 by decide), if_pos (show 1 < 3 by decide), if_pos (show 2 < 3 by decide), if_neg (show ¬ 3 < 3 by decide), if_neg (show ¬ 4 < 3 by decide)]
    constructor
    · intro hh
      omega
    · intro hh
      refine ⟨by first | trivial | omega, ?_, ?_, ?_, ?_, ?_⟩ <;> first | trivial | omega
  · rw [s_wn4]
    have g0 := h 0 (by decide)
    have g1 := h 1 (by decide)
    have g2 := h 2 (by decide)
    have g3 := h 3 (by decide)
    simp only [if_pos (show 0 < 4 by decide), if_pos (show 1 < 4 by decide), if_pos (show 2 < 4 by decide), if_pos (show 3 < 4 by decide), if_neg (show ¬ 4 < 4 by decide)]
    constructor
    · intro hh
      omega
    · intro hh
      refine ⟨by first | trivial | omega, ?_, ?_, ?_, ?_, ?_⟩ <;> first | trivial | omega
  · rw [s_wn5]
    have g0 := h 0 (by decide)
    have g1 := h 1 (by decide)
    have g2 := h 2 (by decide)
    have g3 := h 3 (by decide)
    have g4 := h 4 (by decide)
    simp only [if_pos (show 0 < 5 by decide), if_pos (show 1 < 5 by decide), if_pos (show 2 < 5 by decide), if_pos (show 3 < 5 by decide), if_pos (show 4 < 5 by decide)]
    constructor
    · intro hh
      omega
    · intro hh
      refine ⟨by first | trivial | omega, ?_, ?_, ?_, ?_, ?_⟩ <;> first | trivial | omega
  · rw [s_wn6]
    have g0 := h 0 (by decide)
    have g1 := h 1 (by decide)
    have g2 := h 2 (by decide)
    have g3 := h 3 (by decide)
    have g4 := h 4 (by decide)
    have g5 := h 5 (by decide)
    simp only [if_pos (show 0 < 6 by decide), if_pos (show 1 < 6 by decide), if_pos (show 2 < 6 by decide), if_pos (show 3 < 6 by decide), if_pos (show 4 < 6 by decide)]
    constructor
    · intro hh
      omega
    · intro hh
      refine ⟨by first | trivial | omega, ?_, ?_, ?_, ?_, ?_⟩ <;> first | trivial | omega
theorem z_wk5 {b : Nat → Nat} {s K : Nat} (h1 : 1 ≤ K) (h6 : K ≤ 6) (h : ∀ j, j < K → 97 ≤ b (s + j) ∧ b (s + j) ≤ 122) : (K < 5 ∧ ∀ i, i < 5 → z_wn.getD (5 * 5 + i) 0 = if i < K then b (s + i) else 32) ↔ s_wn b s K = 1 := by
  have z : (∀ i, i < 5 → z_wn.getD (5 * 5 + i) 0 = if i < K then b (s + i) else 32) ↔ ((97 = if 0 < K then b (s + 0) else 32) ∧ (32 = if 1 < K then b (s + 1) else 32) ∧ (32 = if 2 < K then b (s + 2) else 32) ∧ (32 = if 3 < K then b (s + 3) else 32) ∧ (32 = if 4 < K then b (s + 4) else 32)) := by
    constructor
    · intro q; exact ⟨q 0 (by decide), q 1 (by decide), q 2 (by decide), q 3 (by decide), q 4 (by decide)⟩
    · rintro ⟨qq0, qq1, qq2, qq3, qq4⟩ i hi
      rcases (by omega : i = 0 ∨ i = 1 ∨ i = 2 ∨ i = 3 ∨ i = 4) with e | e | e | e | e <;> subst e
      · exact qq0
      · exact qq1
      · exact qq2
      · exact qq3
      · exact qq4
  rw [z]
  rcases (by omega : K = 1 ∨ K = 2 ∨ K = 3 ∨ K = 4 ∨ K = 5 ∨ K = 6) with e | e | e | e | e | e <;> subst e
  · rw [s_wn1]
    have g0 := h 0 (by decide)
    simp only [if_pos (show 0 < 1 by decide), if_neg (show ¬ 1 < 1 by decide), if_neg (show ¬ 2 < 1 by decide), if_neg (show ¬ 3 < 1 by decide), if_neg (show ¬ 4 < 1 by decide)]
    constructor
    · intro hh
      omega
    · intro hh
      refine ⟨by first | trivial | omega, ?_, ?_, ?_, ?_, ?_⟩ <;> first | trivial | omega
  · rw [s_wn2]
    have g0 := h 0 (by decide)
    have g1 := h 1 (by decide)
    simp only [if_pos (show 0 < 2 by decide), if_pos (show 1 < 2 by decide), if_neg (show ¬ 2 < 2 by decide), if_neg (show ¬ 3 < 2 by decide), if_neg (show ¬ 4 < 2 by decide)]
    constructor
    · intro hh
      omega
    · intro hh
      refine ⟨by first | trivial | omega, ?_, ?_, ?_, ?_, ?_⟩ <;> first | trivial | omega
  · rw [s_wn3]
    have g0 := h 0 (by decide)
    have g1 := h 1 (by decide)
    have g2 := h 2 (by decide)
    simp only [if_pos (show 0 < 3 by decide), if_pos (show 1 < 3 by decide), if_pos (show 2 < 3 by decide), if_neg (show ¬ 3 < 3 by decide), if_neg (show ¬ 4 < 3 by decide)]
    constructor
    · intro hh
      omega
    · intro hh
      refine ⟨by first | trivial | omega, ?_, ?_, ?_, ?_, ?_⟩ <;> first | trivial | omega
  · rw [s_wn4]
    have g0 := h 0 (by decide)
    have g1 := h 1 (by decide)
    have g2 := h 2 (by decide)
    have g3 := h 3 (by decide)
    simp only [if_pos (show 0 < 4 by decide), if_pos (show 1 < 4 by decide), if_pos (show 2 < 4 by decide), if_pos (show 3 < 4 by decide), if_neg (show ¬ 4 < 4 by decide)]
    constructor
    · intro hh
      omega
    · intro hh
      refine ⟨by first | trivial | omega, ?_, ?_, ?_, ?_, ?_⟩ <;> first | trivial | omega
  · rw [s_wn5]
    have g0 := h 0 (by decide)
    have g1 := h 1 (by decide)
    have g2 := h 2 (by decide)
    have g3 := h 3 (by decide)
    have g4 := h 4 (by decide)
    simp only [if_pos (show 0 < 5 by decide), if_pos (show 1 < 5 by decide), if_pos (show 2 < 5 by decide), if_pos (show 3 < 5 by decide), if_pos (show 4 < 5 by decide)]
    constructor
    · intro hh
      omega
    · intro hh
      refine ⟨by first | trivial | omega, ?_, ?_, ?_, ?_, ?_⟩ <;> first | trivial | omega
  · rw [s_wn6]
    have g0 := h 0 (by decide)
    have g1 := h 1 (by decide)
    have g2 := h 2 (by decide)
    have g3 := h 3 (by decide)
    have g4 := h 4 (by decide)
    have g5 := h 5 (by decide)
    simp only [if_pos (show 0 < 6 by decide), if_pos (show 1 < 6 by decide), if_pos (show 2 < 6 by decide), if_pos (show 3 < 6 by decide), if_pos (show 4 < 6 by decide)]
    constructor
    · intro hh
      omega
    · intro hh
      refine ⟨by first | trivial | omega, ?_, ?_, ?_, ?_, ?_⟩ <;> first | trivial | omega
theorem z_wk6 {b : Nat → Nat} {s K : Nat} (h1 : 1 ≤ K) (h6 : K ≤ 6) (h : ∀ j, j < K → 97 ≤ b (s + j) ∧ b (s + j) ≤ 122) : (K < 5 ∧ ∀ i, i < 5 → z_wn.getD (6 * 5 + i) 0 = if i < K then b (s + i) else 32) ↔ s_wn b s K = 2 := by
  have z : (∀ i, i < 5 → z_wn.getD (6 * 5 + i) 0 = if i < K then b (s + i) else 32) ↔ ((98 = if 0 < K then b (s + 0) else 32) ∧ (32 = if 1 < K then b (s + 1) else 32) ∧ (32 = if 2 < K then b (s + 2) else 32) ∧ (32 = if 3 < K then b (s + 3) else 32) ∧ (32 = if 4 < K then b (s + 4) else 32)) := by
    constructor
    · intro q; exact ⟨q 0 (by decide), q 1 (by decide), q 2 (by decide), q 3 (by decide), q 4 (by decide)⟩
    · rintro ⟨qq0, qq1, qq2, qq3, qq4⟩ i hi
      rcases (by omega : i = 0 ∨ i = 1 ∨ i = 2 ∨ i = 3 ∨ i = 4) with e | e | e | e | e <;> subst e
      · exact qq0
      · exact qq1
      · exact qq2
      · exact qq3
      · exact qq4
  rw [z]
  rcases (by omega : K = 1 ∨ K = 2 ∨ K = 3 ∨ K = 4 ∨ K = 5 ∨ K = 6) with e | e | e | e | e | e <;> subst e
  · rw [s_wn1]
    have g0 := h 0 (by decide)
    simp only [if_pos (show 0 < 1 by decide), if_neg (show ¬ 1 < 1 by decide), if_neg (show ¬ 2 < 1 by decide), if_neg (show ¬ 3 < 1 by decide), if_neg (show ¬ 4 < 1 by decide)]
    constructor
    · intro hh
      omega
    · intro hh
      refine ⟨by first | trivial | omega, ?_, ?_, ?_, ?_, ?_⟩ <;> first | trivial | omega
  · rw [s_wn2]
    have g0 := h 0 (by decide)
    have g1 := h 1 (by decide)
    simp only [if_pos (show 0 < 2 by decide), if_pos (show 1 < 2 by decide), if_neg (show ¬ 2 < 2 by decide), if_neg (show ¬ 3 < 2 by decide), if_neg (show ¬ 4 < 2 by decide)]
    constructor
    · intro hh
      omega
    · intro hh
      refine ⟨by first | trivial | omega, ?_, ?_, ?_, ?_, ?_⟩ <;> first | trivial | omega
  · rw [s_wn3]
    have g0 := h 0 (by decide)
    have g1 := h 1 (by decide)
    have g2 := h 2 (by decide)
    simp only [if_pos (show 0 < 3 by decide), if_pos (show 1 < 3 by decide), if_pos (show 2 < 3 by decide), if_neg (show ¬ 3 < 3 by decide), if_neg (show ¬ 4 < 3 by decide)]
    constructor
    · intro hh
      omega
    · intro hh
      refine ⟨by first | trivial | omega, ?_, ?_, ?_, ?_, ?_⟩ <;> first | trivial | omega
  · rw [s_wn4]
    have g0 := h 0 (by decide)
    have g1 := h 1 (by decide)
    have g2 := h 2 (by decide)
    have g3 := h 3 (by decide)
    simp only [if_pos (show 0 < 4 by decide), if_pos (show 1 < 4 by decide), if_pos (show 2 < 4 by decide), if_pos (show 3 < 4 by decide), if_neg (show ¬ 4 < 4 by decide)]
    constructor
    · intro hh
      omega
    · intro hh
      refine ⟨by first | trivial | omega, ?_, ?_, ?_, ?_, ?_⟩ <;> first | trivial | omega
  · rw [s_wn5]
    have g0 := h 0 (by decide)
    have g1 := h 1 (by decide)
    have g2 := h 2 (by decide)
    have g3 := h 3 (by decide)
    have g4 := h 4 (by decide)
    simp only [if_pos (show 0 < 5 by decide), if_pos (show 1 < 5 by decide), if_pos (show 2 < 5 by decide), if_pos (show 3 < 5 by decide), if_pos (show 4 < 5 by decide)]
    constructor
    · intro hh
      omega
    · intro hh
      refine ⟨by first | trivial | omega, ?_, ?_, ?_, ?_, ?_⟩ <;> first | trivial | omega
  · rw [s_wn6]
    have g0 := h 0 (by decide)
    have g1 := h 1 (by decide)
    have g2 := h 2 (by decide)
    have g3 := h 3 (by decide)
    have g4 := h 4 (by decide)
    have g5 := h 5 (by decide)
    simp only [if_pos (show 0 < 6 by decide), if_pos (show 1 < 6 by decide), if_pos (show 2 < 6 by decide), if_pos (show 3 < 6 by decide), if_pos (show 4 < 6 by decide)]
    constructor
    · intro hh
      omega
    · intro hh
      refine ⟨by first | trivial | omega, ?_, ?_, ?_, ?_, ?_⟩ <;> first | trivial | omega
theorem z_wk7 {b : Nat → Nat} {s K : Nat} (h1 : 1 ≤ K) (h6 : K ≤ 6) (h : ∀ j, j < K → 97 ≤ b (s + j) ∧ b (s + j) ≤ 122) : (K < 5 ∧ ∀ i, i < 5 → z_wn.getD (7 * 5 + i) 0 = if i < K then b (s + i) else 32) ↔ s_wn b s K = 3 := by
  have z : (∀ i, i < 5 → z_wn.getD (7 * 5 + i) 0 = if i < K then b (s + i) else 32) ↔ ((99 = if 0 < K then b (s + 0) else 32) ∧ (32 = if 1 < K then b (s + 1) else 32) ∧ (32 = if 2 < K then b (s + 2) else 32) ∧ (32 = if 3 < K then b (s + 3) else 32) ∧ (32 = if 4 < K then b (s + 4) else 32)) := by
    constructor
    · intro q; exact ⟨q 0 (by decide), q 1 (by decide), q 2 (by decide), q 3 (by decide), q 4 (by decide)⟩
    · rintro ⟨qq0, qq1, qq2, qq3, qq4⟩ i hi
      rcases (by omega : i = 0 ∨ i = 1 ∨ i = 2 ∨ i = 3 ∨ i = 4) with e | e | e | e | e <;> subst e
      · exact qq0
      · exact qq1
      · exact qq2
      · exact qq3
      · exact qq4
  rw [z]
  rcases (by omega : K = 1 ∨ K = 2 ∨ K = 3 ∨ K = 4 ∨ K = 5 ∨ K = 6) with e | e | e | e | e | e <;> subst e
  · rw [s_wn1]
    have g0 := h 0 (by decide)
    simp only [if_pos (show 0 < 1 by decide), if_neg (show ¬ 1 < 1 by decide), if_neg (show ¬ 2 < 1 by decide), if_neg (show ¬ 3 < 1 by decide), if_neg (show ¬ 4 < 1 by decide)]
    constructor
    · intro hh
      omega
    · intro hh
      refine ⟨by first | trivial | omega, ?_, ?_, ?_, ?_, ?_⟩ <;> first | trivial | omega
  · rw [s_wn2]
    have g0 := h 0 (by decide)
    have g1 := h 1 (by decide)
    simp only [if_pos (show 0 < 2 by decide), if_pos (show 1 < 2 by decide), if_neg (show ¬ 2 < 2 by decide), if_neg (show ¬ 3 < 2 by decide), if_neg (show ¬ 4 < 2 by decide)]
    constructor
    · intro hh
      omega
    · intro hh
      refine ⟨by first | trivial | omega, ?_, ?_, ?_, ?_, ?_⟩ <;> first | trivial | omega
  · rw [s_wn3]
    have g0 := h 0 (by decide)
    have g1 := h 1 (by decide)
    have g2 := h 2 (by decide)
    simp only [if_pos (show 0 < 3 by decide), if_pos (show 1 < 3 by decide), if_pos (show 2 < 3 by decide), if_neg (show ¬ 3 < 3 by decide), if_neg (show ¬ 4 < 3 by decide)]
    constructor
    · intro hh
      omega
    · intro hh
      refine ⟨by first | trivial | omega, ?_, ?_, ?_, ?_, ?_⟩ <;> first | trivial | omega
  · rw [s_wn4]
    have g0 := h 0 (by decide)
    have g1 := h 1 (by decide)
    have g2 := h 2 (by decide)
    have g3 := h 3 (by decide)
    simp only [if_pos (show 0 < 4 by decide), if_pos (show 1 < 4 by decide), if_pos (show 2 < 4 by decide), if_pos (show 3 < 4 by decide), if_neg (show ¬ 4 < 4 by decide)]
    constructor
    · intro hh
      omega
    · intro hh
      refine ⟨by first | trivial | omega, ?_, ?_, ?_, ?_, ?_⟩ <;> first | trivial | omega
  · rw [s_wn5]
    have g0 := h 0 (by decide)
    have g1 := h 1 (by decide)
    have g2 := h 2 (by decide)
    have g3 := h 3 (by decide)
    have g4 := h 4 (by decide)
    simp only [if_pos (show 0 < 5 by decide), if_pos (show 1 < 5 by decide), if_pos (show 2 < 5 by decide), if_pos (show 3 < 5 by decide), if_pos (show 4 < 5 by decide)]
    constructor
    · intro hh
      omega
    · intro hh
      refine ⟨by first | trivial | omega, ?_, ?_, ?_, ?_, ?_⟩ <;> first | trivial | omega
  · rw [s_wn6]
    have g0 := h 0 (by decide)
    have g1 := h 1 (by decide)
    have g2 := h 2 (by decide)
    have g3 := h 3 (by decide)
    have g4 := h 4 (by decide)
    have g5 := h 5 (by decide)
    simp only [if_pos (show 0 < 6 by decide), if_pos (show 1 < 6 by decide), if_pos (show 2 < 6 by decide), if_pos (show 3 < 6 by decide), if_pos (show 4 < 6 by decide)]
    constructor
    · intro hh
      omega
    · intro hh
      refine ⟨by first | trivial | omega, ?_, ?_, ?_, ?_, ?_⟩ <;> first | trivial | omega
theorem z_wk8 {b : Nat → Nat} {s K : Nat} (h1 : 1 ≤ K) (h6 : K ≤ 6) (h : ∀ j, j < K → 97 ≤ b (s + j) ∧ b (s + j) ≤ 122) : (K < 5 ∧ ∀ i, i < 5 → z_wn.getD (8 * 5 + i) 0 = if i < K then b (s + i) else 32) ↔ s_wn b s K = 20141 := by
  have z : (∀ i, i < 5 → z_wn.getD (8 * 5 + i) 0 = if i < K then b (s + i) else 32) ↔ ((115 = if 0 < K then b (s + 0) else 32) ∧ (117 = if 1 < K then b (s + 1) else 32) ∧ (109 = if 2 < K then b (s + 2) else 32) ∧ (32 = if 3 < K then b (s + 3) else 32) ∧ (32 = if 4 < K then b (s + 4) else 32)) := by
    constructor
    · intro q; exact ⟨q 0 (by decide), q 1 (by decide), q 2 (by decide), q 3 (by decide), q 4 (by decide)⟩
    · rintro ⟨qq0, qq1, qq2, qq3, qq4⟩ i hi
      rcases (by omega : i = 0 ∨ i = 1 ∨ i = 2 ∨ i = 3 ∨ i = 4) with e | e | e | e | e <;> subst e
      · exact qq0
      · exact qq1
      · exact qq2
      · exact qq3
      · exact qq4
  rw [z]
  rcases (by omega : K = 1 ∨ K = 2 ∨ K = 3 ∨ K = 4 ∨ K = 5 ∨ K = 6) with e | e | e | e | e | e <;> subst e
  · rw [s_wn1]
    have g0 := h 0 (by decide)
    simp only [if_pos (show 0 < 1 by decide), if_neg (show ¬ 1 < 1 by decide), if_neg (show ¬ 2 < 1 by decide), if_neg (show ¬ 3 < 1 by decide), if_neg (show ¬ 4 < 1 by decide)]
    constructor
    · intro hh
      omega
    · intro hh
      refine ⟨by first | trivial | omega, ?_, ?_, ?_, ?_, ?_⟩ <;> first | trivial | omega
  · rw [s_wn2]
    have g0 := h 0 (by decide)
    have g1 := h 1 (by decide)
    simp only [if_pos (show 0 < 2 by decide), if_pos (show 1 < 2 by decide), if_neg (show ¬ 2 < 2 by decide), if_neg (show ¬ 3 < 2 by decide), if_neg (show ¬ 4 < 2 by decide)]
    constructor
    · intro hh
      omega
    · intro hh
      refine ⟨by first | trivial | omega, ?_, ?_, ?_, ?_, ?_⟩ <;> first | trivial | omega
  · rw [s_wn3]
    have g0 := h 0 (by decide)
    have g1 := h 1 (by decide)
    have g2 := h 2 (by decide)
    simp only [if_pos (show 0 < 3 by decide), if_pos (show 1 < 3 by decide), if_pos (show 2 < 3 by decide), if_neg (show ¬ 3 < 3 by decide), if_neg (show ¬ 4 < 3 by decide)]
    constructor
    · intro hh
      omega
    · intro hh
      refine ⟨by first | trivial | omega, ?_, ?_, ?_, ?_, ?_⟩ <;> first | trivial | omega
  · rw [s_wn4]
    have g0 := h 0 (by decide)
    have g1 := h 1 (by decide)
    have g2 := h 2 (by decide)
    have g3 := h 3 (by decide)
    simp only [if_pos (show 0 < 4 by decide), if_pos (show 1 < 4 by decide), if_pos (show 2 < 4 by decide), if_pos (show 3 < 4 by decide), if_neg (show ¬ 4 < 4 by decide)]
    constructor
    · intro hh
      omega
    · intro hh
      refine ⟨by first | trivial | omega, ?_, ?_, ?_, ?_, ?_⟩ <;> first | trivial | omega
  · rw [s_wn5]
    have g0 := h 0 (by decide)
    have g1 := h 1 (by decide)
    have g2 := h 2 (by decide)
    have g3 := h 3 (by decide)
    have g4 := h 4 (by decide)
    simp only [if_pos (show 0 < 5 by decide), if_pos (show 1 < 5 by decide), if_pos (show 2 < 5 by decide), if_pos (show 3 < 5 by decide), if_pos (show 4 < 5 by decide)]
    constructor
    · intro hh
      omega
    · intro hh
      refine ⟨by first | trivial | omega, ?_, ?_, ?_, ?_, ?_⟩ <;> first | trivial | omega
  · rw [s_wn6]
    have g0 := h 0 (by decide)
    have g1 := h 1 (by decide)
    have g2 := h 2 (by decide)
    have g3 := h 3 (by decide)
    have g4 := h 4 (by decide)
    have g5 := h 5 (by decide)
    simp only [if_pos (show 0 < 6 by decide), if_pos (show 1 < 6 by decide), if_pos (show 2 < 6 by decide), if_pos (show 3 < 6 by decide), if_pos (show 4 < 6 by decide)]
    constructor
    · intro hh
      omega
    · intro hh
      refine ⟨by first | trivial | omega, ?_, ?_, ?_, ?_, ?_⟩ <;> first | trivial | omega
theorem z_wk9 {b : Nat → Nat} {s K : Nat} (h1 : 1 ≤ K) (h6 : K ≤ 6) (h : ∀ j, j < K → 97 ≤ b (s + j) ∧ b (s + j) ≤ 122) : (K < 5 ∧ ∀ i, i < 5 → z_wn.getD (9 * 5 + i) 0 = if i < K then b (s + i) else 32) ↔ s_wn b s K = 370116 := by
  have z : (∀ i, i < 5 → z_wn.getD (9 * 5 + i) 0 = if i < K then b (s + i) else 32) ↔ ((107 = if 0 < K then b (s + 0) else 32) ∧ (105 = if 1 < K then b (s + 1) else 32) ∧ (110 = if 2 < K then b (s + 2) else 32) ∧ (100 = if 3 < K then b (s + 3) else 32) ∧ (32 = if 4 < K then b (s + 4) else 32)) := by
    constructor
    · intro q; exact ⟨q 0 (by decide), q 1 (by decide), q 2 (by decide), q 3 (by decide), q 4 (by decide)⟩
    · rintro ⟨qq0, qq1, qq2, qq3, qq4⟩ i hi
      rcases (by omega : i = 0 ∨ i = 1 ∨ i = 2 ∨ i = 3 ∨ i = 4) with e | e | e | e | e <;> subst e
      · exact qq0
      · exact qq1
      · exact qq2
      · exact qq3
      · exact qq4
  rw [z]
  rcases (by omega : K = 1 ∨ K = 2 ∨ K = 3 ∨ K = 4 ∨ K = 5 ∨ K = 6) with e | e | e | e | e | e <;> subst e
  · rw [s_wn1]
    have g0 := h 0 (by decide)
    simp only [if_pos (show 0 < 1 by decide), if_neg (show ¬ 1 < 1 by decide), if_neg (show ¬ 2 < 1 by decide), if_neg (show ¬ 3 < 1 by decide), if_neg (show ¬ 4 < 1 by decide)]
    constructor
    · intro hh
      omega
    · intro hh
      refine ⟨by first | trivial | omega, ?_, ?_, ?_, ?_, ?_⟩ <;> first | trivial | omega
  · rw [s_wn2]
    have g0 := h 0 (by decide)
    have g1 := h 1 (by decide)
    simp only [if_pos (show 0 < 2 by decide), if_pos (show 1 < 2 by decide), if_neg (show ¬ 2 < 2 by decide), if_neg (show ¬ 3 < 2 by decide), if_neg (show ¬ 4 < 2 by decide)]
    constructor
    · intro hh
      omega
    · intro hh
      refine ⟨by first | trivial | omega, ?_, ?_, ?_, ?_, ?_⟩ <;> first | trivial | omega
  · rw [s_wn3]
    have g0 := h 0 (by decide)
    have g1 := h 1 (by decide)
    have g2 := h 2 (by decide)
    simp only [if_pos (show 0 < 3 by decide), if_pos (show 1 < 3 by decide), if_pos (show 2 < 3 by decide), if_neg (show ¬ 3 < 3 by decide), if_neg (show ¬ 4 < 3 by decide)]
    constructor
    · intro hh
      omega
    · intro hh
      refine ⟨by first | trivial | omega, ?_, ?_, ?_, ?_, ?_⟩ <;> first | trivial | omega
  · rw [s_wn4]
    have g0 := h 0 (by decide)
    have g1 := h 1 (by decide)
    have g2 := h 2 (by decide)
    have g3 := h 3 (by decide)
    simp only [if_pos (show 0 < 4 by decide), if_pos (show 1 < 4 by decide), if_pos (show 2 < 4 by decide), if_pos (show 3 < 4 by decide), if_neg (show ¬ 4 < 4 by decide)]
    constructor
    · intro hh
      omega
    · intro hh
      refine ⟨by first | trivial | omega, ?_, ?_, ?_, ?_, ?_⟩ <;> first | trivial | omega
  · rw [s_wn5]
    have g0 := h 0 (by decide)
    have g1 := h 1 (by decide)
    have g2 := h 2 (by decide)
    have g3 := h 3 (by decide)
    have g4 := h 4 (by decide)
    simp only [if_pos (show 0 < 5 by decide), if_pos (show 1 < 5 by decide), if_pos (show 2 < 5 by decide), if_pos (show 3 < 5 by decide), if_pos (show 4 < 5 by decide)]
    constructor
    · intro hh
      omega
    · intro hh
      refine ⟨by first | trivial | omega, ?_, ?_, ?_, ?_, ?_⟩ <;> first | trivial | omega
  · rw [s_wn6]
    have g0 := h 0 (by decide)
    have g1 := h 1 (by decide)
    have g2 := h 2 (by decide)
    have g3 := h 3 (by decide)
    have g4 := h 4 (by decide)
    have g5 := h 5 (by decide)
    simp only [if_pos (show 0 < 6 by decide), if_pos (show 1 < 6 by decide), if_pos (show 2 < 6 by decide), if_pos (show 3 < 6 by decide), if_pos (show 4 < 6 by decide)]
    constructor
    · intro hh
      omega
    · intro hh
      refine ⟨by first | trivial | omega, ?_, ?_, ?_, ?_, ?_⟩ <;> first | trivial | omega
theorem z_wk10 {b : Nat → Nat} {s K : Nat} (h1 : 1 ≤ K) (h6 : K ≤ 6) (h : ∀ j, j < K → 97 ≤ b (s + j) ∧ b (s + j) ≤ 122) : (K < 5 ∧ ∀ i, i < 5 → z_wn.getD (10 * 5 + i) 0 = if i < K then b (s + i) else 32) ↔ s_wn b s K = 278194 := by
  have z : (∀ i, i < 5 → z_wn.getD (10 * 5 + i) 0 = if i < K then b (s + i) else 32) ↔ ((104 = if 0 < K then b (s + 0) else 32) ∧ (111 = if 1 < K then b (s + 1) else 32) ∧ (117 = if 2 < K then b (s + 2) else 32) ∧ (114 = if 3 < K then b (s + 3) else 32) ∧ (32 = if 4 < K then b (s + 4) else 32)) := by
    constructor
    · intro q; exact ⟨q 0 (by decide), q 1 (by decide), q 2 (by decide), q 3 (by decide), q 4 (by decide)⟩
    · rintro ⟨qq0, qq1, qq2, qq3, qq4⟩ i hi
      rcases (by omega : i = 0 ∨ i = 1 ∨ i = 2 ∨ i = 3 ∨ i = 4) with e | e | e | e | e <;> subst e
      · exact qq0
      · exact qq1
      · exact qq2
      · exact qq3
      · exact qq4
  rw [z]
  rcases (by omega : K = 1 ∨ K = 2 ∨ K = 3 ∨ K = 4 ∨ K = 5 ∨ K = 6) with e | e | e | e | e | e <;> subst e
  · rw [s_wn1]
    have g0 := h 0 (by decide)
    simp only [if_pos (show 0 < 1 by decide), if_neg (show ¬ 1 < 1 by decide), if_neg (show ¬ 2 < 1 by decide), if_neg (show ¬ 3 < 1 by decide), if_neg (show ¬ 4 < 1 by decide)]
    constructor
    · intro hh
      omega
    · intro hh
      refine ⟨by first | trivial | omega, ?_, ?_, ?_, ?_, ?_⟩ <;> first | trivial | omega
  · rw [s_wn2]
    have g0 := h 0 (by decide)
    have g1 := h 1 (by decide)
    simp only [if_pos (show 0 < 2 by decide), if_pos (show 1 < 2 by decide), if_neg (show ¬ 2 < 2 by decide), if_neg (show ¬ 3 < 2 by decide), if_neg (show ¬ 4 < 2 by decide)]
    constructor
    · intro hh
      omega
    · intro hh
      refine ⟨by first | trivial | omega, ?_, ?_, ?_, ?_, ?_⟩ <;> first | trivial | omega
  · rw [s_wn3]
    have g0 := h 0 (by decide)
    have g1 := h 1 (by decide)
    have g2 := h 2 (by decide)
    simp only [if_pos (show 0 < 3 by decide), if_pos (show 1 < 3 by decide), if_pos (show 2 < 3 by decide), if_neg (show ¬ 3 < 3 by decide), if_neg (show ¬ 4 < 3 by decide)]
    constructor
    · intro hh
      omega
    · intro hh
      refine ⟨by first | trivial | omega, ?_, ?_, ?_, ?_, ?_⟩ <;> first | trivial | omega
  · rw [s_wn4]
    have g0 := h 0 (by decide)
    have g1 := h 1 (by decide)
    have g2 := h 2 (by decide)
    have g3 := h 3 (by decide)
    simp only [if_pos (show 0 < 4 by decide), if_pos (show 1 < 4 by decide), if_pos (show 2 < 4 by decide), if_pos (show 3 < 4 by decide), if_neg (show ¬ 4 < 4 by decide)]
    constructor
    · intro hh
      omega
    · intro hh
      refine ⟨by first | trivial | omega, ?_, ?_, ?_, ?_, ?_⟩ <;> first | trivial | omega
  · rw [s_wn5]
    have g0 := h 0 (by decide)
    have g1 := h 1 (by decide)
    have g2 := h 2 (by decide)
    have g3 := h 3 (by decide)
    have g4 := h 4 (by decide)
    simp only [if_pos (show 0 < 5 by decide), if_pos (show 1 < 5 by decide), if_pos (show 2 < 5 by decide), if_pos (show 3 < 5 by decide), if_pos (show 4 < 5 by decide)]
    constructor
    · intro hh
      omega
    · intro hh
      refine ⟨by first | trivial | omega, ?_, ?_, ?_, ?_, ?_⟩ <;> first | trivial | omega
  · rw [s_wn6]
    have g0 := h 0 (by decide)
    have g1 := h 1 (by decide)
    have g2 := h 2 (by decide)
    have g3 := h 3 (by decide)
    have g4 := h 4 (by decide)
    have g5 := h 5 (by decide)
    simp only [if_pos (show 0 < 6 by decide), if_pos (show 1 < 6 by decide), if_pos (show 2 < 6 by decide), if_pos (show 3 < 6 by decide), if_pos (show 4 < 6 by decide)]
    constructor
    · intro hh
      omega
    · intro hh
      refine ⟨by first | trivial | omega, ?_, ?_, ?_, ?_, ?_⟩ <;> first | trivial | omega
def z_cd : List Nat := [402789, 674469, 498, 1476, 14836, 1, 2, 3, 20141, 370116, 278194]
theorem z_wk {b : Nat → Nat} {s K : Nat} (h1 : 1 ≤ K) (h : ∀ j, j < K → 97 ≤ b (s + j) ∧ b (s + j) ≤ 122) : ∀ k, k < 11 → (s_isw b s (s + K) k = true ↔ s_w b s K = Int64.ofNat (z_cd.getD k 0)) := by
  intro k hk
  have hcd : ∀ k, k < 11 → z_cd.getD k 0 < 2 ^ 20 := by decide
  have l := hcd k hk
  rw [s_isw_iff hk (fun j hj => by have := h j hj; omega)]
  by_cases h6 : K ≤ 6
  · obtain ⟨e, l2⟩ := s_w_n K h6 h
    have : 2 ^ (5 * K) ≤ 2 ^ 30 := Nat.pow_le_pow_right (by decide) (by omega)
    rw [e, z_ofN64 (by omega) (by omega)]
    rcases (by omega : k = 0 ∨ k = 1 ∨ k = 2 ∨ k = 3 ∨ k = 4 ∨ k = 5 ∨ k = 6 ∨ k = 7 ∨ k = 8 ∨ k = 9 ∨ k = 10) with e | e | e | e | e | e | e | e | e | e | e <;> subst e
    · exact z_wk0 h1 h6 h
    · exact z_wk1 h1 h6 h
    · exact z_wk2 h1 h6 h
    · exact z_wk3 h1 h6 h
    · exact z_wk4 h1 h6 h
    · exact z_wk5 h1 h6 h
    · exact z_wk6 h1 h6 h
    · exact z_wk7 h1 h6 h
    · exact z_wk8 h1 h6 h
    · exact z_wk9 h1 h6 h
    · exact z_wk10 h1 h6 h
  · obtain ⟨K', rfl⟩ : ∃ K', K = K' + 1 := ⟨K - 1, by omega⟩
    rw [s_w_far K' (by omega)]
    constructor
    · intro q; omega
    · intro q
      have := congrArg Int64.toInt q
      rw [Int64.toInt_ofNat_of_lt (by omega)] at this
      change (-1 : Int) = _ at this
      omega
