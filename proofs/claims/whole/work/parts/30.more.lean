-- MORE RULES: arrays by symbolic cells, indices, loops, runs with a wish
def z_A (a n : Nat) : Prop := Nat.blt a 161 = true ∧ z_SH a = (0, n)
theorem z_A_lt {a n : Nat} (h : z_A a n) : Nat.blt a 1000 = true := by
  have h1 : a + 1 ≤ 161 := Nat.le_of_ble_eq_true h.1
  exact Nat.ble_eq_true_of_le (Nat.le_trans h1 (by decide))
theorem z_iaA {E : zE} {σ : zS} {a n : Nat} (h : z_A a n) : z_ia E 161 σ a = some (n, σ.1 a) := by
  unfold z_ia
  rw [z_A_lt h, h.1, h.2]
  rfl
theorem z_isAA {σ : zS} {a n : Nat} (h : z_A a n) : z_isA 161 σ a 0 = true := by
  unfold z_isA
  rw [z_A_lt h, h.1, h.2]
  rfl
theorem z_alA {E : zE} {σ : zS} {a n : Nat} (h : z_A a n) : z_al E 161 σ a = some n := by
  unfold z_al
  rw [z_A_lt h, h.1, h.2]
  rfl
theorem z_stA {σ : zS} {a n : Nat} {i : Int32} (h : z_A a n) (hi : z_in i n = true) : (z_isA 161 σ a 0 && z_in i (z_SH a).2) = true := by
  rw [z_isAA h, h.2]
  exact hi
theorem z_cpA {σ : zS} {t m N : Nat} {sp dp n : Int32} (h : z_A t m) (hc : (decide (0 ≤ sp) && decide (0 ≤ dp) && decide (0 ≤ n) && Nat.ble (sp.toNatClampNeg + n.toNatClampNeg) N && Nat.ble (dp.toNatClampNeg + n.toNatClampNeg) m) = true) : (z_isA 161 σ t 0 && decide (0 ≤ sp) && decide (0 ≤ dp) && decide (0 ≤ n) && Nat.ble (sp.toNatClampNeg + n.toNatClampNeg) N && Nat.ble (dp.toNatClampNeg + n.toNatClampNeg) (z_SH t).2) = true := by
  rw [z_isAA h, h.2]
  exact hc
theorem z_A_rows : ∀ k, k < 30 → z_A (3 + k) 8 := by unfold z_A; decide
theorem z_A_lights : ∀ k, k < 20 → z_A (45 + k) 8 := by unfold z_A; decide
theorem z_A_takers : ∀ k, k < 8 → z_A (67 + k) 3 := by unfold z_A; decide
theorem z_A_codes : ∀ k, k < 6 → z_A (81 + k) 160 := by unfold z_A; decide
theorem z_A_laid : ∀ k, k < 6 → z_A (98 + k) 8 := by unfold z_A; decide
theorem z_A_sheets : ∀ k, k < 4 → z_A (119 + k) 40 := by unfold z_A; decide
theorem z_A_125 : z_A 125 8 := by unfold z_A; decide
theorem z_A_126 : z_A 126 8 := by unfold z_A; decide
theorem z_A_96 : z_A 96 8 := by unfold z_A; decide
theorem z_b01o (c : Prop) [Decidable c] : z_b01 (z_bo c) = true := by unfold z_bo; split <;> rfl
-- indices
abbrev z_hs (i : Int32) (n : Nat) : Prop := 0 ≤ i.toInt ∧ i.toInt < (n : Int)
theorem z_hs_of {i : Int32} {n : Nat} (h : z_hs i n) : ∃ k, k < n ∧ i = nI k := by
  obtain ⟨k, hk, rfl⟩ := nI_of (x := i) (by rw [Int32.lt_iff_toInt_lt]; simp; omega)
  refine ⟨k, ?_, rfl⟩
  have := h.2
  rw [nI_toInt hk] at this
  omega
theorem z_hsX {i m : Int32} {n : Nat} (hm : m = nI n) (hn : n < 2 ^ 31) : (¬ i < 0 ∧ i < m) ↔ z_hs i n := by
  subst hm
  rw [Int32.lt_iff_toInt_lt, Int32.lt_iff_toInt_lt, nI_toInt hn]
  simp
theorem z_toInt_pred {n : Nat} (hn : n < 2 ^ 31) : (nI n - 1).toInt = (n : Int) - 1 := by
  cases n with
  | zero => rfl
  | succ n => rw [nI_pred, nI_toInt (by omega)]; omega
theorem z_hsM {i m : Int32} {n : Nat} (hm : m = nI n) (hn : n < 2 ^ 31) : (¬ i < 0 ∧ ¬ m - 1 < i) ↔ z_hs i n := by
  subst hm
  rw [Int32.lt_iff_toInt_lt, Int32.lt_iff_toInt_lt, z_toInt_pred hn]
  simp
  omega
theorem z_ltN {x y : Int32} {a b : Nat} (hx : x = nI a) (hy : y = nI b) (ha : a < 2 ^ 31) (hb : b < 2 ^ 31) : x < y ↔ a < b := by
  subst hx hy; exact nI_ltI ha hb
theorem z_eqN {x y : Int32} {a b : Nat} (hx : x = nI a) (hy : y = nI b) (ha : a < 2 ^ 31) (hb : b < 2 ^ 31) : x = y ↔ a = b := by
  subst hx hy; exact nI_eq ha hb
theorem z_mul (a b : Nat) : nI a * nI b = nI (a * b) := (Int32.ofNat_mul a b).symm
theorem z_mad (m a b : Nat) : nI m * nI a + nI b = nI (m * a + b) := by rw [z_mul, nI_add]
theorem z_sub {a b : Nat} (h : b ≤ a) : nI a - nI b = nI (a - b) := by
  obtain ⟨c, rfl⟩ : ∃ c, a = b + c := ⟨a - b, by omega⟩
  rw [show b + c - b = c by omega, Int32.sub_eq_iff_eq_add, nI_add, Nat.add_comm]
theorem z_addE {x y : Int32} {a b : Nat} (hx : x = nI a) (hy : y = nI b) : x + y = nI (a + b) := by rw [hx, hy, nI_add]
theorem z_mulE {x y : Int32} {a b : Nat} (hx : x = nI a) (hy : y = nI b) : x * y = nI (a * b) := by rw [hx, hy, z_mul]
theorem z_subE {x y : Int32} {a b : Nat} (hx : x = nI a) (hy : y = nI b) (h : b ≤ a) : x - y = nI (a - b) := by rw [hx, hy, z_sub h]
theorem z_predE {x : Int32} {n : Nat} (hx : x = nI (n + 1)) : x - 1 = nI n := by rw [hx, nI_pred]
theorem z_natE {x : Int32} {k : Nat} (hx : x = nI k) (h : k < 2 ^ 31) : x.toNatClampNeg = k := by rw [hx]; exact nI_clamp h
-- stores
theorem z_u2_same {α : Type} (f : Nat → Nat → α) (a i : Nat) (x : α) : z_u2 f a i x a i = x := by simp [z_u2]
theorem z_u2_n {α : Type} (f : Nat → Nat → α) {a i b j : Nat} (x : α) (h : ¬ (b = a ∧ j = i)) : z_u2 f a i x b j = f b j := by
  unfold z_u2
  split
  · split
    · exact absurd ⟨by assumption, by assumption⟩ h
    · rfl
  · rfl
theorem z_u2_row {α : Type} (f : Nat → Nat → α) {a i b : Nat} (x : α) (h : b ≠ a) : z_u2 f a i x b = f b := by
  funext j; exact z_u2_n f x (fun q => h q.1)
theorem z_ur_same {α : Type} (f : Nat → Nat → α) (a : Nat) (g : Nat → α) : z_ur f a g a = g := by simp [z_ur]
theorem z_ur_n {α : Type} (f : Nat → Nat → α) {a b : Nat} (g : Nat → α) (h : b ≠ a) : z_ur f a g b = f b := by simp [z_ur, h]
/-- the first k places of a row from s on filled -/
def z_fil {α : Type} (f : Nat → α) (s k : Nat) (g : Nat → α) : Nat → α := fun j => if s ≤ j ∧ j < s + k then g (j - s) else f j
theorem z_fil_0 {α : Type} (f : Nat → Nat → α) (a s : Nat) (g : Nat → α) : z_ur f a (z_fil (f a) s 0 g) = f := by
  funext b j
  unfold z_ur z_fil
  split
  · rename_i h; subst h; exact if_neg (by omega)
  · rfl
theorem z_fil_s {α : Type} (f : Nat → Nat → α) (a s k : Nat) (g : Nat → α) : z_u2 (z_ur f a (z_fil (f a) s k g)) a (s + k) (g k) = z_ur f a (z_fil (f a) s (k + 1) g) := by
  funext b j
  unfold z_u2 z_ur z_fil
  by_cases hb : b = a
  · subst hb
    rw [if_pos rfl, if_pos rfl, if_pos rfl]
    by_cases hj : j = s + k
    · subst hj; rw [if_pos rfl, if_pos (by omega)]; congr 1; omega
    · rw [if_neg hj]
      by_cases q : s ≤ j ∧ j < s + k
      · rw [if_pos q, if_pos (by omega)]
      · rw [if_neg q, if_neg (by omega)]
  · rw [if_neg hb, if_neg hb, if_neg hb]
theorem z_fil_ge {α : Type} {f g : Nat → α} {s k j : Nat} (h : ¬ (s ≤ j ∧ j < s + k)) : z_fil f s k g j = f j := if_neg h
theorem z_fil_in {α : Type} {f g : Nat → α} {s k j : Nat} (h : s ≤ j ∧ j < s + k) : z_fil f s k g j = g (j - s) := if_pos h
/-- folding over the first n -/
def z_fo {α : Type} (f : Nat → α → α) (a : α) : Nat → α
  | 0 => a
  | n + 1 => f n (z_fo f a n)
theorem z_fo_congr {α : Type} {f g : Nat → α → α} {a : α} : ∀ {n : Nat}, (∀ k, k < n → ∀ x, f k x = g k x) → z_fo f a n = z_fo g a n
  | 0, _ => rfl
  | n + 1, h => by
    show f n (z_fo f a n) = g n (z_fo g a n)
    rw [z_fo_congr (n := n) (fun k hk => h k (by omega)), h n (by omega)]
-- runs with a wish
def z_Qv (E : zE) (d : Nat) (M : zM) (pc : Nat) (ls : zL) (st : List Value) (z : Nat) (σ : zS) (Q : zR → Prop) : Prop := ∃ r, z_Ev E d M pc ls st z σ r ∧ Q r
def z_QYv (E : zE) (d : Nat) (M : zM) (y : zY) (Q : zR → Prop) : Prop := ∃ r, z_EY E d M y r ∧ Q r
section QV
variable {E : zE} {d : Nat} {M : zM} {pc : Nat} {ls : zL} {st : List Value} {z : Nat} {σ : zS} {Q : zR → Prop} {r : zR}
theorem z_evIN {c c' : Prop} {_ : Decidable c} {a b : zY} (hc : c ↔ c') (ha : c' → z_EY E d M a r) (hb : ¬ c' → z_EY E d M b r) : z_EY E d M (if c then a else b) r :=
  z_evI (fun h => ha (hc.mp h)) (fun h => hb (fun q => h (hc.mpr q)))
theorem z_loop {H : Nat} (F : Nat → zL × zS) (P : Nat → Prop) (n : Nat) (h0 : P 0) (last : P n → z_Ev E d M H (F n).1 [] 161 (F n).2 r) (step : ∀ k, k < n → P k → (P (k + 1) → z_Ev E d M H (F (k + 1)).1 [] 161 (F (k + 1)).2 r) → z_Ev E d M H (F k).1 [] 161 (F k).2 r) : z_Ev E d M H (F 0).1 [] 161 (F 0).2 r := by
  have : ∀ j, j ≤ n → P (n - j) → z_Ev E d M H (F (n - j)).1 [] 161 (F (n - j)).2 r := by
    intro j
    induction j with
    | zero => intro _; exact last
    | succ j ih =>
      intro hj hP
      refine step (n - (j + 1)) (by omega) hP ?_
      rw [show n - (j + 1) + 1 = n - j by omega]
      exact ih (by omega)
  have := this n (Nat.le_refl n)
  rw [Nat.sub_self] at this
  exact this h0
theorem z_all0 {C : Nat → Prop} : ∀ t, t < 0 → C t := fun t h => absurd h (Nat.not_lt_zero t)
theorem z_allS {C : Nat → Prop} {k : Nat} (h : ∀ t, t < k → C t) (hk : C k) : ∀ t, t < k + 1 → C t := fun t ht => by
  rcases Nat.lt_or_ge t k with q | q
  · exact h t q
  · rw [show t = k by omega]; exact hk
theorem z_qG (k : Nat) {y : zY} (hy : ∀ n, z_run (z_cl E d) E M (n + k) pc ls st z σ = z_nx E d M n y) (h : z_QYv E d M y Q) : z_Qv E d M pc ls st z σ Q := by
  obtain ⟨r, h, q⟩ := h
  exact ⟨r, z_evG k hy h, q⟩
theorem z_qL (h : z_Qv E d M pc ls st z σ Q) : z_QYv E d M (z_go pc ls st z σ) Q := h
theorem z_qR {r' : zR} (h : Q r') : z_QYv E d M (some (.inr r')) Q := ⟨r', z_evR rfl, h⟩
theorem z_qI {c : Prop} {_ : Decidable c} {a b : zY} (ha : c → z_QYv E d M a Q) (hb : ¬ c → z_QYv E d M b Q) : z_QYv E d M (if c then a else b) Q := by
  by_cases q : c
  · rw [if_pos q]; exact ha q
  · rw [if_neg q]; exact hb q
theorem z_qIN {c c' : Prop} {_ : Decidable c} {a b : zY} (hc : c ↔ c') (ha : c' → z_QYv E d M a Q) (hb : ¬ c' → z_QYv E d M b Q) : z_QYv E d M (if c then a else b) Q :=
  z_qI (fun h => ha (hc.mp h)) (fun h => hb (fun q => h (hc.mpr q)))
theorem z_qT {c : Prop} {_ : Decidable c} {a b : zY} (hc : c) (h : z_QYv E d M a Q) : z_QYv E d M (if c then a else b) Q := by rw [if_pos hc]; exact h
theorem z_qF {c : Prop} {_ : Decidable c} {a b : zY} (hc : ¬ c) (h : z_QYv E d M b Q) : z_QYv E d M (if c then a else b) Q := by rw [if_neg hc]; exact h
theorem z_qO {c : Prop} [Decidable c] {_ : Decidable (z_bo c = 0)} {a b : zY} (ha : ¬ c → z_QYv E d M a Q) (hb : c → z_QYv E d M b Q) : z_QYv E d M (if z_bo c = 0 then a else b) Q :=
  z_qI (fun h => ha (z_bo_0.mp h)) (fun h => hb (Decidable.not_not.mp (fun q => h (z_bo_0.mpr q))))
theorem z_qC {b : Bool} {y : zY} (hb : b = true) (h : z_QYv E d M y Q) : z_QYv E d M (z_ck b y) Q := by rw [hb]; exact h
theorem z_qB {i : Int32} {o : Option (Nat × (Nat → Int32))} {N : Nat} {f : Nat → Int32} {k : Int32 → zY} (ho : o = some (N, f)) (hi : z_in i N = true) (h : z_QYv E d M (k (f i.toNatClampNeg)) Q) : z_QYv E d M (z_ild o i k) Q := by
  obtain ⟨r, h, q⟩ := h
  exact ⟨r, z_evB ho hi h, q⟩
theorem z_qBn {i : Int32} {o : Option (Nat × (Nat → Int32))} {N k : Nat} {f : Nat → Int32} {kk : Int32 → zY} (ho : o = some (N, f)) (hi : i = nI k) (hk : k < N) (h : z_QYv E d M (kk (f k)) Q) (hN : N < 2 ^ 31 := by decide) : z_QYv E d M (z_ild o i kk) Q := by
  obtain ⟨r, h, q⟩ := h
  exact ⟨r, z_evBn ho hi hk h hN, q⟩
theorem z_qK {o : Option zR} {v : Value} {z' : Nat} {σ' : zS} (ho : o = some (some v, z', σ')) (h : z_Qv E d M pc ls (v :: st) z' σ' Q) : z_QYv E d M (z_ret o pc ls st) Q := by
  subst ho
  exact h
theorem z_qV {o : Option zR} {z' : Nat} {σ' : zS} (ho : o = some (none, z', σ')) (h : z_Qv E d M pc ls st z' σ' Q) : z_QYv E d M (z_ret o pc ls st) Q := by
  subst ho
  exact h
theorem z_qY {s t : Nat} {sp dp n : Int32} {N : Nat} {f : Nat → Int32} {k : Nat → zS → zY} (ho : z_ia E z σ s = some (N, f)) (hc : (z_isA z σ t 0 && decide (0 ≤ sp) && decide (0 ≤ dp) && decide (0 ≤ n) && Nat.ble (sp.toNatClampNeg + n.toNatClampNeg) N && Nat.ble (dp.toNatClampNeg + n.toNatClampNeg) (z_SH t).2) = true) (h : z_QYv E d M (k z (z_ur σ.1 t (va_cpy f (σ.1 t) sp.toNatClampNeg dp.toNatClampNeg n.toNatClampNeg), σ.2.1, σ.2.2)) Q) : z_QYv E d M (z_copy E z σ s t sp dp n k) Q := by
  obtain ⟨r, h, q⟩ := h
  exact ⟨r, z_evY ho hc h, q⟩
theorem z_callQ {mid : Nat} {as : List Value} (hM : z_mt mid = some M) (ha : Nat.ble (z_argl as).length M.2.2.1 = true) (h : z_Qv E d M 0 (z_pad M.2.2.1 (z_argl as)) [] z σ Q) : ∃ r, z_cl E (d + 1) mid as (z, σ) = some r ∧ Q r := by
  obtain ⟨r, h, q⟩ := h
  exact ⟨r, z_call hM ha h, q⟩
/-- a loop that keeps P -/
theorem z_loopQ {H : Nat} (P : Nat → zL → zS → Prop) (n : Nat) (last : ∀ ls σ, P n ls σ → z_Qv E d M H ls [] 161 σ Q) (step : ∀ k, k < n → ∀ ls σ, P k ls σ → (∀ ls' σ', P (k + 1) ls' σ' → z_Qv E d M H ls' [] 161 σ' Q) → z_Qv E d M H ls [] 161 σ Q) : ∀ ls σ, P 0 ls σ → z_Qv E d M H ls [] 161 σ Q := by
  have : ∀ j, j ≤ n → ∀ ls σ, P (n - j) ls σ → z_Qv E d M H ls [] 161 σ Q := by
    intro j
    induction j with
    | zero => intro _; exact last
    | succ j ih =>
      intro hj ls σ h
      refine step (n - (j + 1)) (by omega) ls σ h ?_
      rw [show n - (j + 1) + 1 = n - j by omega]
      exact ih (by omega)
  have := this n (Nat.le_refl n)
  rwa [Nat.sub_self] at this
end QV
