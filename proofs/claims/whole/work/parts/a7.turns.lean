-- TURNS ALIKE
theorem z_dv64 {a m : Nat} (ha : a < 2 ^ 62) (h0 : 0 < m) (hm : m < 2 ^ 62) : Int64.ofNat a / Int64.ofNat m = Int64.ofNat (a / m) := by
  have h1 : a / m < 2 ^ 62 := Nat.lt_of_le_of_lt (Nat.div_le_self a m) ha
  apply Int64.toInt_inj.1
  rw [lg_ldiv_nonneg (by rw [Int64.toInt_ofNat_of_lt (by omega)]; omega) (by rw [Int64.toInt_ofNat_of_lt (by omega)]; omega), Int64.toInt_ofNat_of_lt (by omega), Int64.toInt_ofNat_of_lt (by omega), Int64.toInt_ofNat_of_lt (by omega)]
  exact (Int.natCast_ediv a m).symm
theorem z_to32 {v : Nat} (h : v < 2 ^ 31) : (Int64.ofNat v).toInt32 = nI v := by
  apply Int32.toInt_inj.1
  rw [Int64.toInt_toInt32, Int64.toInt_ofNat_of_lt (by omega), nI_toInt h, Int.bmod_eq_of_le (by omega) (by omega)]
theorem z_lt64 {x y : Nat} (hx : x < 2 ^ 62) (hy : y < 2 ^ 62) : Int64.ofNat x < Int64.ofNat y ↔ x < y := by
  rw [Int64.lt_iff_toInt_lt, Int64.toInt_ofNat_of_lt (by omega), Int64.toInt_ofNat_of_lt (by omega)]; omega
def s_tv (K x r p : Nat) : Nat := match K with
  | 0 => x * r / 1000
  | 1 => x * r / 1000 + r
  | 2 => x * (500 + r / 2) / 1000
  | 3 => (x * r / 1000 + r) * (100 - p) / 100
  | 4 => x * (500 + r / 2) / 1000
  | _ => x * (500 + r / 2) / 1000 * (500 + r / 2) / 1000
def s_m9 (v : Nat) : Nat := if 1000000000 < v then 1000000000 else v
theorem s_m9_le (v : Nat) : s_m9 v ≤ 1000000000 := by unfold s_m9; split <;> omega
theorem z_lim9_nat {v : Nat} (h : v < 2 ^ 60) : z_lim9 (Int64.ofNat v) = nI (s_m9 v) := by
  unfold z_lim9 s_m9
  have l : (1000000000 : Int64) < Int64.ofNat v ↔ 1000000000 < v := z_lt64 (x := 1000000000) (by decide) (by omega)
  by_cases q : 1000000000 < v
  · rw [if_pos (l.mpr q), if_pos q]; rfl
  · rw [if_neg (fun r => q (l.mp r)), if_neg q, z_to32 (by omega)]
theorem z_lim9_alt {x : Int64} {v : Nat} (e : x = Int64.ofNat v) (h : v < 2 ^ 60) : (if 1000000000 < x then (1000000000 : Int32) else x.toInt32) = nI (s_m9 v) := by
  subst e
  unfold s_m9
  have l : (1000000000 : Int64) < Int64.ofNat v ↔ 1000000000 < v := z_lt64 (x := 1000000000) (by decide) (by omega)
  by_cases q : 1000000000 < v
  · rw [if_pos (l.mpr q), if_pos q]; rfl
  · rw [if_neg (fun r => q (l.mp r)), if_neg q, z_to32 (by omega)]
theorem z_md64 {x y m : Nat} (hx : x ≤ 2 ^ 40) (hy : y ≤ 999) (h0 : 0 < m) (hm : m < 2 ^ 62) : Int64.ofNat x * Int64.ofNat y / Int64.ofNat m = Int64.ofNat (x * y / m) ∧ x * y / m ≤ x * y ∧ x * y ≤ 2 ^ 40 * 999 := by
  have b : x * y ≤ 2 ^ 40 * 999 := Nat.mul_le_mul hx hy
  refine ⟨?_, Nat.div_le_self _ _, b⟩
  rw [← Int64.ofNat_mul, z_dv64 (by omega) h0 hm]
theorem z_half {r : Nat} (hr : r ≤ 999) : (500 + Int64.ofNat r / 2 : Int64) = Int64.ofNat (500 + r / 2) := by
  rw [show (2 : Int64) = Int64.ofNat 2 from rfl, z_dv64 (by omega) (by decide) (by decide), Int64.ofNat_add]; rfl
theorem z_trn_nat {K x r p : Nat} (hK : K < 6) (hx : x ≤ 1000000000) (hr : r ≤ 999) (hp : p < 100) : z_trn K (Int64.ofNat x) (Int64.ofNat r) (Int64.ofNat (100 - p)) = Int64.ofNat (s_tv K x r p) ∧ s_tv K x r p < 2 ^ 55 := by
  have m1 := z_md64 (x := x) (y := r) (m := 1000) (by omega) hr (by decide) (by decide)
  have b1 : x * r ≤ 1000000000 * 999 := Nat.mul_le_mul hx hr
  have m2 := z_md64 (x := x) (y := 500 + r / 2) (m := 1000) (by omega) (by omega) (by decide) (by decide)
  have b2 : x * (500 + r / 2) ≤ 1000000000 * 999 := Nat.mul_le_mul hx (by omega)
  rcases (by omega : K = 0 ∨ K = 1 ∨ K = 2 ∨ K = 3 ∨ K = 4 ∨ K = 5) with e | e | e | e | e | e <;> subst e
  · exact ⟨m1.1, by show x * r / 1000 < _; omega⟩
  · refine ⟨?_, by show x * r / 1000 + r < _; omega⟩
    show Int64.ofNat x * Int64.ofNat r / Int64.ofNat 1000 + Int64.ofNat r = _
    rw [m1.1, ← Int64.ofNat_add]; rfl
  · refine ⟨?_, by show x * (500 + r / 2) / 1000 < _; omega⟩
    show Int64.ofNat x * (500 + Int64.ofNat r / 2) / Int64.ofNat 1000 = _
    rw [z_half hr]; exact m2.1
  · have m3 := z_md64 (x := x * r / 1000 + r) (y := 100 - p) (m := 100) (by omega) (by omega) (by decide) (by decide)
    refine ⟨?_, by show (x * r / 1000 + r) * (100 - p) / 100 < _; omega⟩
    show (Int64.ofNat x * Int64.ofNat r / Int64.ofNat 1000 + Int64.ofNat r) * Int64.ofNat (100 - p) / Int64.ofNat 100 = _
    rw [m1.1, ← Int64.ofNat_add]; exact m3.1
  · refine ⟨?_, by show x * (500 + r / 2) / 1000 < _; omega⟩
    show Int64.ofNat x * (500 + Int64.ofNat r / 2) / Int64.ofNat 1000 = _
    rw [z_half hr]; exact m2.1
  · have m3 := z_md64 (x := x * (500 + r / 2) / 1000) (y := 500 + r / 2) (m := 1000) (by omega) (by omega) (by decide) (by decide)
    refine ⟨?_, by show x * (500 + r / 2) / 1000 * (500 + r / 2) / 1000 < _; omega⟩
    show Int64.ofNat x * (500 + Int64.ofNat r / 2) / Int64.ofNat 1000 * (500 + Int64.ofNat r / 2) / Int64.ofNat 1000 = _
    rw [z_half hr, m2.1]; exact m3.1
/-- what a thing of kind K with number p makes of a light L, by its row R -/
def s_tn (K : Nat) (L R : Nat → Nat) (p c : Nat) : Nat := if K = 4 ∧ c = p % 8 then s_m9 (s_tv 4 (L c) (R c) p + L 0 / 2) else s_m9 (s_tv K (L c) (R c) p)
theorem s_tn_le (K : Nat) (L R : Nat → Nat) (p c : Nat) : s_tn K L R p c ≤ 1000000000 := by unfold s_tn; split <;> exact s_m9_le _
theorem s_m9_add {v h : Nat} : s_m9 (s_m9 v + h) = s_m9 (v + h) := by
  unfold s_m9
  by_cases q : 1000000000 < v
  · rw [if_pos q]; by_cases r : 1000000000 < 1000000000 + h
    · rw [if_pos r, if_pos (by omega)]
    · rw [if_neg r, if_pos (by omega)]; omega
  · rw [if_neg q]
