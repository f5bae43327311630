-- SETS OF BITS
set_option maxRecDepth 20000 in
/-- java/lang/Integer.bitCount -/
theorem x_bitCountR (E : zE) (d : Nat) (I : Nat → Nat → Int32) (J : Nat → Nat → Int64) (w : Nat) (b : Int32) : z_cl E (d + 1) 256 [.int b] (161, I, J, RF w) = some (some (.int ((((((((b - (((b.toUInt32 >>> ((1 : Int32).toUInt32 &&& Int32.toUInt32 31)).toInt32) &&& 1431655765)) &&& 858993459) + ((((b - (((b.toUInt32 >>> ((1 : Int32).toUInt32 &&& Int32.toUInt32 31)).toInt32) &&& 1431655765)).toUInt32 >>> ((2 : Int32).toUInt32 &&& Int32.toUInt32 31)).toInt32) &&& 858993459)) + (((((b - (((b.toUInt32 >>> ((1 : Int32).toUInt32 &&& Int32.toUInt32 31)).toInt32) &&& 1431655765)) &&& 858993459) + ((((b - (((b.toUInt32 >>> ((1 : Int32).toUInt32 &&& Int32.toUInt32 31)).toInt32) &&& 1431655765)).toUInt32 >>> ((2 : Int32).toUInt32 &&& Int32.toUInt32 31)).toInt32) &&& 858993459)).toUInt32 >>> ((4 : Int32).toUInt32 &&& Int32.toUInt32 31)).toInt32)) &&& 252645135) + (((((((b - (((b.toUInt32 >>> ((1 : Int32).toUInt32 &&& Int32.toUInt32 31)).toInt32) &&& 1431655765)) &&& 858993459) + ((((b - (((b.toUInt32 >>> ((1 : Int32).toUInt32 &&& Int32.toUInt32 31)).toInt32) &&& 1431655765)).toUInt32 >>> ((2 : Int32).toUInt32 &&& Int32.toUInt32 31)).toInt32) &&& 858993459)) + (((((b - (((b.toUInt32 >>> ((1 : Int32).toUInt32 &&& Int32.toUInt32 31)).toInt32) &&& 1431655765)) &&& 858993459) + ((((b - (((b.toUInt32 >>> ((1 : Int32).toUInt32 &&& Int32.toUInt32 31)).toInt32) &&& 1431655765)).toUInt32 >>> ((2 : Int32).toUInt32 &&& Int32.toUInt32 31)).toInt32) &&& 858993459)).toUInt32 >>> ((4 : Int32).toUInt32 &&& Int32.toUInt32 31)).toInt32)) &&& 252645135).toUInt32 >>> ((8 : Int32).toUInt32 &&& Int32.toUInt32 31)).toInt32)) + ((((((((b - (((b.toUInt32 >>> ((1 : Int32).toUInt32 &&& Int32.toUInt32 31)).toInt32) &&& 1431655765)) &&& 858993459) + ((((b - (((b.toUInt32 >>> ((1 : Int32).toUInt32 &&& Int32.toUInt32 31)).toInt32) &&& 1431655765)).toUInt32 >>> ((2 : Int32).toUInt32 &&& Int32.toUInt32 31)).toInt32) &&& 858993459)) + (((((b - (((b.toUInt32 >>> ((1 : Int32).toUInt32 &&& Int32.toUInt32 31)).toInt32) &&& 1431655765)) &&& 858993459) + ((((b - (((b.toUInt32 >>> ((1 : Int32).toUInt32 &&& Int32.toUInt32 31)).toInt32) &&& 1431655765)).toUInt32 >>> ((2 : Int32).toUInt32 &&& Int32.toUInt32 31)).toInt32) &&& 858993459)).toUInt32 >>> ((4 : Int32).toUInt32 &&& Int32.toUInt32 31)).toInt32)) &&& 252645135) + (((((((b - (((b.toUInt32 >>> ((1 : Int32).toUInt32 &&& Int32.toUInt32 31)).toInt32) &&& 1431655765)) &&& 858993459) + ((((b - (((b.toUInt32 >>> ((1 : Int32).toUInt32 &&& Int32.toUInt32 31)).toInt32) &&& 1431655765)).toUInt32 >>> ((2 : Int32).toUInt32 &&& Int32.toUInt32 31)).toInt32) &&& 858993459)) + (((((b - (((b.toUInt32 >>> ((1 : Int32).toUInt32 &&& Int32.toUInt32 31)).toInt32) &&& 1431655765)) &&& 858993459) + ((((b - (((b.toUInt32 >>> ((1 : Int32).toUInt32 &&& Int32.toUInt32 31)).toInt32) &&& 1431655765)).toUInt32 >>> ((2 : Int32).toUInt32 &&& Int32.toUInt32 31)).toInt32) &&& 858993459)).toUInt32 >>> ((4 : Int32).toUInt32 &&& Int32.toUInt32 31)).toInt32)) &&& 252645135).toUInt32 >>> ((8 : Int32).toUInt32 &&& Int32.toUInt32 31)).toInt32)).toUInt32 >>> ((16 : Int32).toUInt32 &&& Int32.toUInt32 31)).toInt32)) &&& 63)), 161, I, J, RF w) := by
  refine z_call (d := d + 0) (M := z_m256) rfl rfl ?_
  refine z_evG 42 (y := some (.inr (some (.int ((((((((b - (((b.toUInt32 >>> ((1 : Int32).toUInt32 &&& Int32.toUInt32 31)).toInt32) &&& 1431655765)) &&& 858993459) + ((((b - (((b.toUInt32 >>> ((1 : Int32).toUInt32 &&& Int32.toUInt32 31)).toInt32) &&& 1431655765)).toUInt32 >>> ((2 : Int32).toUInt32 &&& Int32.toUInt32 31)).toInt32) &&& 858993459)) + (((((b - (((b.toUInt32 >>> ((1 : Int32).toUInt32 &&& Int32.toUInt32 31)).toInt32) &&& 1431655765)) &&& 858993459) + ((((b - (((b.toUInt32 >>> ((1 : Int32).toUInt32 &&& Int32.toUInt32 31)).toInt32) &&& 1431655765)).toUInt32 >>> ((2 : Int32).toUInt32 &&& Int32.toUInt32 31)).toInt32) &&& 858993459)).toUInt32 >>> ((4 : Int32).toUInt32 &&& Int32.toUInt32 31)).toInt32)) &&& 252645135) + (((((((b - (((b.toUInt32 >>> ((1 : Int32).toUInt32 &&& Int32.toUInt32 31)).toInt32) &&& 1431655765)) &&& 858993459) + ((((b - (((b.toUInt32 >>> ((1 : Int32).toUInt32 &&& Int32.toUInt32 31)).toInt32) &&& 1431655765)).toUInt32 >>> ((2 : Int32).toUInt32 &&& Int32.toUInt32 31)).toInt32) &&& 858993459)) + (((((b - (((b.toUInt32 >>> ((1 : Int32).toUInt32 &&& Int32.toUInt32 31)).toInt32) &&& 1431655765)) &&& 858993459) + ((((b - (((b.toUInt32 >>> ((1 : Int32).toUInt32 &&& Int32.toUInt32 31)).toInt32) &&& 1431655765)).toUInt32 >>> ((2 : Int32).toUInt32 &&& Int32.toUInt32 31)).toInt32) &&& 858993459)).toUInt32 >>> ((4 : Int32).toUInt32 &&& Int32.toUInt32 31)).toInt32)) &&& 252645135).toUInt32 >>> ((8 : Int32).toUInt32 &&& Int32.toUInt32 31)).toInt32)) + ((((((((b - (((b.toUInt32 >>> ((1 : Int32).toUInt32 &&& Int32.toUInt32 31)).toInt32) &&& 1431655765)) &&& 858993459) + ((((b - (((b.toUInt32 >>> ((1 : Int32).toUInt32 &&& Int32.toUInt32 31)).toInt32) &&& 1431655765)).toUInt32 >>> ((2 : Int32).toUInt32 &&& Int32.toUInt32 31)).toInt32) &&& 858993459)) + (((((b - (((b.toUInt32 >>> ((1 : Int32).toUInt32 &&& Int32.toUInt32 31)).toInt32) &&& 1431655765)) &&& 858993459) + ((((b - (((b.toUInt32 >>> ((1 : Int32).toUInt32 &&& Int32.toUInt32 31)).toInt32) &&& 1431655765)).toUInt32 >>> ((2 : Int32).toUInt32 &&& Int32.toUInt32 31)).toInt32) &&& 858993459)).toUInt32 >>> ((4 : Int32).toUInt32 &&& Int32.toUInt32 31)).toInt32)) &&& 252645135) + (((((((b - (((b.toUInt32 >>> ((1 : Int32).toUInt32 &&& Int32.toUInt32 31)).toInt32) &&& 1431655765)) &&& 858993459) + ((((b - (((b.toUInt32 >>> ((1 : Int32).toUInt32 &&& Int32.toUInt32 31)).toInt32) &&& 1431655765)).toUInt32 >>> ((2 : Int32).toUInt32 &&& Int32.toUInt32 31)).toInt32) &&& 858993459)) + (((((b - (((b.toUInt32 >>> ((1 : Int32).toUInt32 &&& Int32.toUInt32 31)).toInt32) &&& 1431655765)) &&& 858993459) + ((((b - (((b.toUInt32 >>> ((1 : Int32).toUInt32 &&& Int32.toUInt32 31)).toInt32) &&& 1431655765)).toUInt32 >>> ((2 : Int32).toUInt32 &&& Int32.toUInt32 31)).toInt32) &&& 858993459)).toUInt32 >>> ((4 : Int32).toUInt32 &&& Int32.toUInt32 31)).toInt32)) &&& 252645135).toUInt32 >>> ((8 : Int32).toUInt32 &&& Int32.toUInt32 31)).toInt32)).toUInt32 >>> ((16 : Int32).toUInt32 &&& Int32.toUInt32 31)).toInt32)) &&& 63)), 161, I, J, RF w))) (fun _ => rfl) ?_
  exact z_evR rfl
theorem x_bitCount (E : zE) (d : Nat) (I : Nat → Nat → Int32) (J : Nat → Nat → Int64) (w : Nat) (x : Nat) (hx : x < 2 ^ 24) : z_cl E (d + 1) 256 [.int (nI x)] (161, I, J, RF w) = some (some (.int (nI (s_pn x 24))), 161, I, J, RF w) := by
  rw [x_bitCountR]
  have m1 : s_f1 1431655765 x ≤ x := Nat.sub_le _ _
  have m2 : s_f2 858993459 (s_f1 1431655765 x) ≤ 858993459 + 858993459 := Nat.add_le_add Nat.and_le_right Nat.and_le_right
  have m3 : s_f3 252645135 (s_f2 858993459 (s_f1 1431655765 x)) ≤ 252645135 := Nat.and_le_right
  rw [z_bc1 (by omega), z_bc2 (by omega), z_bc3 (by omega), z_bc4 (by omega), z_bc5 (by omega), ← z_bc hx]
  rfl
def s_pi (b : Int32) (n : Nat) : Int32 := z_fo (fun k a => a + ((b >>> (nI k &&& 31)) &&& 1)) 0 n
theorem s_pi_n {x : Nat} (hx : x < 2 ^ 31) : ∀ n, n ≤ 32 → s_pi (nI x) n = nI (s_pn x n)
  | 0, _ => rfl
  | n + 1, h => by
    show s_pi (nI x) n + ((nI x >>> (nI n &&& 31)) &&& 1) = nI (s_pn x n + x / 2 ^ n % 2)
    rw [s_pi_n hx n (by omega), z_bit hx (by omega), nI_add]
set_option maxRecDepth 20000 in
/-- LampHouseModel.isSet -/
theorem m_isSet (E : zE) (d : Nat) (I : Nat → Nat → Int32) (J : Nat → Nat → Int64) (w : Nat) (b n lo hi : Int32) : z_cl E (d + 2) 223 [.int b, .int n, .int lo, .int hi] (161, I, J, RF w) = some (some (.int (z_bo (¬ b < 0 ∧ b < 1 <<< (n &&& 31) ∧ ¬ s_pi b 31 < lo ∧ ¬ hi < s_pi b 31))), 161, I, J, RF w) := by
  refine z_call (d := d + 1) (M := z_m223) rfl rfl ?_
  refine z_evG 4 (y := z_go 6 [some (.int b), some (.int n), some (.int lo), some (.int hi), some (.int 0), some (.int 0)] [] 161 (I, J, RF w)) (fun _ => rfl) ?_
  refine z_evL ?_
  refine z_loop (F := fun k => ([some (.int b), some (.int n), some (.int lo), some (.int hi), some (.int (s_pi b k)), some (.int (nI k))], (I, J, RF w))) (P := fun k => True) 31 trivial (fun hP => ?_) (fun k hk hP next => ?_)
  · show z_Ev E (d + 1) z_m223 6 [some (.int b), some (.int n), some (.int lo), some (.int hi), some (.int (s_pi b 31)), some (.int (nI 31))] [] 161 (I, J, RF w) _
    refine z_evG 3 (y := if (nI 31) < 31 then z_go 13 [some (.int b), some (.int n), some (.int lo), some (.int hi), some (.int (s_pi b 31)), some (.int (nI 31))] [] 161 (I, J, RF w) else z_go 30 [some (.int b), some (.int n), some (.int lo), some (.int hi), some (.int (s_pi b 31)), some (.int (nI 31))] [] 161 (I, J, RF w)) (fun _ => rfl) ?_
    refine z_evF (mt (show _ ↔ 31 < 31 from z_ltN rfl rfl (by omega) (by omega)).mp (by omega)) ?_
    refine z_evL ?_
    refine z_evG 2 (y := if b < 0 then z_go 55 [some (.int b), some (.int n), some (.int lo), some (.int hi), some (.int (s_pi b 31)), some (.int (nI 31))] [] 161 (I, J, RF w) else z_go 34 [some (.int b), some (.int n), some (.int lo), some (.int hi), some (.int (s_pi b 31)), some (.int (nI 31))] [] 161 (I, J, RF w)) (fun _ => rfl) ?_
    refine z_evI (fun h2 => ?_) (fun h2 => ?_)
    · refine z_evL ?_
      refine z_evG 2 (y := some (.inr (some (.int 0), 161, I, J, RF w))) (fun _ => rfl) ?_
      exact z_evR (by simp only [z_bo, h2, and_true, true_and, and_false, false_and, not_true, not_false_iff, if_true, if_false, and_self, reduceIte])
    · refine z_evL ?_
      refine z_evG 5 (y := if b < (1 <<< (n &&& 31)) then z_go 41 [some (.int b), some (.int n), some (.int lo), some (.int hi), some (.int (s_pi b 31)), some (.int (nI 31))] [] 161 (I, J, RF w) else z_go 55 [some (.int b), some (.int n), some (.int lo), some (.int hi), some (.int (s_pi b 31)), some (.int (nI 31))] [] 161 (I, J, RF w)) (fun _ => rfl) ?_
      refine z_evI (fun h3 => ?_) (fun h3 => ?_)
      · refine z_evL ?_
        refine z_evG 4 (y := z_ret (z_cl E (d + 1) 178 [.int (s_pi b 31), .int lo, .int hi] (161, (I, J, RF w))) 48 [some (.int b), some (.int n), some (.int lo), some (.int hi), some (.int (s_pi b 31)), some (.int (nI 31))] []) (fun _ => rfl) ?_
        refine z_evK (v := .int (z_bo (¬ (s_pi b 31) < lo ∧ ¬ hi < (s_pi b 31)))) (z' := 161) (σ' := (I, J, RF w)) (m_in E d I J w (s_pi b 31) lo hi) ?_
        refine z_evG 1 (y := if (z_bo (¬ (s_pi b 31) < lo ∧ ¬ hi < (s_pi b 31))) = 0 then z_go 55 [some (.int b), some (.int n), some (.int lo), some (.int hi), some (.int (s_pi b 31)), some (.int (nI 31))] [] 161 (I, J, RF w) else z_go 51 [some (.int b), some (.int n), some (.int lo), some (.int hi), some (.int (s_pi b 31)), some (.int (nI 31))] [] 161 (I, J, RF w)) (fun _ => rfl) ?_
        refine z_evO (fun h4 => ?_) (fun h4 => ?_)
        · refine z_evL ?_
          refine z_evG 2 (y := some (.inr (some (.int 0), 161, I, J, RF w))) (fun _ => rfl) ?_
          exact z_evR (by simp only [z_bo, h2, h3, h4, and_true, true_and, and_false, false_and, not_true, not_false_iff, if_true, if_false, and_self, reduceIte])
        · refine z_evL ?_
          refine z_evG 3 (y := some (.inr (some (.int 1), 161, I, J, RF w))) (fun _ => rfl) ?_
          exact z_evR (by simp only [z_bo, h2, h3, h4, and_true, true_and, and_false, false_and, not_true, not_false_iff, if_true, if_false, and_self, reduceIte])
      · refine z_evL ?_
        refine z_evG 2 (y := some (.inr (some (.int 0), 161, I, J, RF w))) (fun _ => rfl) ?_
        exact z_evR (by simp only [z_bo, h2, h3, and_true, true_and, and_false, false_and, not_true, not_false_iff, if_true, if_false, and_self, reduceIte])
  · show z_Ev E (d + 1) z_m223 6 [some (.int b), some (.int n), some (.int lo), some (.int hi), some (.int (s_pi b k)), some (.int (nI k))] [] 161 (I, J, RF w) _
    have nx : (True) → z_Ev E (d + 1) z_m223 6 [some (.int b), some (.int n), some (.int lo), some (.int hi), some (.int (s_pi b (k + 1))), some (.int (nI (k + 1)))] [] 161 (I, J, RF w) _ := next
    refine z_evG 3 (y := if (nI k) < 31 then z_go 13 [some (.int b), some (.int n), some (.int lo), some (.int hi), some (.int (s_pi b k)), some (.int (nI k))] [] 161 (I, J, RF w) else z_go 30 [some (.int b), some (.int n), some (.int lo), some (.int hi), some (.int (s_pi b k)), some (.int (nI k))] [] 161 (I, J, RF w)) (fun _ => rfl) ?_
    refine z_evT ((show _ ↔ k < 31 from z_ltN rfl rfl (by omega) (by omega)).mpr (by omega)) ?_
    refine z_evL ?_
    refine z_evG 10 (y := z_go 6 [some (.int b), some (.int n), some (.int lo), some (.int hi), some (.int ((s_pi b k) + ((b >>> ((nI k) &&& 31)) &&& 1))), some (.int ((nI k) + 1))] [] 161 (I, J, RF w)) (fun _ => rfl) ?_
    refine z_evL ?_
    rw [nI_1 k]
    exact nx trivial
/-- a set of bits below n, by the reference -/
theorem z_setM {b lo hi : Int32} {n : Nat} (hn : n < 31) : (¬ b < 0 ∧ b < 1 <<< (nI n &&& 31) ∧ ¬ s_pi b 31 < lo ∧ ¬ hi < s_pi b 31) ↔ ∃ x, x < 2 ^ n ∧ b = nI x ∧ ¬ nI (s_pn x n) < lo ∧ ¬ hi < nI (s_pn x n) := by
  constructor
  · rintro ⟨h1, h2, h3, h4⟩
    obtain ⟨x, hx, e⟩ := (z_belowM hn).mp ⟨h1, h2⟩
    subst e
    have := z_pow31 hn
    have t := s_pn_top hx (31 - n)
    rw [show n + (31 - n) = 31 by omega] at t
    rw [s_pi_n (by omega) 31 (by decide), t] at h3 h4
    exact ⟨x, hx, rfl, h3, h4⟩
  · rintro ⟨x, hx, e, h3, h4⟩
    have h := (z_belowM hn).mpr ⟨x, hx, e⟩
    subst e
    have := z_pow31 hn
    have t := s_pn_top hx (31 - n)
    rw [show n + (31 - n) = 31 by omega] at t
    refine ⟨h.1, h.2, ?_, ?_⟩ <;> rw [s_pi_n (by omega) 31 (by decide), t] <;> assumption
theorem z_someM {b : Int32} {n : Nat} (hn : n ≤ 20) : (¬ b < 0 ∧ b < 1 <<< (nI n &&& 31) ∧ ¬ s_pi b 31 < 1 ∧ ¬ 20 < s_pi b 31) ↔ ∃ x, x < 2 ^ n ∧ b = nI x ∧ x ≠ 0 := by
  rw [z_setM (by omega)]
  constructor
  · rintro ⟨x, hx, e, h3, h4⟩
    refine ⟨x, hx, e, ?_⟩
    rintro rfl
    rw [s_pn_z] at h3
    exact h3 (by decide)
  · rintro ⟨x, hx, e, h⟩
    have l := s_pn_le x n
    refine ⟨x, hx, e, mt (show _ ↔ s_pn x n < 1 from z_ltN rfl rfl (by omega) (by decide)).mp (fun q => h (s_pn_0 hx (by omega))), mt (show _ ↔ 20 < s_pn x n from z_ltN rfl rfl (by decide) (by omega)).mp (by omega)⟩
theorem z_someX {b : Int32} {n : Nat} (hn : n ≤ 20) : (¬ b = 0 ∧ (b &&& ((-1) <<< (nI n &&& 31))) = 0) ↔ ∃ x, x < 2 ^ n ∧ b = nI x ∧ x ≠ 0 := by
  have p := z_pow31 (n := n) (by omega)
  constructor
  · rintro ⟨h1, h2⟩
    obtain ⟨x, hx, e⟩ := (z_belowX (by omega)).mp h2
    exact ⟨x, hx, e, fun q => h1 (by rw [e, q]; rfl)⟩
  · rintro ⟨x, hx, e, h⟩
    exact ⟨fun q => h ((z_eqN (b := 0) e rfl (by omega) (by decide)).mp q), (z_belowX (by omega)).mpr ⟨x, hx, e⟩⟩
