-- CHART: the pairs of eyes, all
def s_np (n a : Nat) : Nat := z_fo (fun i s => s + (n - (i + 1))) 0 a
theorem s_np_lt : ∀ n, n < 9 → ∀ a, a < n → ∀ c, c < n → a < c → s_np n a + (c - (a + 1)) < 28 := by decide
theorem s_np_le : ∀ n, n < 9 → s_np n n ≤ 28 := by decide
def s_td (b : Int32) (k : Nat) : Prop := ((b >>> (nI k &&& 31)) &&& 1) = 1
def s_US (I0 I : Nat → Nat → Int32) (rb : Nat → Int32) (b : Int32) (D : Nat → Nat → Prop) (k : Nat) : Prop := (∀ x j, ¬ ((x = 106 ∧ j = 5) ∨ x = 109) → I x j = I0 x j) ∧ I 106 5 = nI k ∧ ∀ P : Int32 → Prop, (∀ j, j < k → P (I 109 j)) ↔ ∀ a c, D a c → s_td b a → s_td b c → P (rb a ^^^ rb c)
theorem s_US_d {I0 I : Nat → Nat → Int32} {rb : Nat → Int32} {b : Int32} {D D' : Nat → Nat → Prop} {k : Nat} (h : s_US I0 I rb b D k) (e : ∀ a c, D' a c ↔ D a c) : s_US I0 I rb b D' k := by
  refine ⟨h.1, h.2.1, fun P => (h.2.2 P).trans ?_⟩
  constructor
  · intro g a c q; exact g a c ((e a c).mp q)
  · intro g a c q; exact g a c ((e a c).mpr q)
theorem x_fuI (E : zE) (d : Nat) (J : Nat → Nat → Int64) (w : Nat) (b : Int32) (n : Nat) (rb : Nat → Int32) (I0 : Nat → Nat → Int32) (hn : n ≤ 8) (h_n : I0 65 3 = nI n) (hR : ∀ I, (∀ x j, ¬ ((x = 106 ∧ j = 5) ∨ x = 109) → I x j = I0 x j) → ∀ e, e < n → z_cl E (d + 4) 50 [.ref 106, .int (nI e)] (161, I, J, RF w) = some (some (.int (rb e)), 161, I, J, RF w)) (a : Nat) (ha : a < n) : ∀ r c k I, c + r = n → a < c → s_US I0 I rb b (fun a' c' => a' < c' ∧ c' < n ∧ (a' < a ∨ (a' = a ∧ c' < c))) k → k ≤ s_np n a + (c - (a + 1)) → ∃ I' k', (∀ res, z_Ev E (d + 4) z_m52 7 [some (.ref 106), some (.int b), some (.int (nI (a + 1))), some (.int (nI n))] [] 161 (I', J, RF w) res → z_Ev E (d + 4) z_m52 22 [some (.ref 106), some (.int b), some (.int (nI a)), some (.int (nI c))] [] 161 (I, J, RF w) res) ∧ s_US I0 I' rb b (fun a' c' => a' < c' ∧ c' < n ∧ a' < a + 1) k' ∧ k' ≤ s_np n (a + 1)
  | 0, c, k, I, hc, hac, h, hk => by
    have e : c = n := hc
    have sz : I 65 3 = nI n := (h.1 65 3 (by omega)).trans h_n
    refine ⟨I, k, fun res q => x_fu_end E d I J w a c n b sz hn e (by rw [e]; exact q), s_US_d h (fun a' c' => by constructor <;> intro g <;> omega), ?_⟩
    show k ≤ s_np n a + (n - (a + 1))
    rw [e] at hk; exact hk
  | r + 1, c, k, I, hc, hac, h, hk => by
    have sz : I 65 3 = nI n := (h.1 65 3 (by omega)).trans h_n
    have hcn : c < n := by omega
    by_cases h1 : s_td b a
    · by_cases h2 : s_td b c
      · have k28 : k < 28 := Nat.lt_of_le_of_lt hk (s_np_lt n (by omega) a ha c hcn hac)
        have h' : s_US I0 (z_u2 (z_u2 I 109 k (rb a ^^^ rb c)) 106 5 (I 106 5 + 1)) rb b (fun a' c' => a' < c' ∧ c' < n ∧ (a' < a ∨ (a' = a ∧ c' < c + 1))) (k + 1) := by
          refine ⟨?_, ?_, ?_⟩
          · intro x j q
            rw [z_u2_n _ _ (fun r => q (.inl r)), z_u2_n _ _ (fun r => q (.inr r.1))]
            exact h.1 x j q
          · rw [z_u2_same, h.2.1, nI_1]
          · intro P
            have rd : ∀ j, z_u2 (z_u2 I 109 k (rb a ^^^ rb c)) 106 5 (I 106 5 + 1) 109 j = z_u2 I 109 k (rb a ^^^ rb c) 109 j := fun j => z_u2_n _ _ (by omega)
            constructor
            · intro g a' c' q t1 t2
              rcases (by omega : (a' < c' ∧ c' < n ∧ (a' < a ∨ (a' = a ∧ c' < c))) ∨ (a' = a ∧ c' = c)) with q' | q'
              · refine (h.2.2 P).mp ?_ a' c' q' t1 t2
                intro j hj
                have := g j (by omega)
                rw [rd, z_u2_n _ _ (by omega)] at this
                exact this
              · have := g k (by omega)
                rw [rd, z_u2_same] at this
                rw [q'.1, q'.2]; exact this
            · intro g j hj
              rw [rd]
              by_cases e : j = k
              · rw [e, z_u2_same]; exact g a c (by omega) h1 h2
              · rw [z_u2_n _ _ (by omega)]
                exact (h.2.2 P).mpr (fun a' c' q t1 t2 => g a' c' (by omega) t1 t2) j (by omega)
        obtain ⟨I', k', e1, e2, e3⟩ := x_fuI E d J w b n rb I0 hn h_n hR a ha r (c + 1) (k + 1) _ (by omega) (by omega) h' (by omega)
        exact ⟨I', k', fun res q => x_fu_yes E d I J w a c n b k (rb a) (rb c) sz hn hcn ha h1 h2 h.2.1 k28 (hR I h.1 a ha) (hR I h.1 c hcn) (e1 res q), e2, e3⟩
      · obtain ⟨I', k', e1, e2, e3⟩ := x_fuI E d J w b n rb I0 hn h_n hR a ha r (c + 1) k I (by omega) (by omega) ⟨h.1, h.2.1, fun P => (h.2.2 P).trans ⟨fun g a' c' q t1 t2 => by
          rcases (by omega : (a' < c' ∧ c' < n ∧ (a' < a ∨ (a' = a ∧ c' < c))) ∨ (a' = a ∧ c' = c)) with q' | q'
          · exact g a' c' q' t1 t2
          · rw [q'.2] at t2; exact absurd t2 h2, fun g a' c' q t1 t2 => g a' c' (by omega) t1 t2⟩⟩ (by omega)
        exact ⟨I', k', fun res q => x_fu_no2 E d I J w a c n b sz hn hcn ha h1 h2 (e1 res q), e2, e3⟩
    · obtain ⟨I', k', e1, e2, e3⟩ := x_fuI E d J w b n rb I0 hn h_n hR a ha r (c + 1) k I (by omega) (by omega) ⟨h.1, h.2.1, fun P => (h.2.2 P).trans ⟨fun g a' c' q t1 t2 => by
        rcases (by omega : (a' < c' ∧ c' < n ∧ (a' < a ∨ (a' = a ∧ c' < c))) ∨ (a' = a ∧ c' = c)) with q' | q'
        · exact g a' c' q' t1 t2
        · rw [q'.1] at t1; exact absurd t1 h1, fun g a' c' q t1 t2 => g a' c' (by omega) t1 t2⟩⟩ (by omega)
      exact ⟨I', k', fun res q => x_fu_no1 E d I J w a c n b sz hn hcn ha h1 (e1 res q), e2, e3⟩
theorem x_fuO (E : zE) (d : Nat) (J : Nat → Nat → Int64) (w : Nat) (b : Int32) (n : Nat) (rb : Nat → Int32) (I0 : Nat → Nat → Int32) (hn : n ≤ 8) (h_n : I0 65 3 = nI n) (hR : ∀ I, (∀ x j, ¬ ((x = 106 ∧ j = 5) ∨ x = 109) → I x j = I0 x j) → ∀ e, e < n → z_cl E (d + 4) 50 [.ref 106, .int (nI e)] (161, I, J, RF w) = some (some (.int (rb e)), 161, I, J, RF w)) : ∀ r a k I x3, a + r = n → s_US I0 I rb b (fun a' c' => a' < c' ∧ c' < n ∧ a' < a) k → k ≤ s_np n a → ∃ I' k', z_Ev E (d + 4) z_m52 7 [some (.ref 106), some (.int b), some (.int (nI a)), x3] [] 161 (I, J, RF w) (none, 161, I', J, RF w) ∧ s_US I0 I' rb b (fun a' c' => a' < c' ∧ c' < n) k' ∧ k' ≤ 28
  | 0, a, k, I, x3, hr, h, hk => by
    have e : a = n := hr
    have sz : I 65 3 = nI n := (h.1 65 3 (by omega)).trans h_n
    refine ⟨I, k, x_fu_ret E d I J w a n b x3 sz hn e, s_US_d h (fun a' c' => by constructor <;> intro g <;> omega), ?_⟩
    rw [e] at hk
    exact Nat.le_trans hk (s_np_le n (by omega))
  | r + 1, a, k, I, x3, hr, h, hk => by
    have sz : I 65 3 = nI n := (h.1 65 3 (by omega)).trans h_n
    obtain ⟨I1, k1, e1, e2, e3⟩ := x_fuI E d J w b n rb I0 hn h_n hR a (by omega) (n - (a + 1)) (a + 1) k I (by omega) (by omega) (s_US_d h (fun a' c' => by constructor <;> intro g <;> omega)) (by omega)
    obtain ⟨I2, k2, f1, f2, f3⟩ := x_fuO E d J w b n rb I0 hn h_n hR r (a + 1) k1 I1 (some (.int (nI n))) (by omega) e2 e3
    exact ⟨I2, k2, x_fu_out E d I J w a n b x3 sz hn (by omega) (e1 _ f1), f2, f3⟩
theorem x_findUnlikeQ (E : zE) (d : Nat) (J : Nat → Nat → Int64) (w : Nat) (b : Int32) (n : Nat) (rb : Nat → Int32) (I0 : Nat → Nat → Int32) (hn : n ≤ 8) (h_n : I0 65 3 = nI n) (hR : ∀ I, (∀ x j, ¬ ((x = 106 ∧ j = 5) ∨ x = 109) → I x j = I0 x j) → ∀ e, e < n → z_cl E (d + 4) 50 [.ref 106, .int (nI e)] (161, I, J, RF w) = some (some (.int (rb e)), 161, I, J, RF w)) : ∃ I' k', z_cl E (d + 5) 52 [.ref 106, .int b] (161, I0, J, RF w) = some (none, 161, I', J, RF w) ∧ s_US I0 I' rb b (fun a' c' => a' < c' ∧ c' < n) k' ∧ k' ≤ 28 := by
  have h0 : s_US I0 (z_u2 I0 106 5 0) rb b (fun a' c' => a' < c' ∧ c' < n ∧ a' < 0) 0 := ⟨fun x j q => z_u2_n _ _ (fun r => q (.inl r)), z_u2_same _ _ _ _, fun P => ⟨fun _ a c q => by omega, fun _ j hj => absurd hj (Nat.not_lt_zero j)⟩⟩
  obtain ⟨I', k', e1, e2, e3⟩ := x_fuO E d J w b n rb I0 hn h_n hR n 0 0 _ none (by omega) h0 (Nat.zero_le _)
  exact ⟨I', k', z_call (d := d + 4) (M := z_m52) rfl rfl (x_fu_st E d I0 J w b e1), e2, e3⟩
