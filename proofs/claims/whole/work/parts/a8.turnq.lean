-- TURN by a common word, on both sides
theorem x_turnQ (E : zE) (d : Nat) (I : Nat → Nat → Int32) (J : Nat → Nat → Int64) (w : Nat) (t a b r K p : Nat) (L R : Nat → Nat) (ht : t < 20) (hr : I 39 t = nI r) (hr3 : r < 30) (ha : z_A a 8) (hb : z_A b 8) (hb9 : 96 ≤ b) (hab : a ≠ b) (hK : I 38 t = nI K) (hK6 : K < 6) (hp : I 40 t = nI p) (hp1 : p < 100) (hL : ∀ c, c < 8 → I a c = nI (L c) ∧ L c ≤ 1000000000) (hR : ∀ c, c < 8 → I (3 + r) c = nI (R c) ∧ R c ≤ 999) : ∃ I', z_cl E (d + 4) 120 [.ref 37, .int (nI t), .ref a, .ref b] (161, I, J, RF w) = some (none, 161, I', J, RF w) ∧ (∀ c, c < 8 → I' b c = nI (s_tn K L R p c)) ∧ ∀ x k, x ≠ b → I' x k = I x k := by
  have h100 : (100 - I 40 t).toInt64 = Int64.ofNat (100 - p) := by
    rw [hp, show (100 : Int32) - nI p = nI (100 - p) from z_subE (a := 100) rfl rfl (by omega), z_i64 (by omega)]
  have val : ∀ c, c < 8 → z_lim9 (z_trn K (I a c).toInt64 (I (3 + r) c).toInt64 (100 - I 40 t).toInt64) = nI (s_m9 (s_tv K (L c) (R c) p)) := by
    intro c hc
    have h1 := hL c hc
    have h2 := hR c hc
    have z := z_trn_nat (K := K) (x := L c) (r := R c) (p := p) hK6 h1.2 h2.2 hp1
    rw [h1.1, h2.1, h100, z_i64 (by omega), z_i64 (by omega), z.1, z_lim9_nat (by omega)]
  rcases (by omega : K = 0 ∨ K = 1 ∨ K = 2 ∨ K = 3 ∨ K = 4 ∨ K = 5) with e | e | e | e | e | e <;> subst e
  · refine ⟨_, x_turn_0 E d I J w t a b r ht hr hr3 ha hb hb9 hab hK, ?_, ?_⟩
    · intro c hc
      rw [z_ur_same, z_fil_in0 hc, show s_tn 0 L R p c = s_m9 (s_tv 0 (L c) (R c) p) from if_neg (fun q => by cases q.1)]
      exact val c hc
    · intro x k q
      rw [z_ur_n _ _ q]
  · refine ⟨_, x_turn_1 E d I J w t a b r ht hr hr3 ha hb hb9 hab hK, ?_, ?_⟩
    · intro c hc
      rw [z_ur_same, z_fil_in0 hc, show s_tn 1 L R p c = s_m9 (s_tv 1 (L c) (R c) p) from if_neg (fun q => by cases q.1)]
      exact val c hc
    · intro x k q
      rw [z_ur_n _ _ q]
  · refine ⟨_, x_turn_2 E d I J w t a b r ht hr hr3 ha hb hb9 hab hK, ?_, ?_⟩
    · intro c hc
      rw [z_ur_same, z_fil_in0 hc, show s_tn 2 L R p c = s_m9 (s_tv 2 (L c) (R c) p) from if_neg (fun q => by cases q.1)]
      exact val c hc
    · intro x k q
      rw [z_ur_n _ _ q]
  · refine ⟨_, x_turn_3 E d I J w t a b r ht hr hr3 ha hb hb9 hab hK, ?_, ?_⟩
    · intro c hc
      rw [z_ur_same, z_fil_in0 hc, show s_tn 3 L R p c = s_m9 (s_tv 3 (L c) (R c) p) from if_neg (fun q => by cases q.1)]
      exact val c hc
    · intro x k q
      rw [z_ur_n _ _ q]
  · refine ⟨_, x_turn_4 E d I J w t a b r p ht hr hr3 ha hb hb9 hab hK hp hp1, ?_, ?_⟩
    · intro c hc
      unfold s_tn
      by_cases q : c = p % 8
      · have v := val (p % 8) (by omega)
        have h0 := hL 0 (by decide)
        rw [if_pos ⟨rfl, q⟩, q, z_u2_same, v, z_i64 (by have := s_m9_le (s_tv 4 (L (p % 8)) (R (p % 8)) p); omega), h0.1, show nI (L 0) / 2 = nI (L 0 / 2) from z_divE (m := 2) rfl (by omega) (by decide) (by decide), z_i64 (by omega), ← Int64.ofNat_add, z_lim9_nat (by have := s_m9_le (s_tv 4 (L (p % 8)) (R (p % 8)) p); omega), s_m9_add]
      · rw [if_neg (fun r => q r.2), z_u2_n _ _ (fun r => q r.2), z_ur_same, z_fil_in0 hc]
        exact val c hc
    · intro x k q
      rw [z_u2_n _ _ (fun r => q r.1), z_ur_n _ _ q]
  · refine ⟨_, x_turn_5 E d I J w t a b r ht hr hr3 ha hb hb9 hab hK, ?_, ?_⟩
    · intro c hc
      rw [z_ur_same, z_fil_in0 hc, show s_tn 5 L R p c = s_m9 (s_tv 5 (L c) (R c) p) from if_neg (fun q => by cases q.1)]
      exact val c hc
    · intro x k q
      rw [z_ur_n _ _ q]
theorem m_turnQ (E : zE) (d : Nat) (I : Nat → Nat → Int32) (J : Nat → Nat → Int64) (w : Nat) (f t g r K p : Nat) (L R : Nat → Nat) (ht : t < 20) (hf : f < 24) (hg : g < 24) (hfg : f ≠ g) (hr : I 130 t = nI r) (hr3 : r < 30) (hK : I 129 t = nI K) (hK6 : K < 6) (hp : I 131 t = nI p) (hp1 : p < 100) (hL : ∀ c, c < 8 → I 134 (8 * f + c) = nI (L c) ∧ L c ≤ 1000000000) (hR : ∀ c, c < 8 → I 128 (8 * r + c) = nI (R c) ∧ R c ≤ 999) : ∃ I', z_cl E (d + 1) 189 [.ref 127, .int (nI f), .int (nI t), .int (nI g)] (161, I, J, RF w) = some (none, 161, I', J, RF w) ∧ (∀ c, c < 8 → I' 134 (8 * g + c) = nI (s_tn K L R p c)) ∧ ∀ x k, ¬ (x = 134 ∧ 8 * g ≤ k ∧ k < 8 * g + 8) → I' x k = I x k := by
  have h100 : (100 - I 131 t).toInt64 = Int64.ofNat (100 - p) := by
    rw [hp, show (100 : Int32) - nI p = nI (100 - p) from z_subE (a := 100) rfl rfl (by omega), z_i64 (by omega)]
  have rd : ∀ (h : Nat → Int32) c, c < 8 → z_ur I 134 (z_fil (I 134) (8 * g) 8 h) 134 (8 * g + c) = h c := by
    intro h c hc
    rw [z_ur_same, z_fil_in (by omega), show 8 * g + c - 8 * g = c by omega]
  have oth : ∀ (h : Nat → Int32) x k, ¬ (x = 134 ∧ 8 * g ≤ k ∧ k < 8 * g + 8) → z_ur I 134 (z_fil (I 134) (8 * g) 8 h) x k = I x k := by
    intro h x k q
    by_cases e : x = 134
    · subst e; rw [z_ur_same, z_fil_ge (fun r => q ⟨rfl, r⟩)]
    · rw [z_ur_n _ _ e]
  have hx : ∀ c, c < 8 → (I 134 (8 * f + c)).toInt64 = Int64.ofNat (L c) := fun c hc => by rw [(hL c hc).1, z_i64 (by have := (hL c hc).2; omega)]
  have hy : ∀ c, c < 8 → (I 128 (8 * r + c)).toInt64 = Int64.ofNat (R c) := fun c hc => by rw [(hR c hc).1, z_i64 (by have := (hR c hc).2; omega)]
  have hz : ∀ c, c < 8 → (500 + I 128 (8 * r + c) / 2).toInt64 = 500 + Int64.ofNat (R c) / 2 := fun c hc => by
    have b := (hR c hc).2
    rw [(hR c hc).1, show nI (R c) / 2 = nI (R c / 2) from z_divE (m := 2) rfl (by omega) (by decide) (by decide), show (500 : Int32) + nI (R c / 2) = nI (500 + R c / 2) from nI_add 500 _, z_i64 (by omega), z_half b]
  have tv : ∀ c, c < 8 → z_trn K (Int64.ofNat (L c)) (Int64.ofNat (R c)) (Int64.ofNat (100 - p)) = Int64.ofNat (s_tv K (L c) (R c) p) ∧ s_tv K (L c) (R c) p < 2 ^ 55 := fun c hc => z_trn_nat hK6 (hL c hc).2 (hR c hc).2 hp1
  rcases (by omega : K = 0 ∨ K = 1 ∨ K = 2 ∨ K = 3 ∨ K = 4 ∨ K = 5) with e | e | e | e | e | e <;> subst e
  · refine ⟨_, m_turn_0 E d I J w f t g r ht hf hg hfg hr hr3 hK, ?_, oth _⟩
    intro c hc
    rw [rd _ c hc, show s_tn 0 L R p c = s_m9 (s_tv 0 (L c) (R c) p) from if_neg (fun q => by cases q.1)]
    exact z_lim9_alt (by rw [hx c hc, hy c hc]; exact (tv c hc).1) (by have := (tv c hc).2; omega)
  · refine ⟨_, m_turn_1 E d I J w f t g r ht hf hg hfg hr hr3 hK, ?_, oth _⟩
    intro c hc
    rw [rd _ c hc, show s_tn 1 L R p c = s_m9 (s_tv 1 (L c) (R c) p) from if_neg (fun q => by cases q.1)]
    exact z_lim9_alt (by rw [hx c hc, hy c hc]; exact (tv c hc).1) (by have := (tv c hc).2; omega)
  · refine ⟨_, m_turn_2 E d I J w f t g r ht hf hg hfg hr hr3 hK, ?_, oth _⟩
    intro c hc
    rw [rd _ c hc, show s_tn 2 L R p c = s_m9 (s_tv 2 (L c) (R c) p) from if_neg (fun q => by cases q.1)]
    exact z_lim9_alt (by rw [hx c hc, hz c hc]; exact (tv c hc).1) (by have := (tv c hc).2; omega)
  · refine ⟨_, m_turn_3 E d I J w f t g r ht hf hg hfg hr hr3 hK, ?_, oth _⟩
    intro c hc
    rw [rd _ c hc, show s_tn 3 L R p c = s_m9 (s_tv 3 (L c) (R c) p) from if_neg (fun q => by cases q.1)]
    exact z_lim9_alt (by rw [hx c hc, hy c hc, h100]; exact (tv c hc).1) (by have := (tv c hc).2; omega)
  · refine ⟨_, m_turn_4 E d I J w f t g r p ht hf hg hfg hr hr3 hK hp hp1, ?_, oth _⟩
    intro c hc
    rw [rd _ c hc]
    have v : (I 134 (8 * f + c)).toInt64 * (500 + (I 128 (8 * r + c)) / 2).toInt64 / 1000 = Int64.ofNat (s_tv 4 (L c) (R c) p) := by rw [hx c hc, hz c hc]; exact (tv c hc).1
    have l := (tv c hc).2
    have h0 := hL 0 (by decide)
    have l0 : (I 134 (8 * f) / 2).toInt64 = Int64.ofNat (L 0 / 2) := by rw [show I 134 (8 * f) = nI (L 0) from h0.1, show nI (L 0) / 2 = nI (L 0 / 2) from z_divE (m := 2) rfl (by omega) (by decide) (by decide), z_i64 (by omega)]
    by_cases q : c = p % 8
    · have e1 : s_tn 4 L R p c = s_m9 (s_tv 4 (L c) (R c) p + L 0 / 2) := if_pos ⟨rfl, q⟩
      have eV : (if c = p % 8 then (I 134 (8 * f + c)).toInt64 * (500 + (I 128 (8 * r + c)) / 2).toInt64 / 1000 + (I 134 (8 * f) / 2).toInt64 else (I 134 (8 * f + c)).toInt64 * (500 + (I 128 (8 * r + c)) / 2).toInt64 / 1000) = Int64.ofNat (s_tv 4 (L c) (R c) p + L 0 / 2) := (if_pos q).trans (by rw [v, l0, ← Int64.ofNat_add])
      rw [e1]
      exact z_lim9_alt eV (by omega)
    · have e1 : s_tn 4 L R p c = s_m9 (s_tv 4 (L c) (R c) p) := if_neg (fun r => q r.2)
      have eV : (if c = p % 8 then (I 134 (8 * f + c)).toInt64 * (500 + (I 128 (8 * r + c)) / 2).toInt64 / 1000 + (I 134 (8 * f) / 2).toInt64 else (I 134 (8 * f + c)).toInt64 * (500 + (I 128 (8 * r + c)) / 2).toInt64 / 1000) = Int64.ofNat (s_tv 4 (L c) (R c) p) := (if_neg q).trans v
      rw [e1]
      exact z_lim9_alt eV (by omega)
  · refine ⟨_, m_turn_5 E d I J w f t g r ht hf hg hfg hr hr3 hK, ?_, oth _⟩
    intro c hc
    rw [rd _ c hc, show s_tn 5 L R p c = s_m9 (s_tv 5 (L c) (R c) p) from if_neg (fun q => by cases q.1)]
    exact z_lim9_alt (by rw [hx c hc, hz c hc]; exact (tv c hc).1) (by have := (tv c hc).2; omega)
