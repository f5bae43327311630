-- CHART by the reference
theorem m_chR (E : zE) (d : Nat) (I0 : Nat → Nat → Int32) (J : Nat → Nat → Int64) (w : Nat) (b : Int32) (n : Nat) (rb : Nat → Int32) (hn : n ≤ 8) (h_n : I0 127 11 = nI n) (hR : ∀ I, (∀ x j, x ≠ 151 → I x j = I0 x j) → ∀ e, e < n → z_cl E (d + 3) 229 [.ref 127, .int (nI e)] (161, I, J, RF w) = some (some (.int (rb e)), 161, I, J, RF w)) : ∀ r a I, a + r = n → (∀ x j, x ≠ 151 → I x j = I0 x j) → (∀ k, k < a → I 151 k = rb k) → ∃ I', (∀ res, z_Ev E (d + 3) z_m232 48 [some (.ref 127), some (.int b), some (.int (-1)), some (.int 0), none, none, none, none] [] 161 (I', J, RF w) res → z_Ev E (d + 3) z_m232 19 [some (.ref 127), some (.int b), some (.int (nI a)), none, none, none, none, none] [] 161 (I, J, RF w) res) ∧ (∀ x j, x ≠ 151 → I' x j = I0 x j) ∧ ∀ k, k < n → I' 151 k = rb k
  | 0, a, I, h, s, g => by
    have e : a = n := h
    exact ⟨I, fun res q => m_ch_re E d I J w a n b ((s 127 11 (by decide)).trans h_n) hn e q, s, fun k hk => g k (by omega)⟩
  | r + 1, a, I, h, s, g => by
    obtain ⟨I', e1, e2, e3⟩ := m_chR E d I0 J w b n rb hn h_n hR r (a + 1) (z_u2 I 151 a (rb a)) (by omega) (fun x j q => (z_u2_n _ _ (fun t => q t.1)).trans (s x j q)) (fun k hk => by
      by_cases e : k = a
      · rw [e, z_u2_same]
      · rw [z_u2_n _ _ (fun t => e t.2)]; exact g k (by omega))
    exact ⟨I', fun res q => m_ch_r E d I J w a n b (rb a) ((s 127 11 (by decide)).trans h_n) hn (by omega) (hR I s a (by omega)) (e1 res q), e2, e3⟩
theorem m_chartQ (E : zE) (d : Nat) (I : Nat → Nat → Int32) (J : Nat → Nat → Int64) (w : Nat) (b : Int32) (n q : Nat) (rb : Nat → Int32) (Td : Nat → Bool) (hn : n ≤ 8) (h_n : I 127 11 = nI n) (h_q : I 127 43 = nI q) (hq : q ≤ 10) (hb : ¬ b < 0 ∧ b < 1 <<< (I 127 11 &&& 31) ∧ ¬ s_pi b 31 < 0 ∧ ¬ 8 < s_pi b 31) (hR : ∀ I', (∀ x j, x ≠ 151 → I' x j = I x j) → ∀ e, e < n → z_cl E (d + 3) 229 [.ref 127, .int (nI e)] (161, I', J, RF w) = some (some (.int (rb e)), 161, I', J, RF w)) (hT : ∀ v, Td v = true ↔ ∀ a c, a < n → c < a → s_ne b (nI v) rb a c) : ∃ I', z_cl E (d + 4) 232 [.ref 127, .int b] (161, I, J, RF w) = some (some (.int (z_enc (s_few Td (2 ^ q)))), 161, I', J, RF w) ∧ ∀ x j, x ≠ 151 → I' x j = I x j := by
  obtain ⟨I', e1, e2, e3⟩ := m_chR E d I J w b n rb hn h_n hR n 0 I (by omega) (fun _ _ _ => rfl) (fun k hk => absurd hk (Nat.not_lt_zero k))
  have t := m_chS E d I' J w b n q Td hn ((e2 127 11 (by decide)).trans h_n) ((e2 127 43 (by decide)).trans h_q) hq (fun v => (hT v).trans (by
    constructor
    · intro g a c _ h1 h2 t1 t2; rw [e3 a h1, e3 c (by omega)]; exact g a c h1 h2 t1 t2
    · intro g a c h1 h2 t1 t2; have := g a c (Nat.zero_le _) h1 h2 t1 t2; rw [e3 a h1, e3 c (by omega)] at this; exact this)) (2 ^ q) 0 none none none none (by omega)
  exact ⟨I', z_call (d := d + 3) (M := z_m232) rfl rfl (m_ch_st E d I J w b hb (e1 _ t)), e2⟩
