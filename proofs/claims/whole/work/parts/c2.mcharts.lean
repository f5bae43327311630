-- CHART by the reference: the sets
theorem m_chS (E : zE) (d : Nat) (I : Nat → Nat → Int32) (J : Nat → Nat → Int64) (w : Nat) (b : Int32) (n q : Nat) (Td : Nat → Bool) (hn : n ≤ 8) (h_n : I 127 11 = nI n) (h_q : I 127 43 = nI q) (hq : q ≤ 10) (hT : ∀ v, Td v = true ↔ ∀ a' c', 0 ≤ a' → a' < n → c' < a' → s_ne b (nI v) (I 151) a' c') : ∀ r v x4 x5 x6 x7, v + r = 2 ^ q → z_Ev E (d + 3) z_m232 48 [some (.ref 127), some (.int b), some (.int (z_enc (s_few Td v))), some (.int (nI v)), x4, x5, x6, x7] [] 161 (I, J, RF w) (some (.int (z_enc (s_few Td (2 ^ q)))), 161, I, J, RF w)
  | 0, v, x4, x5, x6, x7, h => by
    have e : v = 2 ^ q := h
    have t := m_ch_end E d I J w v q b x4 x5 x6 x7 (z_enc (s_few Td v)) h_q hq (Nat.pow_le_pow_right (by decide) hq) e
    rw [← e]
    exact t
  | r + 1, v, x4, x5, x6, x7, h => by
    have h2 : 2 ^ q ≤ 2 ^ 10 := Nat.pow_le_pow_right (by decide) hq
    have hv : v < 2 ^ q := by omega
    have step : ∀ (t : Bool), (t = true ↔ (s_few Td v = none ∨ s_pn v 24 < s_pn ((s_few Td v).getD 0) 24)) → (∀ res, z_Ev E (d + 3) z_m232 84 [some (.ref 127), some (.int b), some (.int (z_enc (s_few Td v))), some (.int (nI v)), some (.int (if t = true then 1 else 0)), some (.int (nI 0)), x6, x7] [] 161 (I, J, RF w) res → z_Ev E (d + 3) z_m232 48 [some (.ref 127), some (.int b), some (.int (z_enc (s_few Td v))), some (.int (nI v)), x4, x5, x6, x7] [] 161 (I, J, RF w) res) → z_Ev E (d + 3) z_m232 48 [some (.ref 127), some (.int b), some (.int (z_enc (s_few Td v))), some (.int (nI v)), x4, x5, x6, x7] [] 161 (I, J, RF w) (some (.int (z_enc (s_few Td (2 ^ q)))), 161, I, J, RF w) := by
      intro t ht go
      obtain ⟨t', y4, y5, y6, y7, e1, e2⟩ := m_chO E d I J w b (z_enc (s_few Td v)) (nI v) n hn h_n n 0 t x6 x7 (by omega)
      refine go _ (e1 _ ?_)
      have ih := m_chS E d I J w b n q Td hn h_n h_q hq hT r (v + 1) y4 y5 y6 y7 (by omega)
      rw [nI_1 v]
      by_cases g : t' = true
      · have g' := e2.mp g
        rw [s_few_t ⟨ht.mp g'.1, (hT v).mpr g'.2⟩] at ih
        rw [if_pos g]
        exact ih
      · rw [s_few_f (fun x => g (e2.mpr ⟨ht.mpr x.1, (hT v).mp x.2⟩))] at ih
        rw [if_neg g]
        exact ih
    cases e : s_few Td v with
    | none =>
      rw [e] at step
      exact step true ⟨fun _ => .inl rfl, fun _ => rfl⟩ (fun res q' => m_ch_s1 E d I J w v q b x4 x5 x6 x7 h_q hq h2 hv q')
    | some j =>
      have hj := s_few_lt _ _ _ e
      rw [e] at step
      by_cases l : s_pn v 24 < s_pn j 24
      · exact step true ⟨fun _ => .inr l, fun _ => rfl⟩ (fun res q' => m_ch_sl E d I J w j v q b x4 x5 x6 x7 h_q hq h2 hv (by omega) l q')
      · exact step false ⟨fun x => absurd x Bool.false_ne_true, fun x => x.elim (fun y => by cases y) (fun y => absurd y l)⟩ (fun res q' => m_ch_sg E d I J w j v q b x4 x5 x6 x7 h_q hq h2 hv (by omega) l q')
