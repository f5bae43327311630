-- CHART by the reference: its loops
def s_ne (b s : Int32) (rd : Nat → Int32) (a c : Nat) : Prop := s_td b a → s_td b c → ¬ (rd a &&& s) = (rd c &&& s)
theorem m_chI (E : zE) (d : Nat) (I : Nat → Nat → Int32) (J : Nat → Nat → Int64) (w : Nat) (b f s : Int32) (a : Nat) (ha : a < 8) : ∀ r c (t : Bool) x7, c + r = a → ∃ (t' : Bool) (y7 : Option Value), (∀ res, z_Ev E (d + 3) z_m232 84 [some (.ref 127), some (.int b), some (.int f), some (.int s), some (.int (if t' = true then 1 else 0)), some (.int (nI (a + 1))), some (.int (nI a)), y7] [] 161 (I, J, RF w) res → z_Ev E (d + 3) z_m232 101 [some (.ref 127), some (.int b), some (.int f), some (.int s), some (.int (if t = true then 1 else 0)), some (.int (nI a)), some (.int (nI c)), x7] [] 161 (I, J, RF w) res) ∧ (t' = true ↔ t = true ∧ ∀ c', c ≤ c' → c' < a → s_ne b s (I 151) a c')
  | 0, c, t, x7, h => by
    have e : c = a := h
    subst e
    exact ⟨t, x7, fun res q => m_ch_ie E d I J w c c b f s x7 _ rfl ha q, ⟨fun q => ⟨q, fun c' h1 h2 => by omega⟩, fun q => q.1⟩⟩
  | r + 1, c, t, x7, h => by
    have hc : c < a := by omega
    have key : ∀ (t1 : Bool) (z7 : Option Value), (∀ res, z_Ev E (d + 3) z_m232 101 [some (.ref 127), some (.int b), some (.int f), some (.int s), some (.int (if t1 = true then 1 else 0)), some (.int (nI a)), some (.int (nI (c + 1))), z7] [] 161 (I, J, RF w) res → z_Ev E (d + 3) z_m232 101 [some (.ref 127), some (.int b), some (.int f), some (.int s), some (.int (if t = true then 1 else 0)), some (.int (nI a)), some (.int (nI c)), x7] [] 161 (I, J, RF w) res) → (t1 = true ↔ t = true ∧ s_ne b s (I 151) a c) → ∃ (t' : Bool) (y7 : Option Value), (∀ res, z_Ev E (d + 3) z_m232 84 [some (.ref 127), some (.int b), some (.int f), some (.int s), some (.int (if t' = true then 1 else 0)), some (.int (nI (a + 1))), some (.int (nI a)), y7] [] 161 (I, J, RF w) res → z_Ev E (d + 3) z_m232 101 [some (.ref 127), some (.int b), some (.int f), some (.int s), some (.int (if t = true then 1 else 0)), some (.int (nI a)), some (.int (nI c)), x7] [] 161 (I, J, RF w) res) ∧ (t' = true ↔ t = true ∧ ∀ c', c ≤ c' → c' < a → s_ne b s (I 151) a c') := by
      intro t1 z7 st iff1
      obtain ⟨t', y7, e1, e2⟩ := m_chI E d I J w b f s a ha r (c + 1) t1 z7 (by omega)
      refine ⟨t', y7, fun res q => st res (e1 res q), e2.trans ?_⟩
      constructor
      · rintro ⟨h1, h2⟩
        refine ⟨(iff1.mp h1).1, fun c' g1 g2 => ?_⟩
        by_cases e : c' = c
        · rw [e]; exact (iff1.mp h1).2
        · exact h2 c' (by omega) g2
      · rintro ⟨h1, h2⟩
        exact ⟨iff1.mpr ⟨h1, h2 c (Nat.le_refl _) hc⟩, fun c' g1 g2 => h2 c' (by omega) g2⟩
    by_cases h1 : s_td b a
    · by_cases h2 : s_td b c
      · cases t
        · exact key false _ (fun res q => m_ch_C0 E d I J w a c b f s x7 hc ha h1 h2 q) ⟨fun q => absurd q Bool.false_ne_true, fun q => q.1⟩
        · by_cases h3 : (I 151 a &&& s) = (I 151 c &&& s)
          · exact key false _ (fun res q => m_ch_C1e E d I J w a c b f s x7 hc ha h1 h2 h3 q) ⟨fun q => absurd q Bool.false_ne_true, fun q => absurd h3 (q.2 h1 h2)⟩
          · exact key true _ (fun res q => m_ch_C1n E d I J w a c b f s x7 hc ha h1 h2 h3 q) ⟨fun _ => ⟨rfl, fun _ _ => h3⟩, fun _ => rfl⟩
      · cases t
        · exact key false _ (fun res q => m_ch_B0 E d I J w a c b f s x7 hc ha h1 h2 q) ⟨fun q => absurd q Bool.false_ne_true, fun q => q.1⟩
        · exact key true _ (fun res q => m_ch_B1 E d I J w a c b f s x7 hc ha h1 h2 q) ⟨fun _ => ⟨rfl, fun _ g => absurd g h2⟩, fun _ => rfl⟩
    · cases t
      · exact key false _ (fun res q => m_ch_A0 E d I J w a c b f s x7 hc ha h1 q) ⟨fun q => absurd q Bool.false_ne_true, fun q => q.1⟩
      · exact key true _ (fun res q => m_ch_A1 E d I J w a c b f s x7 hc ha h1 q) ⟨fun _ => ⟨rfl, fun g => absurd g h1⟩, fun _ => rfl⟩
theorem m_chO (E : zE) (d : Nat) (I : Nat → Nat → Int32) (J : Nat → Nat → Int64) (w : Nat) (b f s : Int32) (n : Nat) (hn : n ≤ 8) (h_n : I 127 11 = nI n) : ∀ r a (t : Bool) x6 x7, a + r = n → ∃ (t' : Bool) (y4 y5 y6 y7 : Option Value), (∀ res, z_Ev E (d + 3) z_m232 48 [some (.ref 127), some (.int b), some (.int (if t' = true then s else f)), some (.int (s + 1)), y4, y5, y6, y7] [] 161 (I, J, RF w) res → z_Ev E (d + 3) z_m232 84 [some (.ref 127), some (.int b), some (.int f), some (.int s), some (.int (if t = true then 1 else 0)), some (.int (nI a)), x6, x7] [] 161 (I, J, RF w) res) ∧ (t' = true ↔ t = true ∧ ∀ a' c', a ≤ a' → a' < n → c' < a' → s_ne b s (I 151) a' c')
  | 0, a, t, x6, x7, h => by
    have e : a = n := h
    cases t
    · exact ⟨false, _, _, _, _, fun res q => m_ch_e0 E d I J w a n b f s x6 x7 h_n hn e q, ⟨fun q => absurd q Bool.false_ne_true, fun q => q.1⟩⟩
    · exact ⟨true, _, _, _, _, fun res q => m_ch_e1 E d I J w a n b f s x6 x7 h_n hn e q, ⟨fun _ => ⟨rfl, fun a' c' h1 h2 => by omega⟩, fun _ => rfl⟩⟩
  | r + 1, a, t, x6, x7, h => by
    cases t
    · exact ⟨false, _, _, _, _, fun res q => m_ch_o0 E d I J w a n b f s x6 x7 h_n hn (by omega) q, ⟨fun q => absurd q Bool.false_ne_true, fun q => q.1⟩⟩
    · obtain ⟨t1, y7, e1, e2⟩ := m_chI E d I J w b f s a (by omega) a 0 true x7 (by omega)
      obtain ⟨t', z4, z5, z6, z7, f1, f2⟩ := m_chO E d I J w b f s n hn h_n r (a + 1) t1 (some (.int (nI a))) y7 (by omega)
      refine ⟨t', z4, z5, z6, z7, fun res q => m_ch_oi E d I J w a n b f s x6 x7 h_n hn (by omega) (e1 res (f1 res q)), f2.trans ?_⟩
      constructor
      · rintro ⟨g1, g2⟩
        refine ⟨rfl, fun a' c' k1 k2 k3 => ?_⟩
        by_cases e : a' = a
        · subst e; exact (e2.mp g1).2 c' (Nat.zero_le _) k3
        · exact g2 a' c' (by omega) k2 k3
      · rintro ⟨_, g2⟩
        exact ⟨e2.mpr ⟨rfl, fun c' _ k => g2 a c' (Nat.le_refl _) (by omega) k⟩, fun a' c' k1 k2 k3 => g2 a' c' (by omega) k2 k3⟩
