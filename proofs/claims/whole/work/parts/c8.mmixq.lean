-- MIXED by the reference: its loop
def s_scN (a j : Nat) : Prop := a = 145 ∨ a = 146 ∨ a = 141 ∨ s_scT a j ∨ (a = 134 ∧ 160 ≤ j)
def s_mxM (I : Nat → Nat → Int32) (o : Option (Int32 × s_t3)) (h g : Int32) : Prop := match o with
  | none => h = 0 ∧ g = 0
  | some (v, u0, u1, u2) => h = 1 ∧ g = v ∧ I 146 0 = nI u0 ∧ I 146 1 = nI u1 ∧ I 146 2 = nI u2
def s_trM (n u : Nat) : s_t3 := bif Nat.beq n 1 then (10, 0, 0) else bif Nat.beq n 2 then (u / 11, 10 - u / 11, 0) else (u / 11, u % 11, 10 - u / 11 - u % 11)
def s_okW (n u : Nat) : Bool := bif Nat.beq n 1 then Nat.beq u 0 else bif Nat.beq n 2 then Nat.beq (u % 11) 0 else Nat.ble (u / 11 + u % 11) 10
def s_twy (n u : Nat) : List s_t3 := z_fo (fun j l => bif s_okW n j then l ++ [s_trM n j] else l) [] u
theorem s_twy_t {n u : Nat} (h : s_okW n u = true) : s_twy n (u + 1) = s_twy n u ++ [s_trM n u] := by
  show (bif s_okW n u then _ else _) = _
  rw [h]; rfl
theorem s_twy_f {n u : Nat} (h : ¬ s_okW n u = true) : s_twy n (u + 1) = s_twy n u := by
  show (bif s_okW n u then _ else _) = _
  rw [Bool.eq_false_iff.mpr h]; rfl
theorem s_twy_tp {n : Nat} (h : 1 ≤ n) (h3 : n ≤ 3) : s_twy n 121 = s_tp n 11 := by
  rcases (by omega : n = 1 ∨ n = 2 ∨ n = 3) with e | e | e <;> subst e <;> decide +kernel
theorem m_mx_c (E : zE) (d : Nat) (J : Nat → Nat → Int64) (w : Nat) (e b y i h g : Int32) (n u u0 u1 u2 : Nat) (V : s_t3 → Int32) (Q : zR → Prop) (I0 B I2 : Nat → Nat → Int32) (o : Option (Int32 × s_t3)) (x10 x11 x12 x13 : Option Value) (h0 : B 145 0 = nI u0) (h1 : B 145 1 = nI u1) (h2 : B 145 2 = nI u2) (hs : s_mxM B o h g) (hv : z_cl E (d + 7) 219 [.ref 127, .int e, .int 20, .int y] (161, B, J, RF w) = some (some (.int (V (u0, u1, u2))), 161, I2, J, RF w)) (s2 : ∀ x k, ¬ s_scT x k → x ≠ 141 → I2 x k = B x k) (sB : ∀ a j, ¬ s_scN a j → B a j = I0 a j) (nx : ∀ (I' : Nat → Nat → Int32) (h' g' : Int32) (x9 x10 x11 x12 x13 : Option Value), s_mxM I' (s_sto V o (u0, u1, u2)) h' g' → (∀ a j, ¬ s_scN a j → I' a j = I0 a j) → ∃ R, z_Ev E (d + 7) z_m226 48 [some (.ref 127), some (.int e), some (.int b), some (.int y), some (.int i), some (.int (nI n)), some (.int h'), some (.int g'), some (.int (nI (u + 1))), x9, x10, x11, x12, x13] [] 161 (I', J, RF w) R ∧ Q R) : ∃ R, z_Ev E (d + 7) z_m226 260 [some (.ref 127), some (.int e), some (.int b), some (.int y), some (.int i), some (.int (nI n)), some (.int h), some (.int g), some (.int (nI u)), some (.int 1), x10, x11, x12, x13] [] 161 (B, J, RF w) R ∧ Q R := by
  have t5 : ∀ k, ¬ s_scT 145 k := fun k => by unfold s_scT; omega
  have t6 : ∀ k, ¬ s_scT 146 k := fun k => by unfold s_scT; omega
  have sc2 : ∀ a j, ¬ s_scN a j → I2 a j = I0 a j := fun a j q => by
    unfold s_scN at q
    exact (s2 a j (fun r => q (.inr (.inr (.inr (.inl r))))) (by omega)).trans (sB a j q)
  have cp : s_mxM (z_u2 (z_u2 (z_u2 I2 146 0 (I2 145 0)) 146 1 (I2 145 1)) 146 2 (I2 145 2)) (some (V (u0, u1, u2), u0, u1, u2)) 1 (V (u0, u1, u2)) := ⟨rfl, rfl, (s2 145 0 (t5 0) (by decide)).trans h0, (s2 145 1 (t5 1) (by decide)).trans h1, (s2 145 2 (t5 2) (by decide)).trans h2⟩
  have sc : ∀ a j, ¬ s_scN a j → z_u2 (z_u2 (z_u2 I2 146 0 (I2 145 0)) 146 1 (I2 145 1)) 146 2 (I2 145 2) a j = I0 a j := fun a j q => by
    have q' := q
    unfold s_scN at q
    rw [z_u2_n _ _ (by omega), z_u2_n _ _ (by omega), z_u2_n _ _ (by omega)]
    exact sc2 a j q'
  cases o with
  | none =>
    obtain ⟨R, e3, q3⟩ := nx _ 1 (V (u0, u1, u2)) (some (.int 1)) (some (.int (V (u0, u1, u2)))) (some (.int 3)) x12 x13 cp sc
    exact ⟨R, m_mx_first E d B J w e b y i (nI n) h g (V (u0, u1, u2)) u x10 x11 x12 x13 I2 hv hs.1 e3, q3⟩
  | some vu =>
    obtain ⟨v, a0, a1, a2⟩ := vu
    obtain ⟨q1, q2, q3, q4, q5⟩ := hs
    have hf : ¬ h = 0 := by rw [q1]; decide
    by_cases hg : V (u0, u1, u2) < v
    · rw [show s_sto V (some (v, a0, a1, a2)) (u0, u1, u2) = some (V (u0, u1, u2), u0, u1, u2) from if_pos hg] at nx
      obtain ⟨R, e3, q3⟩ := nx _ 1 (V (u0, u1, u2)) (some (.int 1)) (some (.int (V (u0, u1, u2)))) (some (.int 3)) x12 x13 cp sc
      exact ⟨R, m_mx_new E d B J w e b y i (nI n) h g (V (u0, u1, u2)) u x10 x11 x12 x13 I2 hv hf (by rw [q2]; exact hg) e3, q3⟩
    · rw [show s_sto V (some (v, a0, a1, a2)) (u0, u1, u2) = some (v, a0, a1, a2) from if_neg hg] at nx
      obtain ⟨R, e3, q3⟩ := nx I2 h g (some (.int 1)) (some (.int (V (u0, u1, u2)))) x11 x12 x13 ⟨q1, q2, (s2 146 0 (t6 0) (by decide)).trans q3, (s2 146 1 (t6 1) (by decide)).trans q4, (s2 146 2 (t6 2) (by decide)).trans q5⟩ sc2
      exact ⟨R, m_mx_old E d B J w e b y i (nI n) h g (V (u0, u1, u2)) u x10 x11 x12 x13 I2 hv hf (by rw [q2]; exact hg) e3, q3⟩
theorem m_mx_s (E : zE) (d : Nat) (J : Nat → Nat → Int64) (w : Nat) (e b y i : Int32) (n : Nat) (T : Nat → Nat → Nat) (tl : Nat → Nat) (V : s_t3 → Int32) (I0 : Nat → Nat → Int32) (hn : 1 ≤ n) (hn3 : n ≤ 3) (ht : ∀ i, i < n → I0 144 i = nI (tl i) ∧ tl i < 20) (hT : ∀ i, i < n → ∀ c, c < 8 → I0 134 (8 * tl i + c) = nI (T i c) ∧ T i c ≤ 1000000000) (hv : ∀ I1 u0 u1 u2, u0 + u1 + u2 = 10 → (∀ a j, ¬ s_scN a j → I1 a j = I0 a j) → (∀ c, c < 8 → I1 134 (160 + c) = nI (s_mv n T u0 u1 u2 c)) → ∃ I2, z_cl E (d + 7) 219 [.ref 127, .int e, .int 20, .int y] (161, I1, J, RF w) = some (some (.int (V (u0, u1, u2))), 161, I2, J, RF w) ∧ ∀ x k, ¬ s_scT x k → x ≠ 141 → I2 x k = I1 x k) (Q : zR → Prop) (u u0 u1 u2 : Nat) (h g : Int32) (A : Nat → Nat → Int32) (o : Option (Int32 × s_t3)) (x10 x11 x12 x13 : Option Value) (hu : u0 + u1 + u2 = 10) (h0 : A 145 0 = nI u0) (h1 : A 145 1 = nI u1) (h2 : A 145 2 = nI u2) (hs : s_mxM A o h g) (hA : ∀ a j, ¬ s_scN a j → A a j = I0 a j) (nx : ∀ (I' : Nat → Nat → Int32) (h' g' : Int32) (x9 x10 x11 x12 x13 : Option Value), s_mxM I' (s_sto V o (u0, u1, u2)) h' g' → (∀ a j, ¬ s_scN a j → I' a j = I0 a j) → ∃ R, z_Ev E (d + 7) z_m226 48 [some (.ref 127), some (.int e), some (.int b), some (.int y), some (.int i), some (.int (nI n)), some (.int h'), some (.int g'), some (.int (nI (u + 1))), x9, x10, x11, x12, x13] [] 161 (I', J, RF w) R ∧ Q R) : ∃ R, z_Ev E (d + 7) z_m226 174 [some (.ref 127), some (.int e), some (.int b), some (.int y), some (.int i), some (.int (nI n)), some (.int h), some (.int g), some (.int (nI u)), some (.int 1), x10, x11, x12, x13] [] 161 (A, J, RF w) R ∧ Q R := by
  have main : ∀ (G : Nat → Int32) (x10 x11 x12 x13 : Option Value), (∀ c, c < 8 → G c = nI (s_mv n T u0 u1 u2 c)) → ∃ R, z_Ev E (d + 7) z_m226 260 [some (.ref 127), some (.int e), some (.int b), some (.int y), some (.int i), some (.int (nI n)), some (.int h), some (.int g), some (.int (nI u)), some (.int 1), x10, x11, x12, x13] [] 161 (z_ur A 134 (z_fil (A 134) 160 8 G), J, RF w) R ∧ Q R := by
    intro G x10 x11 x12 x13 hG
    have sc : ∀ a j, ¬ s_scN a j → z_ur A 134 (z_fil (A 134) 160 8 G) a j = I0 a j := by
      intro a j q
      by_cases ha : a = 134
      · subst ha
        rw [z_ur_same, z_fil_ge (fun r => q (.inr (.inr (.inr (.inr ⟨rfl, r.1⟩)))))]; exact hA 134 j q
      · rw [z_ur_n _ _ ha]; exact hA a j q
    obtain ⟨I2, e2, s2⟩ := hv _ u0 u1 u2 hu sc (fun c hc => by rw [z_ur_same, z_fil_in (by omega), show 160 + c - 160 = c by omega]; exact hG c hc)
    exact m_mx_c E d J w e b y i h g n u u0 u1 u2 V Q I0 _ I2 o x10 x11 x12 x13 h0 h1 h2 (by
      revert hs
      cases o with
      | none => exact fun q => q
      | some v => exact fun q => q) e2 s2 sc nx
  have hT' : ∀ k, k < n → ∀ c, c < 8 → A 134 (8 * tl k + c) = nI (T k c) ∧ T k c ≤ 1000000000 := fun k hk c hc => ⟨(hA _ _ (by have := (ht k hk).2; unfold s_scN s_scT; omega)).trans (hT k hk c hc).1, (hT k hk c hc).2⟩
  have ht' : ∀ k, k < n → A 144 k = nI (tl k) := fun k hk => (hA _ _ (by unfold s_scN s_scT; omega)).trans (ht k hk).1
  have u0l : u0 ≤ 10 := by omega
  rcases (by omega : n = 1 ∨ n = 2 ∨ n = 3) with q | q | q <;> subst q
  · obtain ⟨R, e3, q3⟩ := main (fun c => ((0 + (A 145 0).toInt64 * (A 134 (8 * tl 0 + c)).toInt64) / 10).toInt32) (some (.int (nI 8))) (z_djx x11 (fun c => 0 + (A 145 0).toInt64 * (A 134 (8 * tl 0 + c)).toInt64) 8) (z_dnx x12 8) (z_dix x13 (fun _ => 1) 8) (fun c hc => by
      have t := s_mv_1 (u := u0) (hT' 0 (by decide) c hc).1 (hT' 0 (by decide) c hc).2 u0l
      rw [h0]; exact t)
    exact ⟨R, m_mx_b1 E d A J w (tl 0) e b y i h g u x10 x11 x12 x13 (ht' 0 (by decide)) (ht 0 (by decide)).2 e3, q3⟩
  · obtain ⟨R, e3, q3⟩ := main (fun c => (((0 + (A 145 0).toInt64 * (A 134 (8 * tl 0 + c)).toInt64) + (A 145 1).toInt64 * (A 134 (8 * tl 1 + c)).toInt64) / 10).toInt32) (some (.int (nI 8))) (z_djx x11 (fun c => (0 + (A 145 0).toInt64 * (A 134 (8 * tl 0 + c)).toInt64) + (A 145 1).toInt64 * (A 134 (8 * tl 1 + c)).toInt64) 8) (z_dnx x12 8) (z_dix x13 (fun _ => 2) 8) (fun c hc => by
      have t := s_mv_2 (u := u0) (u1 := u1) (hT' 0 (by decide) c hc).1 (hT' 0 (by decide) c hc).2 u0l (hT' 1 (by decide) c hc).1 (hT' 1 (by decide) c hc).2 (by omega)
      rw [h0, h1]; exact t)
    exact ⟨R, m_mx_b2 E d A J w (tl 0) (tl 1) e b y i h g u x10 x11 x12 x13 (ht' 0 (by decide)) (ht 0 (by decide)).2 (ht' 1 (by decide)) (ht 1 (by decide)).2 e3, q3⟩
  · obtain ⟨R, e3, q3⟩ := main (fun c => ((((0 + (A 145 0).toInt64 * (A 134 (8 * tl 0 + c)).toInt64) + (A 145 1).toInt64 * (A 134 (8 * tl 1 + c)).toInt64) + (A 145 2).toInt64 * (A 134 (8 * tl 2 + c)).toInt64) / 10).toInt32) (some (.int (nI 8))) (z_djx x11 (fun c => ((0 + (A 145 0).toInt64 * (A 134 (8 * tl 0 + c)).toInt64) + (A 145 1).toInt64 * (A 134 (8 * tl 1 + c)).toInt64) + (A 145 2).toInt64 * (A 134 (8 * tl 2 + c)).toInt64) 8) (z_dnx x12 8) (z_dix x13 (fun _ => 3) 8) (fun c hc => by
      have t := s_mv_3 (u := u0) (u1 := u1) (u2 := u2) (hT' 0 (by decide) c hc).1 (hT' 0 (by decide) c hc).2 u0l (hT' 1 (by decide) c hc).1 (hT' 1 (by decide) c hc).2 (hT' 2 (by decide) c hc).1 (hT' 2 (by decide) c hc).2 (by omega)
      rw [h0, h1, h2]; exact t)
    exact ⟨R, m_mx_b3 E d A J w (tl 0) (tl 1) (tl 2) e b y i h g u x10 x11 x12 x13 (ht' 0 (by decide)) (ht 0 (by decide)).2 (ht' 1 (by decide)) (ht 1 (by decide)).2 (ht' 2 (by decide)) (ht 2 (by decide)).2 e3, q3⟩
theorem m_mx_l (E : zE) (d : Nat) (J : Nat → Nat → Int64) (w : Nat) (e b y i : Int32) (n : Nat) (T : Nat → Nat → Nat) (tl : Nat → Nat) (V : s_t3 → Int32) (I0 : Nat → Nat → Int32) (hn : 1 ≤ n) (hn3 : n ≤ 3) (ht : ∀ i, i < n → I0 144 i = nI (tl i) ∧ tl i < 20) (hT : ∀ i, i < n → ∀ c, c < 8 → I0 134 (8 * tl i + c) = nI (T i c) ∧ T i c ≤ 1000000000) (hv : ∀ I1 u0 u1 u2, u0 + u1 + u2 = 10 → (∀ a j, ¬ s_scN a j → I1 a j = I0 a j) → (∀ c, c < 8 → I1 134 (160 + c) = nI (s_mv n T u0 u1 u2 c)) → ∃ I2, z_cl E (d + 7) 219 [.ref 127, .int e, .int 20, .int y] (161, I1, J, RF w) = some (some (.int (V (u0, u1, u2))), 161, I2, J, RF w) ∧ ∀ x k, ¬ s_scT x k → x ≠ 141 → I2 x k = I1 x k) (Q : zR → Prop) (fin : ∀ (I' : Nat → Nat → Int32) (h' g' : Int32) (x9 x10 x11 x12 x13 : Option Value), s_mxM I' (s_best V (s_twy n 121)) h' g' → (∀ a j, ¬ s_scN a j → I' a j = I0 a j) → ∃ R, z_Ev E (d + 7) z_m226 48 [some (.ref 127), some (.int e), some (.int b), some (.int y), some (.int i), some (.int (nI n)), some (.int h'), some (.int g'), some (.int (nI 121)), x9, x10, x11, x12, x13] [] 161 (I', J, RF w) R ∧ Q R) : ∀ k u I h g x9 x10 x11 x12 x13, u + k = 121 → s_mxM I (s_best V (s_twy n u)) h g → (∀ a j, ¬ s_scN a j → I a j = I0 a j) → ∃ R, z_Ev E (d + 7) z_m226 48 [some (.ref 127), some (.int e), some (.int b), some (.int y), some (.int i), some (.int (nI n)), some (.int h), some (.int g), some (.int (nI u)), x9, x10, x11, x12, x13] [] 161 (I, J, RF w) R ∧ Q R
  | 0, u, I, h, g, x9, x10, x11, x12, x13, hk, hs, hI => by
    have eu : u = 121 := hk
    subst eu
    exact fin I h g x9 x10 x11 x12 x13 hs hI
  | k + 1, u, I, h, g, x9, x10, x11, x12, x13, hk, hs, hI => by
    have hu : u < 121 := by omega
    have dv : (nI u / 11 : Int32) = nI (u / 11) := z_divE (m := 11) rfl (by omega) (by decide) (by decide)
    have rm : (nI u - nI u / 11 * 11 : Int32) = nI (u % 11) := z_remE (m := 11) rfl (by omega) (by decide) (by decide)
    have ten : (10 : Int32) = nI 10 := rfl
    have sc : ∀ (a0 a1 a2 : Int32) a j, ¬ s_scN a j → z_u2 (z_u2 (z_u2 I 145 0 a0) 145 1 a1) 145 2 a2 a j = I0 a j := fun a0 a1 a2 a j q => by
      have q' := q
      unfold s_scN at q
      rw [z_u2_n _ _ (by omega), z_u2_n _ _ (by omega), z_u2_n _ _ (by omega)]
      exact hI a j q'
    have ms : ∀ (a0 a1 a2 : Int32), s_mxM (z_u2 (z_u2 (z_u2 I 145 0 a0) 145 1 a1) 145 2 a2) (s_best V (s_twy n u)) h g := fun a0 a1 a2 => by
      revert hs
      cases s_best V (s_twy n u) with
      | none => exact fun q => q
      | some v => exact fun q => q
    by_cases ok : s_okW n u = true
    · have nx : ∀ (I' : Nat → Nat → Int32) (h' g' : Int32) (x9 x10 x11 x12 x13 : Option Value), s_mxM I' (s_sto V (s_best V (s_twy n u)) (s_trM n u)) h' g' → (∀ a j, ¬ s_scN a j → I' a j = I0 a j) → ∃ R, z_Ev E (d + 7) z_m226 48 [some (.ref 127), some (.int e), some (.int b), some (.int y), some (.int i), some (.int (nI n)), some (.int h'), some (.int g'), some (.int (nI (u + 1))), x9, x10, x11, x12, x13] [] 161 (I', J, RF w) R ∧ Q R := fun I' h' g' x9 x10 x11 x12 x13 m1 m2 => m_mx_l E d J w e b y i n T tl V I0 hn hn3 ht hT hv Q fin k (u + 1) I' h' g' x9 x10 x11 x12 x13 (by omega) (by rw [s_twy_t ok, s_best_s]; exact m1) m2
      rcases (by omega : n = 1 ∨ n = 2 ∨ n = 3) with q | q | q <;> subst q
      · have eu : u = 0 := Nat.eq_of_beq_eq_true ok
        obtain ⟨R, e3, q3⟩ := m_mx_s E d J w e b y i 1 T tl V I0 hn hn3 ht hT hv Q u 10 0 0 h g (z_u2 (z_u2 (z_u2 I 145 0 10) 145 1 0) 145 2 0) _ x10 x11 x12 x13 rfl rfl rfl rfl (ms _ _ _) (sc _ _ _) nx
        exact ⟨R, m_mx_a1 E d I J w e b y i h g u x9 x10 x11 x12 x13 hu eu e3, q3⟩
      · have eu : u % 11 = 0 := Nat.eq_of_beq_eq_true ok
        obtain ⟨R, e3, q3⟩ := m_mx_s E d J w e b y i 2 T tl V I0 hn hn3 ht hT hv Q u (u / 11) (10 - u / 11) 0 h g (z_u2 (z_u2 (z_u2 I 145 0 (nI u / 11)) 145 1 (10 - nI u / 11)) 145 2 (10 - nI u / 11 - (10 - nI u / 11))) _ x10 x11 x12 x13 (by omega) dv (by show (10 : Int32) - nI u / 11 = _; rw [dv, ten, z_sub (by omega)]) (by show (10 : Int32) - nI u / 11 - (10 - nI u / 11) = _; rw [dv, ten, z_sub (by omega), z_sub (by omega), Nat.sub_self]) (ms _ _ _) (sc _ _ _) nx
        exact ⟨R, m_mx_a2 E d I J w e b y i h g u x9 x10 x11 x12 x13 hu eu e3, q3⟩
      · have eu : u / 11 + u % 11 ≤ 10 := Nat.le_of_ble_eq_true ok
        obtain ⟨R, e3, q3⟩ := m_mx_s E d J w e b y i 3 T tl V I0 hn hn3 ht hT hv Q u (u / 11) (u % 11) (10 - u / 11 - u % 11) h g (z_u2 (z_u2 (z_u2 I 145 0 (nI u / 11)) 145 1 (nI u - nI u / 11 * 11)) 145 2 (10 - nI u / 11 - (nI u - nI u / 11 * 11))) _ x10 x11 x12 x13 (by omega) dv rm (by show (10 : Int32) - nI u / 11 - (nI u - nI u / 11 * 11) = _; rw [rm, dv, ten, z_sub (by omega), z_sub (by omega)]) (ms _ _ _) (sc _ _ _) nx
        exact ⟨R, m_mx_a3 E d I J w e b y i h g u x9 x10 x11 x12 x13 hu eu e3, q3⟩
    · have nx : ∀ (I' : Nat → Nat → Int32) (x9 x10 x11 x12 x13 : Option Value), s_mxM I' (s_best V (s_twy n u)) h g → (∀ a j, ¬ s_scN a j → I' a j = I0 a j) → ∃ R, z_Ev E (d + 7) z_m226 48 [some (.ref 127), some (.int e), some (.int b), some (.int y), some (.int i), some (.int (nI n)), some (.int h), some (.int g), some (.int (nI (u + 1))), x9, x10, x11, x12, x13] [] 161 (I', J, RF w) R ∧ Q R := fun I' x9 x10 x11 x12 x13 m1 m2 => m_mx_l E d J w e b y i n T tl V I0 hn hn3 ht hT hv Q fin k (u + 1) I' h g x9 x10 x11 x12 x13 (by omega) (by rw [s_twy_f ok]; exact m1) m2
      rcases (by omega : n = 1 ∨ n = 2 ∨ n = 3) with q | q | q <;> subst q
      · obtain ⟨R, e3, q3⟩ := nx _ (some (.int 0)) x10 x11 x12 x13 (ms _ _ _) (sc _ _ _)
        exact ⟨R, m_mx_no1 E d I J w e b y i h g u x9 x10 x11 x12 x13 hu (fun q => ok (by rw [q]; rfl)) e3, q3⟩
      · obtain ⟨R, e3, q3⟩ := nx _ (some (.int 0)) x10 x11 x12 x13 (ms _ _ _) (sc _ _ _)
        exact ⟨R, m_mx_no2 E d I J w e b y i h g u x9 x10 x11 x12 x13 hu (fun q => ok (by show Nat.beq (u % 11) 0 = true; rw [q]; rfl)) e3, q3⟩
      · obtain ⟨R, e3, q3⟩ := nx _ (some (.int 0)) x10 x11 x12 x13 (ms _ _ _) (sc _ _ _)
        exact ⟨R, m_mx_no3 E d I J w e b y i h g u x9 x10 x11 x12 x13 hu (fun q => ok (Nat.ble_eq_true_of_le q)) e3, q3⟩
