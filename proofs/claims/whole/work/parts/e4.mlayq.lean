-- LAYERS by the reference: its loops
theorem z_or {a b : Nat} (ha : a < 2 ^ 31) (hb : b < 2 ^ 31) : nI a ||| nI b = nI (a ||| b) := by
  apply Int32.toBitVec_inj.1
  apply BitVec.eq_of_toNat_eq
  show (BitVec.ofNat 32 a ||| BitVec.ofNat 32 b).toNat = (BitVec.ofNat 32 (a ||| b)).toNat
  have h : a ||| b < 2 ^ 31 := Nat.or_lt_two_pow ha hb
  rw [BitVec.toNat_or, BitVec.toNat_ofNat, BitVec.toNat_ofNat, BitVec.toNat_ofNat, Nat.mod_eq_of_lt (by omega), Nat.mod_eq_of_lt (by omega), Nat.mod_eq_of_lt (by omega)]
def s_way (m : Nat) : Nat → Nat → List Nat
  | 0, _ => []
  | j + 1, u => (u / m ^ j % m) :: s_way m j u
theorem s_way_len (m u : Nat) : ∀ j, (s_way m j u).length = j
  | 0 => rfl
  | j + 1 => congrArg (· + 1) (s_way_len m u j)
theorem s_way_lt {m u : Nat} (h : 0 < m) : ∀ j t, t ∈ s_way m j u → t < m
  | 0, t, q => by cases q
  | j + 1, t, q => by
    rcases List.mem_cons.mp q with q | q
    · rw [q]; exact Nat.mod_lt _ h
    · exact s_way_lt h j t q
def s_um : List Nat → Nat
  | [] => 0
  | t :: D => s_um D ||| 2 ^ t
def s_nd : List Nat → Bool
  | [] => true
  | t :: D => s_nd D && !(D.contains t)
theorem s_um_lt {m : Nat} : ∀ D : List Nat, (∀ t, t ∈ D → t < m) → s_um D < 2 ^ m
  | [], _ => Nat.two_pow_pos m
  | t :: D, h => Nat.or_lt_two_pow (s_um_lt D (fun t q => h t (List.mem_cons_of_mem _ q))) (Nat.pow_lt_pow_right (by decide) (h t List.mem_cons_self))
theorem s_um_bit {k : Nat} : ∀ D : List Nat, (s_um D / 2 ^ k % 2 = 1 ↔ k ∈ D)
  | [] => by
    show 0 / 2 ^ k % 2 = 1 ↔ _
    rw [Nat.zero_div]
    simp
  | t :: D => by
    rw [z_bitN]
    show (s_um D ||| 2 ^ t).testBit k = true ↔ _
    rw [Nat.testBit_or, Bool.or_eq_true, ← z_bitN, s_um_bit D, Nat.testBit_two_pow, decide_eq_true_iff, List.mem_cons]
    constructor
    · rintro (q | q)
      · exact .inr q
      · exact .inl q.symm
    · rintro (q | q)
      · exact .inr q.symm
      · exact .inl q
def s_kk (s j : Nat) : Int32 := if j < s then nI (s - 1 - j) else (-1)
theorem s_kk_s {s j : Nat} (h : j < s) : nI (s - 1 - j) + (-1) = s_kk s (j + 1) := by
  unfold s_kk
  by_cases q : j + 1 < s
  · rw [if_pos q, show s - 1 - j = (s - 1 - (j + 1)) + 1 by omega, ← Int32.sub_eq_add_neg, nI_pred]
  · rw [if_neg q, show s - 1 - j = 0 by omega]; rfl
def s_is (c : Bool) : Int32 := bif c then 1 else 0
theorem m_ly_dg (E : zE) (d : Nat) (J : Nat → Nat → Int64) (w : Nat) (e b l y i : Int32) (m s n : Nat) (q v : Int32) (u : Nat) (x16 : Option Value) (tl : Nat → Nat) (Q : zR → Prop) (I : Nat → Nat → Int32) (hm : m ≤ 5) (hm0 : 0 < m) (hs : s ≤ 5) (hu : u ≤ 3125) (few : ∀ k, k < m → I 144 k = nI (tl k)) (nx : ∀ (I' : Nat → Nat → Int32) (f us : Int32), (∀ k, k < s → I' 147 k = nI (tl ((s_way m s u).getD k 0))) → (∀ a c, a ≠ 147 → I' a c = I a c) → ∃ R, z_Ev E (d + 7) z_m227 123 [some (.ref 127), some (.int e), some (.int b), some (.int l), some (.int y), some (.int i), some (.int (nI m)), some (.int q), some (.int v), some (.int (nI s)), some (.int (nI n)), some (.int (nI u)), some (.int f), some (.int us), some (.int (s_is (s_nd (s_way m s u)))), some (.int (-1)), x16] [] 161 (I', J, RF w) R ∧ Q R) : ∀ k j I1, j + k = s → (∀ a c, a ≠ 147 → I1 a c = I a c) → (∀ k, k < j → I1 147 (s - j + k) = nI (tl ((s_way m j u).getD k 0))) → ∃ R, z_Ev E (d + 7) z_m227 123 [some (.ref 127), some (.int e), some (.int b), some (.int l), some (.int y), some (.int i), some (.int (nI m)), some (.int q), some (.int v), some (.int (nI s)), some (.int (nI n)), some (.int (nI u)), some (.int (nI (u / m ^ j))), some (.int (nI (s_um (s_way m j u)))), some (.int (s_is (s_nd (s_way m j u)))), some (.int (s_kk s j)), x16] [] 161 (I1, J, RF w) R ∧ Q R
  | 0, j, I1, hj, h1, h2 => by
    have e0 : j = s := hj
    subst e0
    obtain ⟨R, e1, q1⟩ := nx I1 (nI (u / m ^ j)) (nI (s_um (s_way m j u))) (fun k hk => by have := h2 k hk; rw [Nat.sub_self, Nat.zero_add] at this; exact this) h1
    rw [show s_kk j j = (-1) from if_neg (Nat.lt_irrefl j)]
    exact ⟨R, e1, q1⟩
  | k + 1, j, I1, hj, h1, h2 => by
    have hjs : j < s := by omega
    have bf : u / m ^ j ≤ u := Nat.div_le_self _ _
    have hmod : u / m ^ j % m < m := Nat.mod_lt _ hm0
    have ef : nI (u / m ^ j) / nI m = nI (u / m ^ (j + 1)) := by rw [z_divE rfl (by omega) hm0 (by omega), Nat.div_div_eq_div_mul, Nat.pow_succ]
    have er : nI (u / m ^ j) - nI (u / m ^ j) / nI m * nI m = nI (u / m ^ j % m) := z_remE rfl (by omega) hm0 (by omega)
    have dl := s_way_lt (u := u) hm0 j
    have um := Nat.lt_of_lt_of_le (s_um_lt (s_way m j u) dl) (Nat.pow_le_pow_right (show 0 < 2 by decide) hm)
    have t2 : 2 ^ (u / m ^ j % m) < 2 ^ 31 := z_pow31 (by omega)
    have eu : nI (s_um (s_way m j u)) ||| (1 <<< (nI (u / m ^ j % m) &&& 31)) = nI (s_um (s_way m (j + 1) u)) := by
      rw [z_one_shl _ (by omega), z_or (by omega) t2]; rfl
    have eb : ((nI (s_um (s_way m j u)) >>> (nI (u / m ^ j % m) &&& 31)) &&& 1) = 0 ↔ ¬ (u / m ^ j % m) ∈ s_way m j u := by
      rw [z_bit (by omega) (by omega), ← s_um_bit]
      refine (z_eqN (a := s_um (s_way m j u) / 2 ^ (u / m ^ j % m) % 2) (b := 0) rfl rfl (by omega) (by decide)).trans ?_
      omega
    have ew : I1 144 (u / m ^ j % m) = nI (tl (u / m ^ j % m)) := (h1 _ _ (by decide)).trans (few _ hmod)
    obtain ⟨R, e2, q2⟩ := m_ly_dg E d J w e b l y i m s n q v u x16 tl Q I hm hm0 hs hu few nx k (j + 1) (z_u2 I1 147 (s - 1 - j) (I1 144 (u / m ^ j % m))) (by omega) (fun a c ha => by rw [z_u2_n _ _ (by omega)]; exact h1 a c ha) (fun k hk => by
      cases k with
      | zero => rw [show s - (j + 1) + 0 = s - 1 - j by omega, z_u2_same, ew]; rfl
      | succ k => rw [z_u2_n _ _ (by omega), show s - (j + 1) + (k + 1) = s - j + k by omega]; exact h2 k (by omega))
    have ek : s_kk s j = nI (s - 1 - j) := if_pos hjs
    rw [ek]
    have st : ∀ z1 : Int32, z1 = s_is (s_nd (s_way m (j + 1) u)) → z_Ev E (d + 7) z_m227 189 [some (.ref 127), some (.int e), some (.int b), some (.int l), some (.int y), some (.int i), some (.int (nI m)), some (.int q), some (.int v), some (.int (nI s)), some (.int (nI n)), some (.int (nI u)), some (.int (nI (u / m ^ j) / nI m)), some (.int (nI (s_um (s_way m j u)) ||| (1 <<< ((nI (u / m ^ j) - nI (u / m ^ j) / nI m * nI m) &&& 31)))), some (.int z1), some (.int (nI (s - 1 - j))), x16] [] 161 (z_u2 I1 147 (s - 1 - j) (I1 144 (u / m ^ j % m)), J, RF w) R := by
      intro z1 hz1
      rw [er, ef, eu, hz1]
      exact m_ly_dec E d _ J w e b l y i q v _ _ _ _ _ m s n u x16 (s_kk_s hjs) e2
    refine ⟨R, ?_, q2⟩
    cases hn : s_nd (s_way m j u) with
    | false => exact m_ly_dA E d I1 J w e b l y i q v _ _ m s n u (u / m ^ j) (s - 1 - j) x16 hm hm0 (by omega) (by omega) rfl (st 0 (by show _ = s_is (s_nd (s_way m j u) && _); rw [hn]; rfl))
    | true =>
      by_cases hc : (u / m ^ j % m) ∈ s_way m j u
      · exact m_ly_dC E d I1 J w e b l y i q v _ _ m s n u (u / m ^ j) (s - 1 - j) x16 hm hm0 (by omega) (by omega) (by decide) (by rw [er, eb]; exact fun r => r hc) (st 0 (by show _ = s_is (s_nd (s_way m j u) && !((s_way m j u).contains (u / m ^ j % m))); rw [hn, List.contains_iff_mem.mpr hc]; rfl))
      · exact m_ly_dB E d I1 J w e b l y i q v _ _ m s n u (u / m ^ j) (s - 1 - j) x16 hm hm0 (by omega) (by omega) (by decide) (by rw [er, eb]; exact hc) (st 1 (by show _ = s_is (s_nd (s_way m j u) && !((s_way m j u).contains (u / m ^ j % m))); rw [hn, Bool.eq_false_iff.mpr (mt List.contains_iff_mem.mp hc)]; rfl))
/-- outside what layers writes by the reference -/
def s_scR (a j : Nat) : Prop := a = 147 ∨ a = 148 ∨ a = 141 ∨ s_scT a j ∨ (a = 134 ∧ 160 ≤ j)
theorem m_ly_tr (E : zE) (d : Nat) (J : Nat → Nat → Int64) (w : Nat) (e b l y i : Int32) (m s n : Nat) (q v f us z : Int32) (u : Nat) (x16 : Option Value) (tn : Nat → (Nat → Nat) → Nat → Nat) (L0 : Nat → Nat) (nT : Nat) (o : List Nat) (Q : zR → Prop) (I0 : Nat → Nat → Int32) (hs : s ≤ 5) (ho : o.length = s) (hot : ∀ t, t ∈ o → t < nT) (hl : ∀ o c, c < 8 → s_lt tn L0 o c ≤ 1000000000)
    (htn : ∀ (I : Nat → Nat → Int32) (t : Nat) (L : Nat → Nat), (∀ a j, ¬ s_scR a j → I a j = I0 a j) → t < nT → (∀ c, c < 8 → I 134 (160 + c) = nI (L c) ∧ L c ≤ 1000000000) → ∃ I', z_cl E (d + 7) 189 [.ref 127, .int 20, .int (nI t), .int 21] (161, I, J, RF w) = some (none, 161, I', J, RF w) ∧ (∀ c, c < 8 → I' 134 (168 + c) = nI (tn t L c)) ∧ ∀ x k, ¬ (x = 134 ∧ 168 ≤ k ∧ k < 176) → I' x k = I x k)
    (B : Nat → Int32) (nx : ∀ I', (∀ c, c < 8 → I' 134 (160 + c) = nI (s_lt tn L0 o c)) → (∀ k, k < s → I' 147 k = nI (o.getD k 0)) → (∀ k, I' 148 k = B k) → (∀ a j, ¬ s_scR a j → I' a j = I0 a j) → ∃ R, z_Ev E (d + 7) z_m227 210 [some (.ref 127), some (.int e), some (.int b), some (.int l), some (.int y), some (.int i), some (.int (nI m)), some (.int q), some (.int v), some (.int (nI s)), some (.int (nI n)), some (.int (nI u)), some (.int f), some (.int us), some (.int z), some (.int (nI s)), x16] [] 161 (I', J, RF w) R ∧ Q R) : ∀ k j I, j + k = s → (∀ c, c < 8 → I 134 (160 + c) = nI (s_lt tn L0 (o.take j) c)) → (∀ k, k < s → I 147 k = nI (o.getD k 0)) → (∀ k, I 148 k = B k) → (∀ a j, ¬ s_scR a j → I a j = I0 a j) → ∃ R, z_Ev E (d + 7) z_m227 210 [some (.ref 127), some (.int e), some (.int b), some (.int l), some (.int y), some (.int i), some (.int (nI m)), some (.int q), some (.int v), some (.int (nI s)), some (.int (nI n)), some (.int (nI u)), some (.int f), some (.int us), some (.int z), some (.int (nI j)), x16] [] 161 (I, J, RF w) R ∧ Q R
  | 0, j, I, hj, h1, h2, h3, h4 => by
    have e0 : j = s := hj
    subst e0
    rw [List.take_of_length_le (by omega)] at h1
    exact nx I h1 h2 h3 h4
  | k + 1, j, I, hj, h1, h2, h3, h4 => by
    have hjo : j < o.length := by omega
    have em : o.getD j 0 ∈ o := by rw [List.getD_eq_getElem?_getD, List.getElem?_eq_getElem hjo]; exact List.getElem_mem hjo
    obtain ⟨I1, e1, t1, s1⟩ := htn I (o.getD j 0) (s_lt tn L0 (o.take j)) h4 (hot _ em) (fun c hc => ⟨h1 c hc, hl _ c hc⟩)
    have e2 := m_lay E (d + 6) I1 J w 21 20 (by decide) (by decide) (by decide)
    obtain ⟨I2, eI2⟩ : ∃ I2, I2 = z_ur I1 134 (z_fil (I1 134) (8 * 20) 8 (fun c => I1 134 (8 * 21 + c))) := ⟨_, rfl⟩
    rw [← eI2] at e2
    have g1 : ∀ c, c < 8 → I2 134 (160 + c) = I1 134 (168 + c) := fun c hc => by
      rw [eI2, z_ur_same, z_fil_in (by omega), show 160 + c - 8 * 20 = c by omega]
    have g2 : ∀ x k, ¬ (x = 134 ∧ 160 ≤ k) → I2 x k = I x k := fun x k q => by
      rw [eI2]
      by_cases hx : x = 134
      · subst hx
        rw [z_ur_same, z_fil_ge (by omega)]; exact s1 _ _ (by omega)
      · rw [z_ur_n _ _ hx]; exact s1 _ _ (by omega)
    obtain ⟨R, e3, q3⟩ := m_ly_tr E d J w e b l y i m s n q v f us z u x16 tn L0 nT o Q I0 hs ho hot hl htn B nx k (j + 1) I2 (by omega) (fun c hc => by
      rw [g1 c hc, t1 c hc, List.take_succ, List.getElem?_eq_getElem hjo, show (some o[j]).toList = [o[j]] from rfl, s_lt_s, List.getD_eq_getElem?_getD, List.getElem?_eq_getElem hjo]; rfl) (fun k hk => (g2 _ _ (by omega)).trans (h2 k hk)) (fun k => (g2 _ _ (by omega)).trans (h3 k)) (fun a c r => by
        have r' := r
        unfold s_scR at r
        exact (g2 _ _ (fun r2 => r (.inr (.inr (.inr (.inr r2)))))).trans (h4 a c r'))
    rw [← h2 j (by omega)] at e1
    exact ⟨R, m_ly_t E d I J w e b l y i q v f us z m s n u j x16 I1 I2 hs (by omega) e1 e2 e3, q3⟩
