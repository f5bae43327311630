-- LAYERS by the reference: ways and sizes
def s_lyM (I : Nat → Nat → Int32) (b : Option (Int32 × List Nat)) (q v : Int32) (s : Nat) : Prop := match b with
  | none => False
  | some (x, p) => v = x ∧ q = nI p.length ∧ p.length ≤ s ∧ ∀ j, j < p.length → I 148 j = nI (p.getD j 0)
theorem s_lyM_eq {I I' : Nat → Nat → Int32} {b : Option (Int32 × List Nat)} {q v : Int32} {s s' : Nat} (h : s_lyM I b q v s) (hs : s ≤ s') (h2 : ∀ k, I' 148 k = I 148 k) : s_lyM I' b q v s' := by
  revert h
  cases b with
  | none => exact fun h => h
  | some x => exact fun h => ⟨h.1, h.2.1, Nat.le_trans h.2.2.1 hs, fun j hj => (h2 j).trans (h.2.2.2 j hj)⟩
def s_mw (tl : Nat → Nat) (m s u : Nat) : List (List Nat) := z_fo (fun k r => bif s_nd (s_way m s k) then r ++ [(s_way m s k).map tl] else r) [] u
def s_ms (tl : Nat → Nat) (m k : Nat) : List (List Nat) := z_fo (fun j r => r ++ s_mw tl m (j + 1) (m ^ (j + 1))) [[]] k
theorem s_mw_t {tl : Nat → Nat} {m s u : Nat} (h : s_nd (s_way m s u) = true) : s_mw tl m s (u + 1) = s_mw tl m s u ++ [(s_way m s u).map tl] := by
  show (bif s_nd (s_way m s u) then _ else _) = _
  rw [h]; rfl
theorem s_mw_f {tl : Nat → Nat} {m s u : Nat} (h : s_nd (s_way m s u) = false) : s_mw tl m s (u + 1) = s_mw tl m s u := by
  show (bif s_nd (s_way m s u) then _ else _) = _
  rw [h]; rfl
theorem s_pow5 {m s : Nat} (hm : m ≤ 5) (hs : s ≤ 5) : m ^ s ≤ 3125 := Nat.le_trans (Nat.pow_le_pow_left hm s) (Nat.le_trans (Nat.pow_le_pow_right (show 0 < 5 by decide) hs) (by decide))
theorem m_ly_1 (E : zE) (d : Nat) (J : Nat → Nat → Int64) (w : Nat) (e b y i : Int32) (ll m : Nat) (tl : Nat → Nat) (tn : Nat → (Nat → Nat) → Nat → Nat) (L0 : Nat → Nat) (nT : Nat) (U : List Nat → Int32) (Q : zR → Prop) (I0 : Nat → Nat → Int32) (hm : m ≤ 5) (few : ∀ k, k < m → I0 144 k = nI (tl k)) (tlT : ∀ k, k < m → tl k < nT) (hll : ll < 20) (hL0 : ∀ c, c < 8 → I0 134 (8 * ll + c) = nI (L0 c)) (hl : ∀ o c, c < 8 → s_lt tn L0 o c ≤ 1000000000)
    (htn : ∀ (I : Nat → Nat → Int32) (t : Nat) (L : Nat → Nat), (∀ a j, ¬ s_scR a j → I a j = I0 a j) → t < nT → (∀ c, c < 8 → I 134 (160 + c) = nI (L c) ∧ L c ≤ 1000000000) → ∃ I', z_cl E (d + 7) 189 [.ref 127, .int 20, .int (nI t), .int 21] (161, I, J, RF w) = some (none, 161, I', J, RF w) ∧ (∀ c, c < 8 → I' 134 (168 + c) = nI (tn t L c)) ∧ ∀ x k, ¬ (x = 134 ∧ 168 ≤ k ∧ k < 176) → I' x k = I x k)
    (hv : ∀ (I : Nat → Nat → Int32) (o : List Nat), (∀ a j, ¬ s_scR a j → I a j = I0 a j) → (∀ c, c < 8 → I 134 (160 + c) = nI (s_lt tn L0 o c)) → ∃ I', z_cl E (d + 7) 219 [.ref 127, .int e, .int 20, .int y] (161, I, J, RF w) = some (some (.int (U o)), 161, I', J, RF w) ∧ ∀ x k, ¬ s_scT x k → x ≠ 141 → I' x k = I x k) (s u : Nat) (hs1 : 1 ≤ s) (hsm : s ≤ m) (hu : u < m ^ s) (I : Nat → Nat → Int32) (q v : Int32) (x12 x13 x14 x15 x16 : Option Value) (bst : Option (Int32 × List Nat)) (hI : ∀ a j, ¬ s_scR a j → I a j = I0 a j) (hS : s_lyM I bst q v s) (nx : ∀ (I' : Nat → Nat → Int32) (q' v' : Int32) (x12 x13 x14 x15 x16 : Option Value), s_lyM I' (bif s_nd (s_way m s u) then s_lst U bst ((s_way m s u).map tl) else bst) q' v' s → (∀ a j, ¬ s_scR a j → I' a j = I0 a j) → ∃ R, z_Ev E (d + 7) z_m227 100 [some (.ref 127), some (.int e), some (.int b), some (.int (nI ll)), some (.int y), some (.int i), some (.int (nI m)), some (.int q'), some (.int v'), some (.int (nI s)), some (.int (nI (m ^ s))), some (.int (nI (u + 1))), x12, x13, x14, x15, x16] [] 161 (I', J, RF w) R ∧ Q R) : ∃ R, z_Ev E (d + 7) z_m227 100 [some (.ref 127), some (.int e), some (.int b), some (.int (nI ll)), some (.int y), some (.int i), some (.int (nI m)), some (.int q), some (.int v), some (.int (nI s)), some (.int (nI (m ^ s))), some (.int (nI u)), x12, x13, x14, x15, x16] [] 161 (I, J, RF w) R ∧ Q R := by
  have hm0 : 0 < m := by omega
  have hn := s_pow5 hm (show s ≤ 5 by omega)
  have n7 : ∀ k, ¬ s_scR 144 k := fun k => by unfold s_scR s_scT; omega
  obtain ⟨R, e1, q1⟩ := m_ly_dg E d J w e b (nI ll) y i m s (m ^ s) q v u x16 tl Q I hm hm0 (by omega) (by omega) (fun k hk => (hI _ _ (n7 k)).trans (few k hk)) (fun I' f us h1 h2 => by
    have sm : ∀ a j, ¬ s_scR a j → I' a j = I0 a j := fun a j r => by
      have r' := r
      unfold s_scR at r
      exact (h2 a j (by omega)).trans (hI a j r')
    cases hn2 : s_nd (s_way m s u) with
    | false =>
      rw [hn2] at nx
      obtain ⟨R, e2, q2⟩ := nx I' q v (some (.int f)) (some (.int us)) (some (.int (s_is false))) (some (.int (-1))) x16 (s_lyM_eq hS (Nat.le_refl s) (fun k => h2 148 k (by decide))) sm
      exact ⟨R, m_ly_bad0 E d I' J w e b (nI ll) y i q v f us _ _ m s (m ^ s) u x16 (by decide) rfl e2, q2⟩
    | true =>
      rw [hn2] at nx
      obtain ⟨A, eA⟩ : ∃ A, A = z_ur I' 134 (z_fil (I' 134) (8 * 20) 8 (fun c => I' 134 (8 * ll + c))) := ⟨_, rfl⟩
      have t1 := m_lay E (d + 6) I' J w ll 20 (by omega) (by decide) (by omega)
      rw [← eA] at t1
      have a1 : ∀ x k, ¬ (x = 134 ∧ 160 ≤ k) → A x k = I' x k := fun x k r => by
        rw [eA]
        by_cases hx : x = 134
        · subst hx; rw [z_ur_same, z_fil_ge (by omega)]
        · rw [z_ur_n _ _ hx]
      have a2 : ∀ c, c < 8 → A 134 (160 + c) = nI (L0 c) := fun c hc => by
        rw [eA, z_ur_same, z_fil_in (by omega), show 160 + c - 8 * 20 = c by omega, sm _ _ (by unfold s_scR s_scT; omega)]
        exact hL0 c hc
      obtain ⟨o, eo⟩ : ∃ o, o = (s_way m s u).map tl := ⟨_, rfl⟩
      have olen : o.length = s := by rw [eo, List.length_map, s_way_len]
      have od : ∀ k, k < s → o.getD k 0 = tl ((s_way m s u).getD k 0) := fun k hk => by
        rw [eo, List.getD_eq_getElem?_getD, List.getD_eq_getElem?_getD, List.getElem?_map, List.getElem?_eq_getElem (by rw [s_way_len]; exact hk)]; rfl
      obtain ⟨R, e3, q3⟩ := m_ly_tr E d J w e b (nI ll) y i m s (m ^ s) q v f us (s_is true) u x16 tn L0 nT o Q I0 (by omega) olen (fun t ht => by
        rw [eo] at ht
        obtain ⟨k, k1, k2⟩ := List.mem_map.mp ht
        rw [← k2]; exact tlT k (s_way_lt hm0 s k k1)) hl htn (A 148) (fun C c1 c2 c3 c4 => by
          obtain ⟨D, e4, d4⟩ := hv C o c4 c1
          have D4 : ∀ a j, ¬ s_scR a j → D a j = I0 a j := fun a j r => by
            have r' := r
            unfold s_scR at r
            exact (d4 a j (fun x => r (.inr (.inr (.inr (.inl x))))) (by omega)).trans (c4 a j r')
          have t48 : ∀ k, D 148 k = I' 148 k := fun k => (d4 148 k (by unfold s_scT; omega) (by decide)).trans ((c3 k).trans (a1 148 k (by omega)))
          have t47 : ∀ k, k < s → D 147 k = nI (o.getD k 0) := fun k hk => (d4 147 k (by unfold s_scT; omega) (by decide)).trans (c2 k hk)
          cases bst with
          | none => exact absurd hS (fun r => r)
          | some xp =>
            obtain ⟨x, p⟩ := xp
            obtain ⟨s1, s2, s3, s4⟩ := hS
            by_cases hg : U o < x
            · have hb : s_lst U (some (x, p)) o = some (U o, o) := if_pos (.inl hg)
              rw [← eo, cond_true, hb] at nx
              obtain ⟨R, e5, q5⟩ := nx (z_ur D 148 (z_fil (D 148) 0 s (fun k => D 147 k))) (nI s) (U o) (some (.int f)) (some (.int us)) (some (.int (s_is true))) (some (.int (U o))) (some (.int (nI s))) ⟨rfl, by rw [olen], by omega, fun j hj => by rw [z_ur_same, z_fil_in0 (by omega)]; exact t47 j (by omega)⟩ (fun a j r => by
                have r' := r
                unfold s_scR at r
                rw [z_ur_n _ _ (by omega)]; exact D4 a j r')
              exact ⟨R, m_ly_new E d C J w e b (nI ll) y i q v f us _ (U o) m s (m ^ s) u s x16 D (by omega) rfl e4 (by rw [s1]; exact hg) e5, q5⟩
            · have hb : s_lst U (some (x, p)) o = some (x, p) := if_neg (fun r => by rcases r with r | r; exact hg r; omega)
              rw [← eo, cond_true, hb] at nx
              obtain ⟨R, e5, q5⟩ := nx D q v (some (.int f)) (some (.int us)) (some (.int (s_is true))) (some (.int (U o))) x16 ⟨s1, s2, s3, fun j hj => (t48 j).trans ((h2 148 j (by decide)).trans (s4 j hj))⟩ D4
              exact ⟨R, m_ly_old E d C J w e b (nI ll) y i q v f us _ (U o) m s (m ^ s) u s x16 D (by omega) rfl e4 (by rw [s1]; exact hg) e5, q5⟩) s 0 A (by omega) (fun c hc => a2 c hc) (fun k hk => by rw [a1 _ _ (by omega), h1 k hk, od k hk]) (fun k => rfl) (fun a j r => by
            have r' := r
            unfold s_scR at r
            exact (a1 a j (fun x => r (.inr (.inr (.inr (.inr x)))))).trans (sm a j r'))
      exact ⟨R, m_ly_good E d I' J w e b (nI ll) y i q v f us _ _ m s (m ^ s) u x16 A (by decide) (by decide) t1 e3, q3⟩) s 0 I (by omega) (fun _ _ _ => rfl) (fun k hk => absurd hk (Nat.not_lt_zero k))
  refine ⟨R, m_ly_w E d I J w e b (nI ll) y i q v m s (m ^ s) u x12 x13 x14 x15 x16 (by omega) hn hu ?_, q1⟩
  rw [show u / m ^ 0 = u by rw [Nat.pow_zero, Nat.div_one], show s_kk s 0 = nI s - 1 by
    unfold s_kk
    rw [if_pos (by omega), show s - 1 - 0 = s - 1 by omega]
    exact (z_predE (n := s - 1) (by rw [show s - 1 + 1 = s by omega])).symm] at e1
  exact e1
theorem m_ly_ws (E : zE) (d : Nat) (J : Nat → Nat → Int64) (w : Nat) (e b y i : Int32) (ll m : Nat) (tl : Nat → Nat) (tn : Nat → (Nat → Nat) → Nat → Nat) (L0 : Nat → Nat) (nT : Nat) (U : List Nat → Int32) (Q : zR → Prop) (I0 : Nat → Nat → Int32) (hm : m ≤ 5) (few : ∀ k, k < m → I0 144 k = nI (tl k)) (tlT : ∀ k, k < m → tl k < nT) (hll : ll < 20) (hL0 : ∀ c, c < 8 → I0 134 (8 * ll + c) = nI (L0 c)) (hl : ∀ o c, c < 8 → s_lt tn L0 o c ≤ 1000000000)
    (htn : ∀ (I : Nat → Nat → Int32) (t : Nat) (L : Nat → Nat), (∀ a j, ¬ s_scR a j → I a j = I0 a j) → t < nT → (∀ c, c < 8 → I 134 (160 + c) = nI (L c) ∧ L c ≤ 1000000000) → ∃ I', z_cl E (d + 7) 189 [.ref 127, .int 20, .int (nI t), .int 21] (161, I, J, RF w) = some (none, 161, I', J, RF w) ∧ (∀ c, c < 8 → I' 134 (168 + c) = nI (tn t L c)) ∧ ∀ x k, ¬ (x = 134 ∧ 168 ≤ k ∧ k < 176) → I' x k = I x k)
    (hv : ∀ (I : Nat → Nat → Int32) (o : List Nat), (∀ a j, ¬ s_scR a j → I a j = I0 a j) → (∀ c, c < 8 → I 134 (160 + c) = nI (s_lt tn L0 o c)) → ∃ I', z_cl E (d + 7) 219 [.ref 127, .int e, .int 20, .int y] (161, I, J, RF w) = some (some (.int (U o)), 161, I', J, RF w) ∧ ∀ x k, ¬ s_scT x k → x ≠ 141 → I' x k = I x k) (s : Nat) (hs1 : 1 ≤ s) (hsm : s ≤ m) (b0 : Option (Int32 × List Nat)) (nx : ∀ (I' : Nat → Nat → Int32) (q' v' : Int32) (x10 x11 x12 x13 x14 x15 x16 : Option Value), s_lyM I' ((s_mw tl m s (m ^ s)).foldl (s_lst U) b0) q' v' s → (∀ a j, ¬ s_scR a j → I' a j = I0 a j) → ∃ R, z_Ev E (d + 7) z_m227 64 [some (.ref 127), some (.int e), some (.int b), some (.int (nI ll)), some (.int y), some (.int i), some (.int (nI m)), some (.int q'), some (.int v'), some (.int (nI (s + 1))), x10, x11, x12, x13, x14, x15, x16] [] 161 (I', J, RF w) R ∧ Q R) : ∀ (k u : Nat) (I : Nat → Nat → Int32) (q v : Int32) (x12 x13 x14 x15 x16 : Option Value), u + k = m ^ s → s_lyM I ((s_mw tl m s u).foldl (s_lst U) b0) q v s → (∀ a j, ¬ s_scR a j → I a j = I0 a j) → ∃ R, z_Ev E (d + 7) z_m227 100 [some (.ref 127), some (.int e), some (.int b), some (.int (nI ll)), some (.int y), some (.int i), some (.int (nI m)), some (.int q), some (.int v), some (.int (nI s)), some (.int (nI (m ^ s))), some (.int (nI u)), x12, x13, x14, x15, x16] [] 161 (I, J, RF w) R ∧ Q R
  | 0, u, I, q, v, x12, x13, x14, x15, x16, hk, hS, hI => by
    have eu : u = m ^ s := hk
    rw [eu] at hS
    obtain ⟨R, e2, q2⟩ := nx I q v (some (.int (nI (m ^ s)))) (some (.int (nI u))) x12 x13 x14 x15 x16 hS hI
    exact ⟨R, m_ly_we E d I J w e b (nI ll) y i q v m s (m ^ s) u x12 x13 x14 x15 x16 (s_pow5 hm (by omega)) eu e2, q2⟩
  | k + 1, u, I, q, v, x12, x13, x14, x15, x16, hk, hS, hI => by
    refine m_ly_1 E d J w e b y i ll m tl tn L0 nT U Q I0 hm few tlT hll hL0 hl htn hv s u hs1 hsm (by omega) I q v x12 x13 x14 x15 x16 _ hI hS (fun I' q' v' x12 x13 x14 x15 x16 h1 h2 => m_ly_ws E d J w e b y i ll m tl tn L0 nT U Q I0 hm few tlT hll hL0 hl htn hv s hs1 hsm b0 nx k (u + 1) I' q' v' x12 x13 x14 x15 x16 (by omega) ?_ h2)
    cases hn : s_nd (s_way m s u) with
    | true => rw [s_mw_t hn, List.foldl_append]; rw [hn] at h1; exact h1
    | false => rw [s_mw_f hn]; rw [hn] at h1; exact h1
theorem m_ly_ss (E : zE) (d : Nat) (J : Nat → Nat → Int64) (w : Nat) (e b y i : Int32) (ll m : Nat) (tl : Nat → Nat) (tn : Nat → (Nat → Nat) → Nat → Nat) (L0 : Nat → Nat) (nT : Nat) (U : List Nat → Int32) (Q : zR → Prop) (I0 : Nat → Nat → Int32) (hm : m ≤ 5) (few : ∀ k, k < m → I0 144 k = nI (tl k)) (tlT : ∀ k, k < m → tl k < nT) (hll : ll < 20) (hL0 : ∀ c, c < 8 → I0 134 (8 * ll + c) = nI (L0 c)) (hl : ∀ o c, c < 8 → s_lt tn L0 o c ≤ 1000000000)
    (htn : ∀ (I : Nat → Nat → Int32) (t : Nat) (L : Nat → Nat), (∀ a j, ¬ s_scR a j → I a j = I0 a j) → t < nT → (∀ c, c < 8 → I 134 (160 + c) = nI (L c) ∧ L c ≤ 1000000000) → ∃ I', z_cl E (d + 7) 189 [.ref 127, .int 20, .int (nI t), .int 21] (161, I, J, RF w) = some (none, 161, I', J, RF w) ∧ (∀ c, c < 8 → I' 134 (168 + c) = nI (tn t L c)) ∧ ∀ x k, ¬ (x = 134 ∧ 168 ≤ k ∧ k < 176) → I' x k = I x k)
    (hv : ∀ (I : Nat → Nat → Int32) (o : List Nat), (∀ a j, ¬ s_scR a j → I a j = I0 a j) → (∀ c, c < 8 → I 134 (160 + c) = nI (s_lt tn L0 o c)) → ∃ I', z_cl E (d + 7) 219 [.ref 127, .int e, .int 20, .int y] (161, I, J, RF w) = some (some (.int (U o)), 161, I', J, RF w) ∧ ∀ x k, ¬ s_scT x k → x ≠ 141 → I' x k = I x k) (nx : ∀ (I' : Nat → Nat → Int32) (q' v' : Int32) (x10 x11 x12 x13 x14 x15 x16 : Option Value), s_lyM I' ((s_ms tl m m).foldl (s_lst U) none) q' v' m → (∀ a j, ¬ s_scR a j → I' a j = I0 a j) → ∃ R, z_Ev E (d + 7) z_m227 64 [some (.ref 127), some (.int e), some (.int b), some (.int (nI ll)), some (.int y), some (.int i), some (.int (nI m)), some (.int q'), some (.int v'), some (.int (nI (m + 1))), x10, x11, x12, x13, x14, x15, x16] [] 161 (I', J, RF w) R ∧ Q R) : ∀ (k s : Nat) (I : Nat → Nat → Int32) (q v : Int32) (x10 x11 x12 x13 x14 x15 x16 : Option Value), s + k = m → s_lyM I ((s_ms tl m s).foldl (s_lst U) none) q v s → (∀ a j, ¬ s_scR a j → I a j = I0 a j) → ∃ R, z_Ev E (d + 7) z_m227 64 [some (.ref 127), some (.int e), some (.int b), some (.int (nI ll)), some (.int y), some (.int i), some (.int (nI m)), some (.int q), some (.int v), some (.int (nI (s + 1))), x10, x11, x12, x13, x14, x15, x16] [] 161 (I, J, RF w) R ∧ Q R
  | 0, s, I, q, v, x10, x11, x12, x13, x14, x15, x16, hk, hS, hI => by
    have es : s = m := hk
    subst es
    exact nx I q v x10 x11 x12 x13 x14 x15 x16 hS hI
  | k + 1, s, I, q, v, x10, x11, x12, x13, x14, x15, x16, hk, hS, hI => by
    obtain ⟨R, e2, q2⟩ := m_ly_ws E d J w e b y i ll m tl tn L0 nT U Q I0 hm few tlT hll hL0 hl htn hv (s + 1) (by omega) (by omega) ((s_ms tl m s).foldl (s_lst U) none) (fun I' q' v' x10 x11 x12 x13 x14 x15 x16 h1 h2 => m_ly_ss E d J w e b y i ll m tl tn L0 nT U Q I0 hm few tlT hll hL0 hl htn hv nx k (s + 1) I' q' v' x10 x11 x12 x13 x14 x15 x16 (by omega) (by
      show s_lyM I' ((s_ms tl m s ++ s_mw tl m (s + 1) (m ^ (s + 1))).foldl (s_lst U) none) q' v' (s + 1)
      rw [List.foldl_append]; exact h1) h2) (m ^ (s + 1)) 0 I q v x12 x13 x14 x15 x16 (by omega) (s_lyM_eq hS (by omega) (fun _ => rfl)) hI
    exact ⟨R, m_ly_sz E d I J w e b (nI ll) y i q v m (s + 1) x10 x11 x12 x13 x14 x15 x16 hm (by omega) e2, q2⟩
