-- LAYERS by the class: the search in its order
theorem z_bitN {x k : Nat} : x / 2 ^ k % 2 = 1 ↔ x.testBit k = true := by
  rw [Nat.testBit_eq_decide_div_mod_eq, decide_eq_true_iff]
def s_clr (y t : Nat) : Nat := y &&& (2 ^ t ^^^ 4294967295)
theorem s_clr_le (y t : Nat) : s_clr y t ≤ y := Nat.and_le_left
theorem s_clr_bit {y t k : Nat} (hk : k < 32) : s_clr y t / 2 ^ k % 2 = 1 ↔ y / 2 ^ k % 2 = 1 ∧ k ≠ t := by
  rw [z_bitN, z_bitN]
  unfold s_clr
  rw [Nat.testBit_and, Nat.testBit_xor, Nat.testBit_two_pow, show (4294967295 : Nat) = 2 ^ 32 - 1 from rfl, Nat.testBit_two_pow_sub_one, Bool.and_eq_true, decide_eq_true hk]
  by_cases h : t = k
  · rw [decide_eq_true h]
    constructor
    · intro q; cases q.2
    · intro q; exact absurd h.symm q.2
  · rw [decide_eq_false h]
    constructor
    · intro q; exact ⟨q.1, fun r => h r.symm⟩
    · intro q; exact ⟨q.1, rfl⟩
theorem z_clrB {y t : Nat} (hy : y < 2 ^ 31) (ht : t < 31) : (nI y &&& ((1 <<< (nI t &&& 31)) ^^^ (-1))) = nI (s_clr y t) := by
  have h1 : 2 ^ t < 2 ^ 31 := z_pow31 ht
  have h2 := s_clr_le y t
  rw [z_one_shl t ht]
  apply Int32.toBitVec_inj.1
  apply BitVec.eq_of_toNat_eq
  show (BitVec.ofNat 32 y &&& (BitVec.ofNat 32 (2 ^ t) ^^^ 4294967295#32)).toNat = (BitVec.ofNat 32 (s_clr y t)).toNat
  rw [BitVec.toNat_and, BitVec.toNat_xor, BitVec.toNat_ofNat, BitVec.toNat_ofNat, BitVec.toNat_ofNat, BitVec.toNat_ofNat, Nat.mod_eq_of_lt (show y < 2 ^ 32 by omega), Nat.mod_eq_of_lt (show 2 ^ t < 2 ^ 32 by omega), Nat.mod_eq_of_lt (show s_clr y t < 2 ^ 32 by omega)]
  rfl
theorem s_bs_clr {y t : Nat} : ∀ {n : Nat}, n ≤ 32 → s_bs (s_clr y t) n = (s_bs y n).filter (fun s => !(s == t))
  | 0, _ => rfl
  | n + 1, h => by
    have ih := s_bs_clr (y := y) (t := t) (n := n) (by omega)
    have b := s_clr_bit (y := y) (t := t) (k := n) (by omega)
    by_cases q : y / 2 ^ n % 2 = 1
    · rw [s_bs_t q, List.filter_append]
      by_cases e : n = t
      · rw [s_bs_f (fun r => (b.mp r).2 e), ih]
        subst e
        simp
      · rw [s_bs_t (b.mpr ⟨q, e⟩), ih]
        simp [e]
    · rw [s_bs_f q, s_bs_f (fun r => q (b.mp r).1), ih]
def s_lst (U : List Nat → Int32) (b : Option (Int32 × List Nat)) (o : List Nat) : Option (Int32 × List Nat) := match b with
  | none => some (U o, o)
  | some (v, q) => if U o < v ∨ (U o = v ∧ o.length < q.length) then some (U o, o) else some (v, q)
def s_pre : Nat → List Nat → List Nat → List (List Nat)
  | 0, _, o => [o]
  | n + 1, A, o => o :: A.flatMap (fun t => s_pre n (A.filter (fun s => !(s == t))) (o ++ [t]))
def s_lyX (I : Nat → Nat → Int32) (b : Option (Int32 × List Nat)) : Prop := match b with
  | none => I 91 6 = 0
  | some (v, q) => I 91 6 = 1 ∧ I 91 7 = v ∧ I 91 15 = nI q.length ∧ q.length ≤ 5 ∧ ∀ j, j < q.length → I 105 j = nI (q.getD j 0)
theorem s_lyX_eq {I I' : Nat → Nat → Int32} {b : Option (Int32 × List Nat)} (h : s_lyX I b) (h1 : ∀ k, I' 91 k = I 91 k) (h2 : ∀ k, I' 105 k = I 105 k) : s_lyX I' b := by
  revert h
  cases b with
  | none => exact fun h => (h1 6).trans h
  | some q => exact fun h => ⟨(h1 6).trans h.1, (h1 7).trans h.2.1, (h1 15).trans h.2.2.1, h.2.2.2.1, fun j hj => (h2 j).trans (h.2.2.2.2 j hj)⟩
def s_scL (a j : Nat) : Prop := a = 89 ∨ a = 90 ∨ a = 104 ∨ a = 105 ∨ (98 ≤ a ∧ a ≤ 103) ∨ (a = 91 ∧ (j = 6 ∨ j = 7 ∨ j = 15))
theorem x_tl_hd (E : zE) (d : Nat) (J : Nat → Nat → Int64) (w : Nat) (bb : Int32) (g : Nat) (o : List Nat) (U : List Nat → Int32) (I I1 : Nat → Nat → Int32) (b : Option (Int32 × List Nat)) (hg : g ≤ 5) (ho : o.length = g) (hO : ∀ j, j < g → I 104 j = nI (o.getD j 0)) (hs : s_lyX I b) (hv : z_cl E (d + 4) 87 [.ref 79, .int (I 91 3), .ref (98 + g), .ref w, .int (I 91 4)] (161, I, J, RF w) = some (some (.int (U o)), 161, I1, J, RF w)) (s1 : ∀ x k, x ≠ 89 → x ≠ 90 → I1 x k = I x k) : ∃ I2, (∀ r, z_Ev E (d + 4) z_m45 86 [some (.ref 91), some (.int bb), some (.int (nI g)), some (.int (U o)), none] [] 161 (I2, J, RF w) r → z_Ev E (d + 4) z_m45 0 [some (.ref 91), some (.int bb), some (.int (nI g)), none, none] [] 161 (I, J, RF w) r) ∧ s_lyX I2 (s_lst U b o) ∧ ∀ a j, a ≠ 89 → a ≠ 90 → a ≠ 105 → ¬ (a = 91 ∧ (j = 6 ∨ j = 7 ∨ j = 15)) → I2 a j = I a j := by
  obtain ⟨N, eN⟩ : ∃ N, N = z_ur (z_u2 (z_u2 (z_u2 I1 91 6 1) 91 7 (U o)) 91 15 (nI g)) 105 (va_cpy ((z_u2 (z_u2 (z_u2 I1 91 6 1) 91 7 (U o)) 91 15 (nI g)) 104) ((z_u2 (z_u2 (z_u2 I1 91 6 1) 91 7 (U o)) 91 15 (nI g)) 105) 0 0 g) := ⟨_, rfl⟩
  have cp : s_lyX N (some (U o, o)) := by
    subst eN
    refine ⟨rfl, rfl, by rw [ho]; rfl, by omega, fun j hj => ?_⟩
    rw [z_ur_same]
    unfold va_cpy
    rw [if_pos (by omega), z_u2_n _ _ (by omega), z_u2_n _ _ (by omega), z_u2_n _ _ (by omega), s1 _ _ (by decide) (by decide), show 0 + (j - 0) = j by omega]
    exact hO j (by omega)
  have sc : ∀ a j, a ≠ 89 → a ≠ 90 → a ≠ 105 → ¬ (a = 91 ∧ (j = 6 ∨ j = 7 ∨ j = 15)) → N a j = I a j := fun a j q1 q2 q3 q4 => by
    subst eN
    rw [z_ur_n _ _ q3, z_u2_n _ _ (by omega), z_u2_n _ _ (by omega), z_u2_n _ _ (by omega)]
    exact s1 a j q1 q2
  have e6 := s1 91 6 (by decide) (by decide)
  have e7 := s1 91 7 (by decide) (by decide)
  have e15 := s1 91 15 (by decide) (by decide)
  cases b with
  | none =>
    refine ⟨N, fun r h => ?_, cp, sc⟩
    subst eN
    exact x_tl_a E d I J w bb (U o) g I1 hg hv (e6.trans hs) h
  | some vq =>
    obtain ⟨v, q⟩ := vq
    obtain ⟨h1, h2, h3, h4, h5⟩ := hs
    have hf : ¬ I1 91 6 = 0 := by rw [e6, h1]; decide
    have i3 : nI g < I1 91 15 ↔ g < q.length := z_ltN rfl (e15.trans h3) (by omega) (by omega)
    have keep : s_lyX I1 (some (v, q)) := ⟨e6.trans h1, e7.trans h2, e15.trans h3, h4, fun j hj => (s1 105 j (by decide) (by decide)).trans (h5 j hj)⟩
    by_cases c1 : U o < v
    · refine ⟨N, fun r h => ?_, ?_, sc⟩
      · subst eN
        exact x_tl_b E d I J w bb (U o) g I1 hg hv hf (by rw [e7, h2]; exact c1) h
      · rw [show s_lst U (some (v, q)) o = some (U o, o) from if_pos (.inl c1)]; exact cp
    · by_cases c2 : U o = v
      · by_cases c3 : g < q.length
        · refine ⟨N, fun r h => ?_, ?_, sc⟩
          · subst eN
            exact x_tl_c E d I J w bb (U o) g I1 hg hv hf (by rw [e7, h2]; exact c1) (by rw [e7, h2]; exact c2) (i3.mpr c3) h
          · rw [show s_lst U (some (v, q)) o = some (U o, o) from if_pos (.inr ⟨c2, by omega⟩)]; exact cp
        · refine ⟨I1, fun r h => x_tl_e E d I J w bb (U o) g I1 hg hv hf (by rw [e7, h2]; exact c1) (by rw [e7, h2]; exact c2) (mt i3.mp c3) h, ?_, fun a j q1 q2 _ _ => s1 a j q1 q2⟩
          rw [show s_lst U (some (v, q)) o = some (v, q) from if_neg (fun r => by rcases r with r | r; exact c1 r; exact c3 (by omega))]; exact keep
      · refine ⟨I1, fun r h => x_tl_d E d I J w bb (U o) g I1 hg hv hf (by rw [e7, h2]; exact c1) (by rw [e7, h2]; exact c2) h, ?_, fun a j q1 q2 _ _ => s1 a j q1 q2⟩
        rw [show s_lst U (some (v, q)) o = some (v, q) from if_neg (fun r => by rcases r with r | r; exact c1 r; exact c2 r.1)]; exact keep
/-- what the layers are laid on -/
def s_lt (tn : Nat → (Nat → Nat) → Nat → Nat) (L0 : Nat → Nat) (o : List Nat) : Nat → Nat := o.foldl (fun L t => tn t L) L0
theorem s_lt_s (tn : Nat → (Nat → Nat) → Nat → Nat) (L0 : Nat → Nat) (o : List Nat) (t : Nat) : s_lt tn L0 (o ++ [t]) = tn t (s_lt tn L0 o) := by unfold s_lt; rw [List.foldl_append]; rfl
theorem s_lt_le {tn : Nat → (Nat → Nat) → Nat → Nat} {L0 : Nat → Nat} (h : ∀ t L c, tn t L c ≤ 1000000000) (h0 : ∀ c, c < 8 → L0 c ≤ 1000000000) : ∀ o c, c < 8 → s_lt tn L0 o c ≤ 1000000000 := by
  intro o
  unfold s_lt
  revert L0
  induction o with
  | nil => intro L0 h0 c hc; exact h0 c hc
  | cons t o ih => intro L0 h0 c hc; exact ih (fun c _ => h t L0 c) c hc
def s_tlP (tn : Nat → (Nat → Nat) → Nat → Nat) (L0 : Nat → Nat) (I0 : Nat → Nat → Int32) (g : Nat) (o : List Nat) (I : Nat → Nat → Int32) : Prop := (∀ j, j < g → I 104 j = nI (o.getD j 0)) ∧ (∀ c, c < 8 → I (98 + g) c = nI (s_lt tn L0 o c)) ∧ ∀ a j, ¬ s_scL a j → I a j = I0 a j
def s_tlK (g : Nat) (I I' : Nat → Nat → Int32) : Prop := (∀ j, j < g → I' 104 j = I 104 j) ∧ ∀ k c, k ≤ g → I' (98 + k) c = I (98 + k) c
theorem x_tl_lp (E : zE) (d : Nat) (J : Nat → Nat → Int64) (w : Nat) (U : List Nat → Int32) (tn : Nat → (Nat → Nat) → Nat → Nat) (L0 : Nat → Nat) (I0 : Nat → Nat → Int32) (m : Nat) (hm : m ≤ 20) (h_m : I0 37 7 = nI m)
    (htn : ∀ (d : Nat) (I : Nat → Nat → Int32) (t g : Nat) (L : Nat → Nat), (∀ a j, ¬ s_scL a j → I a j = I0 a j) → t < m → g < 5 → (∀ c, c < 8 → I (98 + g) c = nI (L c) ∧ L c ≤ 1000000000) → ∃ I', z_cl E (d + 4) 120 [.ref 37, .int (nI t), .ref (98 + g), .ref (98 + (g + 1))] (161, I, J, RF w) = some (none, 161, I', J, RF w) ∧ (∀ c, c < 8 → I' (98 + (g + 1)) c = nI (tn t L c)) ∧ ∀ x k, x ≠ 98 + (g + 1) → I' x k = I x k)
    (hl : ∀ o c, c < 8 → s_lt tn L0 o c ≤ 1000000000) (n g y : Nat) (o : List Nat) (v : Int32) (hg : g + (n + 1) = 5) (hy : y < 2 ^ 31) (ho : o.length = g)
    (rec : ∀ o' y' I' b', o'.length = g + 1 → y' < 2 ^ 31 → s_tlP tn L0 I0 (g + 1) o' I' → s_lyX I' b' → ∃ I2, z_cl E (d + n + 5) 45 [.ref 91, .int (nI y'), .int (nI (g + 1))] (161, I', J, RF w) = some (none, 161, I2, J, RF w) ∧ s_lyX I2 ((s_pre n (s_bs y' m) o').foldl (s_lst U) b') ∧ s_tlK (g + 1) I' I2 ∧ ∀ a j, ¬ s_scL a j → I2 a j = I0 a j) (b1 : Option (Int32 × List Nat)) : ∀ k t I, t + k = m → s_tlP tn L0 I0 g o I → s_lyX I (((s_bs y t).flatMap (fun t => s_pre n ((s_bs y m).filter (fun s => !(s == t))) (o ++ [t]))).foldl (s_lst U) b1) → ∃ I', z_Ev E (d + (n + 1) + 4) z_m45 95 [some (.ref 91), some (.int (nI y)), some (.int (nI g)), some (.int v), some (.int (nI t))] [] 161 (I, J, RF w) (none, 161, I', J, RF w) ∧ s_lyX I' (((s_bs y m).flatMap (fun t => s_pre n ((s_bs y m).filter (fun s => !(s == t))) (o ++ [t]))).foldl (s_lst U) b1) ∧ s_tlK g I I' ∧ ∀ a j, ¬ s_scL a j → I' a j = I0 a j
  | 0, t, I, ht, hP, hs => by
    have e : t = m := ht
    rw [e] at hs
    exact ⟨I, x_tl_end E (d + (n + 1)) I J w (nI y) v g t m ((hP.2.2 37 7 (by unfold s_scL; omega)).trans h_m) hm e, hs, ⟨fun _ _ => rfl, fun _ _ _ => rfl⟩, hP.2.2⟩
  | k + 1, t, I, ht, hP, hs => by
    have sz : I 37 7 = nI m := (hP.2.2 37 7 (by unfold s_scL; omega)).trans h_m
    by_cases hT : y / 2 ^ t % 2 = 1
    · obtain ⟨p1, p2, p3⟩ := hP
      obtain ⟨A, eA⟩ : ∃ A, A = z_u2 I 104 g (nI t) := ⟨_, rfl⟩
      have a1 : ∀ x k, ¬ (x = 104 ∧ k = g) → A x k = I x k := fun x k q => by rw [eA, z_u2_n _ _ q]
      have aS : ∀ a j, ¬ s_scL a j → A a j = I0 a j := fun a j q => by
        have q' := q
        unfold s_scL at q
        exact (a1 a j (by omega)).trans (p3 a j q')
      obtain ⟨B, eB, b2, b3⟩ := htn (d + (n + 1)) A t g (s_lt tn L0 o) aS (by omega) (by omega) (fun c hc => ⟨(a1 _ _ (by omega)).trans (p2 c hc), hl o c hc⟩)
      have bS : ∀ a j, ¬ s_scL a j → B a j = I0 a j := fun a j q => by
        have q' := q
        unfold s_scL at q
        exact (b3 a j (by omega)).trans (aS a j q')
      obtain ⟨C, eC, c2, c3, c4⟩ := rec (o ++ [t]) (s_clr y t) B (((s_bs y t).flatMap (fun t => s_pre n ((s_bs y m).filter (fun s => !(s == t))) (o ++ [t]))).foldl (s_lst U) b1) (by rw [List.length_append, ho]; rfl) (Nat.lt_of_le_of_lt (s_clr_le y t) hy) ⟨fun j hj => by
          rw [b3 _ _ (by omega)]
          by_cases ej : j = g
          · subst ej
            rw [eA, z_u2_same, List.getD_eq_getElem?_getD, List.getElem?_append_right (by omega), ho, Nat.sub_self]; rfl
          · rw [a1 _ _ (by omega), p1 j (by omega), List.getD_eq_getElem?_getD, List.getD_eq_getElem?_getD, List.getElem?_append_left (by omega)], fun c hc => by rw [s_lt_s]; exact b2 c hc, bS⟩ (s_lyX_eq hs (fun k => (b3 _ _ (by omega)).trans (a1 _ _ (by omega))) (fun k => (b3 _ _ (by omega)).trans (a1 _ _ (by omega))))
      have kp : s_tlK g I C := ⟨fun j hj => (c3.1 j (by omega)).trans ((b3 _ _ (by omega)).trans (a1 _ _ (by omega))), fun k c hk => (c3.2 k c (by omega)).trans ((b3 _ _ (by omega)).trans (a1 _ _ (by omega)))⟩
      obtain ⟨D, e4, q1, q2, q3⟩ := x_tl_lp E d J w U tn L0 I0 m hm h_m htn hl n g y o v hg hy ho rec b1 k (t + 1) C (by omega) ⟨fun j hj => (kp.1 j hj).trans (p1 j hj), fun c hc => (kp.2 g c (Nat.le_refl g)).trans (p2 c hc), c4⟩ (by
        rw [s_bs_t hT, List.flatMap_append, List.foldl_append, List.flatMap_singleton]
        rw [s_bs_clr (by omega)] at c2
        exact c2)
      rw [eA] at eB
      refine ⟨D, x_tl_yes E (d + (n + 1)) I J w (nI y) v g t m B C sz hm (by omega) (by omega) ((z_bt hy (by omega)).mpr hT) eB ?_ e4, q1, ⟨fun j hj => (q2.1 j hj).trans (kp.1 j hj), fun k c hk => (q2.2 k c hk).trans (kp.2 k c hk)⟩, q3⟩
      rw [z_clrB hy (by omega), nI_1, show d + (n + 1) + 4 = d + n + 5 by omega]
      exact eC
    · obtain ⟨D, e4, q⟩ := x_tl_lp E d J w U tn L0 I0 m hm h_m htn hl n g y o v hg hy ho rec b1 k (t + 1) I (by omega) hP (by rw [s_bs_f hT]; exact hs)
      exact ⟨D, x_tl_no E (d + (n + 1)) I J w (nI y) v g t m sz hm (by omega) (mt (z_bt hy (by omega)).mp hT) e4, q⟩
theorem x_tlQ (E : zE) (d : Nat) (J : Nat → Nat → Int64) (w : Nat) (U : List Nat → Int32) (tn : Nat → (Nat → Nat) → Nat → Nat) (L0 : Nat → Nat) (I0 : Nat → Nat → Int32) (m : Nat) (hm : m ≤ 20) (h_m : I0 37 7 = nI m)
    (htn : ∀ (d : Nat) (I : Nat → Nat → Int32) (t g : Nat) (L : Nat → Nat), (∀ a j, ¬ s_scL a j → I a j = I0 a j) → t < m → g < 5 → (∀ c, c < 8 → I (98 + g) c = nI (L c) ∧ L c ≤ 1000000000) → ∃ I', z_cl E (d + 4) 120 [.ref 37, .int (nI t), .ref (98 + g), .ref (98 + (g + 1))] (161, I, J, RF w) = some (none, 161, I', J, RF w) ∧ (∀ c, c < 8 → I' (98 + (g + 1)) c = nI (tn t L c)) ∧ ∀ x k, x ≠ 98 + (g + 1) → I' x k = I x k)
    (hl : ∀ o c, c < 8 → s_lt tn L0 o c ≤ 1000000000)
    (hv : ∀ (d : Nat) (I : Nat → Nat → Int32) (g : Nat) (o : List Nat), (∀ a j, ¬ s_scL a j → I a j = I0 a j) → g ≤ 5 → (∀ c, c < 8 → I (98 + g) c = nI (s_lt tn L0 o c)) → ∃ I', z_cl E (d + 4) 87 [.ref 79, .int (I 91 3), .ref (98 + g), .ref w, .int (I 91 4)] (161, I, J, RF w) = some (some (.int (U o)), 161, I', J, RF w) ∧ ∀ x k, x ≠ 89 → x ≠ 90 → I' x k = I x k) : ∀ n g y o I b, g + n = 5 → o.length = g → y < 2 ^ 31 → s_tlP tn L0 I0 g o I → s_lyX I b → ∃ I2, z_cl E (d + n + 5) 45 [.ref 91, .int (nI y), .int (nI g)] (161, I, J, RF w) = some (none, 161, I2, J, RF w) ∧ s_lyX I2 ((s_pre n (s_bs y m) o).foldl (s_lst U) b) ∧ s_tlK g I I2 ∧ ∀ a j, ¬ s_scL a j → I2 a j = I0 a j
  | n, g, y, o, I, b, hg, ho, hy, hP, hs => by
    obtain ⟨p1, p2, p3⟩ := hP
    obtain ⟨I1, e1, s1⟩ := hv (d + n) I g o p3 (by omega) p2
    obtain ⟨I2, road, s2, k2⟩ := x_tl_hd E (d + n) J w (nI y) g o U I I1 b (by omega) ho p1 hs e1 s1
    have S2 : ∀ a j, ¬ s_scL a j → I2 a j = I0 a j := fun a j q => by
      have q' := q
      unfold s_scL at q
      exact (k2 a j (by omega) (by omega) (by omega) (by omega)).trans (p3 a j q')
    have K2 : s_tlK g I I2 := ⟨fun j hj => k2 _ _ (by omega) (by omega) (by omega) (by omega), fun k c hk => k2 _ _ (by omega) (by omega) (by omega) (by omega)⟩
    cases n with
    | zero => exact ⟨I2, z_call (d := d + 0 + 4) (M := z_m45) rfl rfl (road _ (x_tl_ret E (d + 0) I2 J w (nI y) (U o) g (by omega))), s2, K2, S2⟩
    | succ n =>
      obtain ⟨I3, e3, q1, q2, q3⟩ := x_tl_lp E d J w U tn L0 I0 m hm h_m htn hl n g y o (U o) hg hy ho (fun o' y' I' b' h1 h2 h3 h4 => x_tlQ E d J w U tn L0 I0 m hm h_m htn hl hv n (g + 1) y' o' I' b' (by omega) h1 h2 h3 h4) (s_lst U b o) m 0 I2 (by omega) ⟨fun j hj => (K2.1 j hj).trans (p1 j hj), fun c hc => (K2.2 g c (Nat.le_refl g)).trans (p2 c hc), S2⟩ s2
      exact ⟨I3, z_call (d := d + (n + 1) + 4) (M := z_m45) rfl rfl (road _ (x_tl_go E (d + (n + 1)) I2 J w (nI y) (U o) g (by omega) e3)), q1, ⟨fun j hj => (q2.1 j hj).trans (K2.1 j hj), fun k c hk => (q2.2 k c hk).trans (K2.2 k c hk)⟩, q3⟩
