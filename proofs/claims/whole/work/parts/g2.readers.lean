-- PAIRS: calls that change nothing
theorem v_thing {N : Nat → Nat} {I : Nat → Nat → Int32} {J : Nat → Nat → Int64} (H : v_Inv N I J) {t : Nat} (ht : t < N 2) : ∃ K r p o s, K < 6 ∧ r < N 1 ∧ p < 100 ∧ o ≤ N 0 ∧ s ≤ 65535 ∧ (I 38 t = nI K ∧ I 129 t = nI K) ∧ (I 39 t = nI r ∧ I 130 t = nI r) ∧ (I 40 t = nI p ∧ I 131 t = nI p) ∧ (I 41 t = nI o ∧ I 132 t = nI o) ∧ (I 42 t = nI s ∧ I 133 t = nI s) := H.2.2.1.2.2.2 t ht
theorem v_eye_r {N : Nat → Nat} {I : Nat → Nat → Int32} {J : Nat → Nat → Int64} (H : v_Inv N I J) {e : Nat} (he : e < N 4) : ∃ q, ∃ r : Nat → Nat, q ≤ 3 ∧ I 75 e = nI q ∧ I 136 e = nI q ∧ (∀ t, t < q → I (67 + e) t = nI (r t) ∧ r t < 30) ∧ (∀ t, t < q → I 135 (3 * e + t) = nI (r t) ∧ r t < 30) ∧ ∀ t, t < q → r t < N 1 := by
  obtain ⟨-, ⟨-, -, r3, -⟩, -, -, ⟨-, -, -, e4⟩, -⟩ := H
  obtain ⟨q, q1, q2, q3, q4⟩ := e4 e he
  have key : ∀ t, t < q → I (67 + e) t = nI ((I (67 + e) t).toNatClampNeg) ∧ I 135 (3 * e + t) = nI ((I (67 + e) t).toNatClampNeg) ∧ (I (67 + e) t).toNatClampNeg < N 1 := fun t ht => by
    obtain ⟨r, s1, s2, s3⟩ := q4 t ht
    rw [z_natE s2 (by omega)]
    exact ⟨s2, s3, s1⟩
  exact ⟨q, fun t => (I (67 + e) t).toNatClampNeg, q1, q2, q3, fun t ht => ⟨(key t ht).1, Nat.lt_of_lt_of_le (key t ht).2.2 r3⟩, fun t ht => ⟨(key t ht).2.1, Nat.lt_of_lt_of_le (key t ht).2.2 r3⟩, fun t ht => (key t ht).2.2⟩
theorem v_light_x {N : Nat → Nat} {I : Nat → Nat → Int32} {J : Nat → Nat → Int64} (H : v_Inv N I J) {l : Nat} (hl : l < N 3) : ∀ c, c < 8 → ∃ x, x ≤ 1000000000 ∧ I (45 + l) c = nI x ∧ I 134 (8 * l + c) = nI x := fun c hc => H.2.2.2.1.2.2.2 l c hl hc
theorem v_row_x {N : Nat → Nat} {I : Nat → Nat → Int32} {J : Nat → Nat → Int64} (H : v_Inv N I J) {r : Nat} (hr : r < N 1) : ∀ c, c < 8 → ∃ y, y ≤ 999 ∧ I (3 + r) c = nI y ∧ I 128 (8 * r + c) = nI y := fun c hc => H.2.1.2.2.2 r c hr hc
theorem v_see {N : Nat → Nat} {I : Nat → Nat → Int32} {J : Nat → Nat → Int64} (H : v_Inv N I J) {l r : Nat} (hl : l < N 3) (hr : r < N 1) : z_see (I (45 + l)) (I (3 + r)) = z_see (fun c => I 134 (8 * l + c)) (fun c => I 128 (8 * r + c)) := z_see_congr (fun c hc => by obtain ⟨x, _, a, b⟩ := v_light_x H hl c hc; show _ = I 134 (8 * l + c); rw [a, b]) (fun c hc => by obtain ⟨x, _, a, b⟩ := v_row_x H hr c hc; show _ = I 128 (8 * r + c); rw [a, b])
theorem v_same {N : Nat → Nat} {I : Nat → Nat → Int32} {J : Nat → Nat → Int64} (H : v_Inv N I J) {a b r : Nat} (ha : a < N 3) (hb : b < N 3) (hr : r < N 1) : z_apa (I (45 + a)) (I (45 + b)) (I (3 + r)) = 0 ↔ z_see (fun c => I 134 (8 * a + c)) (fun c => I 128 (8 * r + c)) = z_see (fun c => I 134 (8 * b + c)) (fun c => I 128 (8 * r + c)) := by
  rw [← v_see H ha hr, ← v_see H hb hr]
  have t := z_apa_see (A := I (45 + a)) (B := I (45 + b)) (R := I (3 + r)) (fun c hc => by obtain ⟨x, x1, x2, _⟩ := v_light_x H ha c hc; exact ⟨x, x1, x2⟩) (fun c hc => by obtain ⟨x, x1, x2, _⟩ := v_light_x H hb c hc; exact ⟨x, x1, x2⟩) 8 (Nat.le_refl 8)
  rw [show z_apa (I (45 + a)) (I (45 + b)) (I (3 + r)) = z_see (I (45 + a)) (I (3 + r)) - z_see (I (45 + b)) (I (3 + r)) from t]
  rw [Int64.sub_eq_iff_eq_add, Int64.zero_add]
theorem v_sameA {N : Nat → Nat} {I : Nat → Nat → Int32} {J : Nat → Nat → Int64} (H : v_Inv N I J) {a b q : Nat} {r : Nat → Nat} (ha : a < N 3) (hb : b < N 3) (hr : ∀ t, t < q → r t < N 1) : (∀ t, t < q → z_apa (I (45 + a)) (I (45 + b)) (I (3 + r t)) = 0) ↔ ∀ t, t < q → z_see (fun c => I 134 (8 * a + c)) (fun c => I 128 (8 * r t + c)) = z_see (fun c => I 134 (8 * b + c)) (fun c => I 128 (8 * r t + c)) := forall_congr' fun t => forall_congr' fun ht => v_same H ha hb (hr t ht)
theorem z_bo_congr {c c' : Prop} [Decidable c] [Decidable c'] (h : c ↔ c') : z_bo c = z_bo c' := by
  by_cases q : c
  · rw [z_bo_t q, z_bo_t (h.mp q)]
  · rw [z_bo_f q, z_bo_f (fun r => q (h.mpr r))]
theorem s_tw_congr {Q Q' : Nat → Nat → Bool} {i : Int32} {n : Nat} (h : ∀ a b, a < n → b < n → Q a b = Q' a b) : s_tw Q i n = s_tw Q' i n := by
  have e : s_to Q i n n = s_to Q' i n n := z_fo_congr (fun a ha st => z_fo_congr (fun j hj st => by unfold s_ts; rw [h a (a + 1 + j) ha (by omega)]))
  unfold s_tw
  rw [e]
theorem s_rb_congr {S S' : Nat → Bool} {n : Nat} (h : ∀ k, k < n → S k = S' k) : s_rb S n = s_rb S' n := z_fo_congr (fun k hk x => by rw [h k hk])
theorem s_least_s (T : Nat → Bool) (U : Nat → Int32) (m : Nat) : s_least T U (m + 1) = if T m then (match s_least T U m with | none => some m | some j => if U m < U j then some m else s_least T U m) else s_least T U m := rfl
theorem s_least_congr {T : Nat → Bool} {U U' : Nat → Int32} {n : Nat} (h : ∀ k, k < n → U k = U' k) (m : Nat) (hm : m ≤ n) : s_least T U m = s_least T U' m := by
  induction m with
  | zero => exact (show s_least T U 0 = none from rfl).trans (show s_least T U' 0 = none from rfl).symm
  | succ m ih =>
    rw [s_least_s, s_least_s, ih (by omega)]
    have lt := s_least_lt T U' m
    revert lt
    generalize s_least T U' m = o
    intro lt
    cases o with
    | none => rfl
    | some j =>
      have := lt j rfl
      show (if T m = true then (if U m < U j then some m else some j) else some j) = (if T m = true then (if U' m < U' j then some m else some j) else some j)
      rw [h m (by omega), h j (by omega)]
theorem z_on_n {s : Nat} (hs : s ≤ 65535) (a : Nat) : ∀ w, ∃ k, k ≤ w ∧ z_on (nI s) a w = nI k
  | 0 => ⟨0, Nat.le_refl 0, rfl⟩
  | w + 1 => by
    obtain ⟨k, h1, h2⟩ := z_on_n hs a w
    refine ⟨k + s / 2 ^ ((a + w) % 16) % 2, by omega, ?_⟩
    show z_on (nI s) a w + ((nI s >>> (nI ((a + w) % 16) &&& 31)) &&& 1) = _
    rw [h2, z_bit (by omega) (by omega), nI_add]
theorem s_mn_99 {s : Nat} (hs : s ≤ 65535) (g b : Nat) (hb : b ≤ 16) : ∀ n, s_mn (nI s) g b (nI b) (n + 1) = s_mn (nI s) g b 99 (n + 1)
  | 0 => by
    obtain ⟨k, h1, h2⟩ := z_on_n hs (0 * g) b
    show (if z_on (nI s) (0 * g) b < nI b then z_on (nI s) (0 * g) b else nI b) = (if z_on (nI s) (0 * g) b < 99 then z_on (nI s) (0 * g) b else 99)
    rw [h2, if_pos (show nI k < (99 : Int32) from (z_ltN (b := 99) rfl rfl (by omega) (by decide)).mpr (by omega))]
    by_cases q : k < b
    · rw [if_pos ((z_ltN rfl rfl (by omega) (by omega)).mpr q)]
    · rw [if_neg (mt (z_ltN rfl rfl (by omega) (by omega)).mp q), show k = b by omega]
  | n + 1 => by
    show (if z_on (nI s) ((n + 1) * g) b < s_mn (nI s) g b (nI b) (n + 1) then _ else s_mn (nI s) g b (nI b) (n + 1)) = (if z_on (nI s) ((n + 1) * g) b < s_mn (nI s) g b 99 (n + 1) then _ else s_mn (nI s) g b 99 (n + 1))
    rw [s_mn_99 hs g b hb n]
theorem v_steps {N : Nat → Nat} {I : Nat → Nat → Int32} {J : Nat → Nat → Int64} (H : v_Inv N I J) {t n g b : Nat} (ht : t < N 2) (hn : 1 ≤ n) (hb : b ≤ 16) : s_mx (I 42 t) g b n - s_mn (I 42 t) g b (nI b) n = s_mx (I 133 t) g b n - s_mn (I 133 t) g b 99 n := by
  obtain ⟨K, r, p, o, s, _, _, _, _, s5, _, _, _, _, u1, u2⟩ := v_thing H ht
  obtain ⟨m, rfl⟩ : ∃ m, n = m + 1 := ⟨n - 1, by omega⟩
  rw [u1, u2, s_mn_99 s5 g b hb m]
theorem z_1n {i : Int32} {m' : Int32} {m : Nat} (hm : m' = nI m) (h : m < 2 ^ 31) (q : ¬ i < 1 ∧ ¬ m' < i) : ∃ k, 1 ≤ k ∧ k ≤ m ∧ i = nI k := by
  have q1 : z_hs i (m + 1) := (z_hsK hm h).mp ⟨fun r => q.1 (by rw [Int32.lt_iff_toInt_lt] at r ⊢; rw [show (1 : Int32).toInt = 1 from rfl]; rw [show (0 : Int32).toInt = 0 from rfl] at r; omega), q.2⟩
  obtain ⟨k, k1, rfl⟩ := z_hs_of q1
  refine ⟨k, ?_, by omega, rfl⟩
  rcases Nat.eq_zero_or_pos k with r | r
  · exact absurd (by rw [r]; decide) q.1
  · exact r
theorem v_plates_f {N : Nat → Nat} {I : Nat → Nat → Int32} {J : Nat → Nat → Int64} (H : v_Inv N I J) : ∃ f g : Nat → Nat, (∀ k, k < N 8 → I 107 k = nI (f k) ∧ I 108 k = nI (g k) ∧ f k < 20 ∧ g k < 20) ∧ (∀ k, k < N 8 → I 149 k = nI (f k) ∧ I 150 k = nI (g k) ∧ f k < 20 ∧ g k < 20) ∧ ∀ k, k < N 8 → f k < N 3 ∧ g k < N 3 := by
  obtain ⟨-, -, -, ⟨-, -, l3, -⟩, -, -, -, ⟨-, -, -, p4⟩, -⟩ := H
  have key : ∀ k, k < N 8 → I 107 k = nI (I 107 k).toNatClampNeg ∧ I 149 k = nI (I 107 k).toNatClampNeg ∧ I 108 k = nI (I 108 k).toNatClampNeg ∧ I 150 k = nI (I 108 k).toNatClampNeg ∧ (I 107 k).toNatClampNeg < N 3 ∧ (I 108 k).toNatClampNeg < N 3 := fun k hk => by
    obtain ⟨a, b, a1, a2, a3, a4⟩ := p4 k hk
    rw [z_natE a3.1 (by omega), z_natE a4.1 (by omega)]
    exact ⟨a3.1, a3.2, a4.1, a4.2, a1, a2⟩
  exact ⟨fun k => (I 107 k).toNatClampNeg, fun k => (I 108 k).toNatClampNeg, fun k hk => ⟨(key k hk).1, (key k hk).2.2.1, Nat.lt_of_lt_of_le (key k hk).2.2.2.2.1 l3, Nat.lt_of_lt_of_le (key k hk).2.2.2.2.2 l3⟩, fun k hk => ⟨(key k hk).2.1, (key k hk).2.2.2.1, Nat.lt_of_lt_of_le (key k hk).2.2.2.2.1 l3, Nat.lt_of_lt_of_le (key k hk).2.2.2.2.2 l3⟩, fun k hk => (key k hk).2.2.2.2⟩
theorem g_rowTold (E : zE) (N : Nat → Nat) (I : Nat → Nat → Int32) (J : Nat → Nat → Int64) (w : Nat) (H : v_Inv N I J) (i : Int32) (c : Int32) : v_GoI E 130 186 [.int i, .int c] I J w := by
  have H0 := H
  obtain ⟨⟨o1, o2, o3⟩, ⟨r1, r2, r3, r4⟩, ⟨t1, t2, t3, t4⟩, ⟨l1, l2, l3, l4⟩, ⟨e1, e2, e3, e4⟩, ⟨x1, x2, x3, x4, x5, x6, x7⟩, ⟨k1, k2, k3, k4⟩, ⟨p1, p2, p3, p4⟩, ⟨a1, a2, a3, a4⟩, ⟨f1, f2, f3, f4⟩, hsh⟩ := H
  by_cases hc : z_hs i (N 1) ∧ z_hs c 8
  · obtain ⟨a, ha, rfl⟩ := z_hs_of hc.1
    obtain ⟨b, hb, rfl⟩ := z_hs_of hc.2
    obtain ⟨v, v1, v2, v3⟩ := v_row_x H0 ha b hb
    refine ⟨nI v, I, J, w, I, J, w, ?_, ?_, N, H0⟩
    · rw [← v2]; exact x_rowTold_ok E 97 I J w a b (N 1) r1 r3 ha hb
    · rw [← v3]; exact m_rowTold_ok E 96 I J w a b (N 1) r2 r3 ha hb
  ·
    refine ⟨(-2), I, J, w, I, J, w, x_rowTold_bad E 97 I J w i c (fun q => hc ⟨(z_hsX r1 (by omega)).mp q.1, (z_hsX (m := 8) (n := 8) rfl (by decide)).mp q.2⟩), m_rowTold_bad E 96 I J w i c (fun q => hc ⟨(z_hsM r2 (by omega)).mp q.1, (z_hsK (m := 7) (n := 7) rfl (by decide)).mp q.2⟩), N, H0⟩
theorem g_lightTold (E : zE) (N : Nat → Nat) (I : Nat → Nat → Int32) (J : Nat → Nat → Int64) (w : Nat) (H : v_Inv N I J) (i : Int32) (c : Int32) : v_GoI E 136 194 [.int i, .int c] I J w := by
  have H0 := H
  obtain ⟨⟨o1, o2, o3⟩, ⟨r1, r2, r3, r4⟩, ⟨t1, t2, t3, t4⟩, ⟨l1, l2, l3, l4⟩, ⟨e1, e2, e3, e4⟩, ⟨x1, x2, x3, x4, x5, x6, x7⟩, ⟨k1, k2, k3, k4⟩, ⟨p1, p2, p3, p4⟩, ⟨a1, a2, a3, a4⟩, ⟨f1, f2, f3, f4⟩, hsh⟩ := H
  by_cases hc : z_hs i (N 3) ∧ z_hs c 8
  · obtain ⟨a, ha, rfl⟩ := z_hs_of hc.1
    obtain ⟨b, hb, rfl⟩ := z_hs_of hc.2
    obtain ⟨v, v1, v2, v3⟩ := v_light_x H0 ha b hb
    refine ⟨nI v, I, J, w, I, J, w, ?_, ?_, N, H0⟩
    · rw [← v2]; exact x_lightTold_ok E 97 I J w a b (N 3) l1 l3 ha hb
    · rw [← v3]; exact m_lightTold_ok E 96 I J w a b (N 3) l2 l3 ha hb
  ·
    refine ⟨(-2), I, J, w, I, J, w, x_lightTold_bad E 97 I J w i c (fun q => hc ⟨(z_hsX l1 (by omega)).mp q.1, (z_hsX (m := 8) (n := 8) rfl (by decide)).mp q.2⟩), m_lightTold_bad E 96 I J w i c (fun q => hc ⟨(z_hsM l2 (by omega)).mp q.1, (z_hsK (m := 7) (n := 7) rfl (by decide)).mp q.2⟩), N, H0⟩
theorem s_SM_s (T H : Nat → Int32) (t h : Int32) (k : Nat) : s_SM T H t h (k + 1) = s_stM T H t h k (s_SM T H t h k) := rfl
theorem s_SM_congr {T T' H H' : Nat → Int32} {t h : Int32} {n : Nat} (e1 : ∀ j, j < n → T j = T' j) (e2 : ∀ j, j < n → H j = H' j) (k : Nat) (hk : k ≤ n) (hk2 : k < 2 ^ 31) : s_SM T H t h k = s_SM T' H' t h k := by
  induction k with
  | zero => exact (show s_SM T H t h 0 = ((-1), (-1)) from rfl).trans (show s_SM T' H' t h 0 = ((-1), (-1)) from rfl).symm
  | succ k ih =>
    rw [s_SM_s, s_SM_s, ih (by omega) (by omega)]
    obtain ⟨o1, o2⟩ := s_okM T' H' t h k
    have g1 : ¬ (s_SM T' H' t h k).1 < 0 → H (s_SM T' H' t h k).1.toNatClampNeg = H' (s_SM T' H' t h k).1.toNatClampNeg := fun h0 => by
      rcases o1 with q | ⟨j, j1, j2, _⟩
      · exact absurd (by rw [q]; decide) h0
      · rw [j2, nI_clamp (by omega)]; exact e2 j (by omega)
    have g2 : ¬ (s_SM T' H' t h k).2 < 0 → H (s_SM T' H' t h k).2.toNatClampNeg = H' (s_SM T' H' t h k).2.toNatClampNeg := fun h0 => by
      rcases o2 with q | ⟨j, j1, j2, _⟩
      · exact absurd (by rw [q]; decide) h0
      · rw [j2, nI_clamp (by omega)]; exact e2 j (by omega)
    unfold s_stM
    rw [e1 k (by omega), e2 k (by omega)]
    by_cases a : (s_SM T' H' t h k).1 < 0
    · by_cases b : (s_SM T' H' t h k).2 < 0
      · simp only [if_pos a, if_pos b]
      · simp only [if_pos a, g2 b]
    · by_cases b : (s_SM T' H' t h k).2 < 0
      · simp only [if_pos b, g1 a]
      · simp only [g1 a, g2 b]
theorem s_anM_congr {T T' H H' P P' : Nat → Int32} {t h : Int32} {n : Nat} (e1 : ∀ j, j < n → T j = T' j) (e2 : ∀ j, j < n → H j = H' j) (e3 : ∀ j, j < n → P j = P' j) (hn : n < 2 ^ 31) : s_anM H P h (s_SM T H t h n) = s_anM H' P' h (s_SM T' H' t h n) := by
  rw [s_SM_congr e1 e2 n (Nat.le_refl n) hn]
  obtain ⟨o1, o2⟩ := s_okM T' H' t h n
  have g1 : ¬ (s_SM T' H' t h n).1 < 0 → H (s_SM T' H' t h n).1.toNatClampNeg = H' (s_SM T' H' t h n).1.toNatClampNeg ∧ P (s_SM T' H' t h n).1.toNatClampNeg = P' (s_SM T' H' t h n).1.toNatClampNeg := fun h0 => by
    rcases o1 with q | ⟨j, j1, j2, _⟩
    · exact absurd (by rw [q]; decide) h0
    · rw [j2, nI_clamp (by omega)]; exact ⟨e2 j j1, e3 j j1⟩
  have g2 : ¬ (s_SM T' H' t h n).2 < 0 → H (s_SM T' H' t h n).2.toNatClampNeg = H' (s_SM T' H' t h n).2.toNatClampNeg ∧ P (s_SM T' H' t h n).2.toNatClampNeg = P' (s_SM T' H' t h n).2.toNatClampNeg := fun h0 => by
    rcases o2 with q | ⟨j, j1, j2, _⟩
    · exact absurd (by rw [q]; decide) h0
    · rw [j2, nI_clamp (by omega)]; exact ⟨e2 j j1, e3 j j1⟩
  unfold s_anM
  by_cases a : (s_SM T' H' t h n).1 < 0
  · by_cases b : (s_SM T' H' t h n).2 < 0
    · simp only [if_pos a, if_pos b]
    · simp only [if_pos a, (g2 b).2]
  · by_cases b : (s_SM T' H' t h n).2 < 0
    · simp only [if_pos b, if_neg a, (g1 a).2]
    · simp only [(g1 a).1, (g1 a).2, (g2 b).1, (g2 b).2]
theorem v_still {N : Nat → Nat} {I : Nat → Nat → Int32} {J : Nat → Nat → Int64} (H : v_Inv N I J) {t h : Int32} : s_anX (I 35) (I 36) h (s_SX (I 34) (I 35) t h (N 9)) = s_anM (I 153) (I 154) h (s_SM (I 152) (I 153) t h (N 9)) := by
  obtain ⟨-, -, -, -, -, -, -, -, ⟨a1, a2, a3, a4⟩, -⟩ := H
  rw [s_still (by omega) (fun j hj => by obtain ⟨_, v, _, _, v1, _, _, v2, _⟩ := a4 j hj; exact ⟨v, v1, v2.1⟩)]
  exact s_anM_congr (fun j hj => by obtain ⟨_, _, _, _, _, _, v2, _⟩ := a4 j hj; rw [v2.1, v2.2]) (fun j hj => by obtain ⟨_, _, _, _, _, _, _, v2, _⟩ := a4 j hj; rw [v2.1, v2.2]) (fun j hj => by obtain ⟨_, _, _, _, _, _, _, _, v2⟩ := a4 j hj; rw [v2.1, v2.2]) (by omega)
theorem g_thingTold (E : zE) (N : Nat → Nat) (I : Nat → Nat → Int32) (J : Nat → Nat → Int64) (w : Nat) (H : v_Inv N I J) (t : Int32) (i : Int32) : v_GoI E 132 188 [.int t, .int i] I J w := by
  have H0 := H
  obtain ⟨⟨o1, o2, o3⟩, ⟨r1, r2, r3, r4⟩, ⟨t1, t2, t3, t4⟩, ⟨l1, l2, l3, l4⟩, ⟨e1, e2, e3, e4⟩, ⟨x1, x2, x3, x4, x5, x6, x7⟩, ⟨k1, k2, k3, k4⟩, ⟨p1, p2, p3, p4⟩, ⟨a1, a2, a3, a4⟩, ⟨f1, f2, f3, f4⟩, hsh⟩ := H
  by_cases hc : z_hs t (N 2)
  · obtain ⟨a, ha, rfl⟩ := z_hs_of hc
    by_cases hi : z_hs i 6
    · obtain ⟨b, hb, rfl⟩ := z_hs_of hi
      obtain ⟨K, r, p, o, s, _, _, _, q4, _, ⟨b1, c1⟩, ⟨b2, c2⟩, ⟨b3, c3⟩, ⟨b4, c4⟩, ⟨b5, c5⟩⟩ := v_thing H0 ha
      rcases (by omega : b = 0 ∨ b = 1 ∨ b = 2 ∨ b = 3 ∨ b = 4 ∨ b = 5) with e | e | e | e | e | e <;> subst e
      · exact ⟨nI K, I, J, w, I, J, w, by rw [← b1]; exact x_thingTold_0 E 94 I J w a (N 2) t1 t3 ha, by rw [← c1]; exact m_thingTold_0 E 94 I J w a (N 2) t2 t3 ha, N, H0⟩
      · exact ⟨nI r, I, J, w, I, J, w, by rw [← b2]; exact x_thingTold_1 E 94 I J w a (N 2) t1 t3 ha, by rw [← c2]; exact m_thingTold_1 E 94 I J w a (N 2) t2 t3 ha, N, H0⟩
      · exact ⟨nI p, I, J, w, I, J, w, by rw [← b3]; exact x_thingTold_2 E 94 I J w a (N 2) t1 t3 ha, by rw [← c3]; exact m_thingTold_2 E 94 I J w a (N 2) t2 t3 ha, N, H0⟩
      · exact ⟨nI o, I, J, w, I, J, w, by rw [← b4]; exact x_thingTold_3 E 94 I J w a (N 2) t1 t3 ha, by rw [← c4]; exact m_thingTold_3 E 94 I J w a (N 2) t2 t3 ha, N, H0⟩
      · exact ⟨nI s, I, J, w, I, J, w, by rw [← b5]; exact x_thingTold_4 E 94 I J w a (N 2) t1 t3 ha, by rw [← c5]; exact m_thingTold_4 E 94 I J w a (N 2) t2 t3 ha, N, H0⟩
      · refine ⟨_, I, J, w, I, J, w, x_thingTold_5 E 94 I J w a (N 9) (N 2) a1 a3 t1 t3 ha, ?_, N, H0⟩
        have t := m_thingTold_5 E 94 I J w a (N 9) (N 2) a2 a3 t2 t3 ha
        rw [o1, b4, v_still H0]
        rw [o2, c4] at t
        exact t
    · have hi' : i.toInt < 0 ∨ 5 < i.toInt := by unfold z_hs at hi; omega
      exact ⟨-2, I, J, w, I, J, w, x_thingTold_badB E 94 I J w a (N 2) i t1 t3 ha hi', m_thingTold_bad E 94 I J w (nI a) i (fun q => hi ((z_hsK (m := 5) (n := 5) rfl (by decide)).mp q.2)), N, H0⟩
  · exact ⟨-2, I, J, w, I, J, w, x_thingTold_badA E 94 I J w t i (fun q => hc ((z_hsX t1 (by omega)).mp q)), m_thingTold_bad E 94 I J w t i (fun q => hc ((z_hsM t2 (by omega)).mp q.1)), N, H0⟩
theorem g_seen (E : zE) (N : Nat → Nat) (I : Nat → Nat → Int32) (J : Nat → Nat → Int64) (w : Nat) (H : v_Inv N I J) (e : Int32) (t : Int32) (l : Int32) : v_GoJ E 138 197 [.int e, .int t, .int l] I J w := by
  have H0 := H
  obtain ⟨⟨o1, o2, o3⟩, ⟨r1, r2, r3, r4⟩, ⟨t1, t2, t3, t4⟩, ⟨l1, l2, l3, l4⟩, ⟨e1, e2, e3, e4⟩, ⟨x1, x2, x3, x4, x5, x6, x7⟩, ⟨k1, k2, k3, k4⟩, ⟨p1, p2, p3, p4⟩, ⟨a1, a2, a3, a4⟩, ⟨f1, f2, f3, f4⟩, hsh⟩ := H
  by_cases he : z_hs e (N 4)
  · obtain ⟨a, ha, rfl⟩ := z_hs_of he
    obtain ⟨q, r, q3, q1, q2, qr, qm, qn⟩ := v_eye_r H0 ha
    by_cases hc : z_hs t q ∧ z_hs l (N 3)
    · obtain ⟨b, hb, rfl⟩ := z_hs_of hc.1
      obtain ⟨c, hcl, rfl⟩ := z_hs_of hc.2
      refine ⟨_, I, J, w, I, J, w, x_seen_ok E 96 I J w a b c (N 4) (N 3) q (r b) e1 e3 l1 l3 q1 q3 (qr b hb).1 (qr b hb).2 ha hb hcl, ?_, N, H0⟩
      rw [v_see H0 hcl (qn b hb)]
      exact m_seen_ok E 96 I J w a b c (N 4) (N 3) q (r b) e2 e3 l2 l3 q2 q3 (qm b hb).1 (qm b hb).2 ha hb hcl
    · exact ⟨(-4611686018427387904), I, J, w, I, J, w, x_seen_badB E 96 I J w a (N 4) t l e1 e3 ha (fun z => hc ⟨(z_hsX q1 (by omega)).mp z.1, (z_hsX l1 (by omega)).mp z.2⟩), m_seen_badB E 96 I J w a (N 4) t l e2 e3 ha (fun z => hc ⟨(z_hsX q2 (by omega)).mp ⟨z.1.1, z.2.1⟩, (z_hsM l2 (by omega)).mp z.2.2⟩), N, H0⟩
  · exact ⟨(-4611686018427387904), I, J, w, I, J, w, x_seen_badA E 96 I J w e t l (fun z => he ((z_hsX e1 (by omega)).mp z)), m_seen_badA E 96 I J w e t l (fun z => he ((z_hsM e2 (by omega)).mp z)), N, H0⟩
theorem g_same (E : zE) (N : Nat → Nat) (I : Nat → Nat → Int32) (J : Nat → Nat → Int64) (w : Nat) (H : v_Inv N I J) (e : Int32) (a : Int32) (b : Int32) : v_GoI E 139 199 [.int e, .int a, .int b] I J w := by
  have H0 := H
  obtain ⟨⟨o1, o2, o3⟩, ⟨r1, r2, r3, r4⟩, ⟨t1, t2, t3, t4⟩, ⟨l1, l2, l3, l4⟩, ⟨e1, e2, e3, e4⟩, ⟨x1, x2, x3, x4, x5, x6, x7⟩, ⟨k1, k2, k3, k4⟩, ⟨p1, p2, p3, p4⟩, ⟨a1, a2, a3, a4⟩, ⟨f1, f2, f3, f4⟩, hsh⟩ := H
  by_cases hc : z_hs e (N 4) ∧ z_hs a (N 3) ∧ z_hs b (N 3)
  · obtain ⟨y, hy, rfl⟩ := z_hs_of hc.1
    obtain ⟨a', ha, rfl⟩ := z_hs_of hc.2.1
    obtain ⟨b', hb, rfl⟩ := z_hs_of hc.2.2
    obtain ⟨q, r, q3, q1, q2, qr, qm, qn⟩ := v_eye_r H0 hy
    refine ⟨_, I, J, w, I, J, w, x_same_ok E 95 I J w y a' b' (N 4) (N 3) q r e1 e3 l1 l3 q1 q3 qr hy ha hb, ?_, N, H0⟩
    rw [z_bo_congr (v_sameA H0 ha hb qn)]
    exact m_same_ok E 96 I J w y a' b' (N 4) (N 3) q r e2 e3 l2 l3 q2 q3 qm hy ha hb
  ·
    refine ⟨(-2), I, J, w, I, J, w, x_same_bad E 95 I J w e a b (fun q => hc ⟨(z_hsX e1 (by omega)).mp q.1, (z_hsX l1 (by omega)).mp q.2.1, (z_hsX l1 (by omega)).mp q.2.2⟩), m_same_bad E 96 I J w e a b (fun q => hc ⟨(z_hsM e2 (by omega)).mp q.1, (z_hsM l2 (by omega)).mp q.2.1, (z_hsM l2 (by omega)).mp q.2.2⟩), N, H0⟩
theorem g_twins (E : zE) (N : Nat → Nat) (I : Nat → Nat → Int32) (J : Nat → Nat → Int64) (w : Nat) (H : v_Inv N I J) (e : Int32) (o : Int32) (i : Int32) : v_GoI E 140 200 [.int e, .int o, .int i] I J w := by
  have H0 := H
  obtain ⟨⟨o1, o2, o3⟩, ⟨r1, r2, r3, r4⟩, ⟨t1, t2, t3, t4⟩, ⟨l1, l2, l3, l4⟩, ⟨e1, e2, e3, e4⟩, ⟨x1, x2, x3, x4, x5, x6, x7⟩, ⟨k1, k2, k3, k4⟩, ⟨p1, p2, p3, p4⟩, ⟨a1, a2, a3, a4⟩, ⟨f1, f2, f3, f4⟩, hsh⟩ := H
  by_cases hc : z_hs e (N 4) ∧ z_hs o (N 4)
  · obtain ⟨y, hy, rfl⟩ := z_hs_of hc.1
    obtain ⟨z, hz, rfl⟩ := z_hs_of hc.2
    obtain ⟨q, r, q3, q1, q2, qr, qm, qn⟩ := v_eye_r H0 hy
    obtain ⟨u, v, u3, u1, u2, ur, um, un⟩ := v_eye_r H0 hz
    refine ⟨_, I, J, w, I, J, w, x_twins_ok E 95 I J w y z i (N 4) (N 3) q u r v e1 e3 l1 l3 hy hz q1 u1 q3 u3 qr ur, ?_, N, H0⟩
    rw [s_tw_congr (fun a b ha hb => decide_eq_decide.mpr (and_congr (v_sameA H0 ha hb qn) (not_congr (v_sameA H0 ha hb un))))]
    exact m_twins_ok E 96 I J w y z i (N 4) (N 3) q u r v e2 e3 l2 l3 hy hz q2 u2 q3 u3 qm um
  ·
    refine ⟨(-2), I, J, w, I, J, w, x_twins_bad E 95 I J w e o i (fun q => hc ⟨(z_hsX e1 (by omega)).mp q.1, (z_hsX e1 (by omega)).mp q.2⟩), m_twins_bad E 96 I J w e o i (fun q => hc ⟨(z_hsM e2 (by omega)).mp q.1, (z_hsM e2 (by omega)).mp q.2⟩), N, H0⟩
theorem g_count (E : zE) (N : Nat → Nat) (I : Nat → Nat → Int32) (J : Nat → Nat → Int64) (w : Nat) (H : v_Inv N I J) (i : Int32) : v_GoI E 160 246 [.int i] I J w := by
  have H0 := H
  obtain ⟨⟨o1, o2, o3⟩, ⟨r1, r2, r3, r4⟩, ⟨t1, t2, t3, t4⟩, ⟨l1, l2, l3, l4⟩, ⟨e1, e2, e3, e4⟩, ⟨x1, x2, x3, x4, x5, x6, x7⟩, ⟨k1, k2, k3, k4⟩, ⟨p1, p2, p3, p4⟩, ⟨a1, a2, a3, a4⟩, ⟨f1, f2, f3, f4⟩, hsh⟩ := H
  by_cases hi : z_hs i 11
  · obtain ⟨b, hb, rfl⟩ := z_hs_of hi
    rcases (by omega : b = 0 ∨ b = 1 ∨ b = 2 ∨ b = 3 ∨ b = 4 ∨ b = 5 ∨ b = 6 ∨ b = 7 ∨ b = 8 ∨ b = 9 ∨ b = 10) with e | e | e | e | e | e | e | e | e | e | e <;> subst e
    · exact ⟨nI (N 0), I, J, w, I, J, w, by rw [← o1]; exact x_count_0 E 97 I J w, by rw [← o2]; exact m_count_0 E 98 I J w, N, H0⟩
    · exact ⟨nI (N 1), I, J, w, I, J, w, by rw [← r1]; exact x_count_1 E 97 I J w, by rw [← r2]; exact m_count_1 E 98 I J w, N, H0⟩
    · exact ⟨nI (N 2), I, J, w, I, J, w, by rw [← t1]; exact x_count_2 E 97 I J w, by rw [← t2]; exact m_count_2 E 98 I J w, N, H0⟩
    · exact ⟨nI (N 3), I, J, w, I, J, w, by rw [← l1]; exact x_count_3 E 97 I J w, by rw [← l2]; exact m_count_3 E 98 I J w, N, H0⟩
    · exact ⟨nI (N 4), I, J, w, I, J, w, by rw [← e1]; exact x_count_4 E 97 I J w, by rw [← e2]; exact m_count_4 E 98 I J w, N, H0⟩
    · exact ⟨nI (N 5), I, J, w, I, J, w, by rw [← x1]; exact x_count_5 E 97 I J w, by rw [← x2]; exact m_count_5 E 98 I J w, N, H0⟩
    · exact ⟨nI (N 6), I, J, w, I, J, w, by rw [← k1]; exact x_count_6 E 97 I J w, by rw [← k2]; exact m_count_6 E 98 I J w, N, H0⟩
    · exact ⟨nI (N 7), I, J, w, I, J, w, by rw [← x4]; exact x_count_7 E 97 I J w, by rw [← x5]; exact m_count_7 E 98 I J w, N, H0⟩
    · exact ⟨nI (N 8), I, J, w, I, J, w, by rw [← p1]; exact x_count_8 E 97 I J w, by rw [← p2]; exact m_count_8 E 98 I J w, N, H0⟩
    · exact ⟨nI (N 9), I, J, w, I, J, w, by rw [← a1]; exact x_count_9 E 97 I J w, by rw [← a2]; exact m_count_9 E 98 I J w, N, H0⟩
    · exact ⟨nI (N 10), I, J, w, I, J, w, by rw [← f1]; exact x_count_10 E 97 I J w, by rw [← f2]; exact m_count_10 E 98 I J w, N, H0⟩
  · have hi' : i.toInt < 0 ∨ 10 < i.toInt := by unfold z_hs at hi; omega
    exact ⟨-2, I, J, w, I, J, w, x_count_bad E 97 I J w i hi', m_count_bad E 98 I J w i hi', N, H0⟩
theorem g_still (E : zE) (N : Nat → Nat) (I : Nat → Nat → Int32) (J : Nat → Nat → Int64) (w : Nat) (H : v_Inv N I J) (t : Int32) (h : Int32) : v_GoI E 153 235 [.int t, .int h] I J w := by
  have H0 := H
  obtain ⟨⟨o1, o2, o3⟩, ⟨r1, r2, r3, r4⟩, ⟨t1, t2, t3, t4⟩, ⟨l1, l2, l3, l4⟩, ⟨e1, e2, e3, e4⟩, ⟨x1, x2, x3, x4, x5, x6, x7⟩, ⟨k1, k2, k3, k4⟩, ⟨p1, p2, p3, p4⟩, ⟨a1, a2, a3, a4⟩, ⟨f1, f2, f3, f4⟩, hsh⟩ := H
  by_cases hc : z_hs t (N 2) ∧ z_hs h 10000
  · obtain ⟨a, ha, rfl⟩ := z_hs_of hc.1
    obtain ⟨b, hb, rfl⟩ := z_hs_of hc.2
    refine ⟨_, I, J, w, I, J, w, x_still_ok E 96 I J w a b (N 9) (N 2) a1 a3 t1 t3 ha hb, ?_, N, H0⟩
    rw [v_still H0]
    exact m_still_ok E 94 I J w a b (N 9) (N 2) a2 a3 t2 t3 ha hb
  ·
    refine ⟨(-2), I, J, w, I, J, w, x_still_bad E 96 I J w t h (fun q => hc ⟨(z_hsX t1 (by omega)).mp q.1, (z_hsK (m := 9999) (n := 9999) rfl (by decide)).mp q.2⟩), m_still_bad E 94 I J w t h (fun q => hc ⟨(z_hsM t2 (by omega)).mp q.1, (z_hsK (m := 9999) (n := 9999) rfl (by decide)).mp q.2⟩), N, H0⟩
theorem g_film (E : zE) (N : Nat → Nat) (I : Nat → Nat → Int32) (J : Nat → Nat → Int64) (w : Nat) (H : v_Inv N I J) (t : Int32) (s : Int32) (b : Int32) (i : Int32) : v_GoI E 155 239 [.int t, .int s, .int b, .int i] I J w := by
  have H0 := H
  obtain ⟨⟨o1, o2, o3⟩, ⟨r1, r2, r3, r4⟩, ⟨t1, t2, t3, t4⟩, ⟨l1, l2, l3, l4⟩, ⟨e1, e2, e3, e4⟩, ⟨x1, x2, x3, x4, x5, x6, x7⟩, ⟨k1, k2, k3, k4⟩, ⟨p1, p2, p3, p4⟩, ⟨a1, a2, a3, a4⟩, ⟨f1, f2, f3, f4⟩, hsh⟩ := H
  by_cases hc : z_hs t (N 2) ∧ z_hs s 16 ∧ (¬ b < 1 ∧ ¬ 16 < b) ∧ z_hs i 16
  · obtain ⟨a, ha, rfl⟩ := z_hs_of hc.1
    obtain ⟨s', hs, rfl⟩ := z_hs_of hc.2.1
    obtain ⟨b', hb1, hb2, rfl⟩ := z_1n (m := 16) rfl (by decide) hc.2.2.1
    obtain ⟨i', hi, rfl⟩ := z_hs_of hc.2.2.2
    obtain ⟨K, r, p, o, s, _, _, _, _, _, _, _, _, _, ⟨b5, c5⟩⟩ := v_thing H0 ha
    refine ⟨_, I, J, w, I, J, w, x_film_ok E 97 I J w a s' b' i' (N 2) t1 t3 ha hs (by omega) hb1 hi, ?_, N, H0⟩
    rw [b5, ← c5]
    exact m_film_ok E 96 I J w a s' b' i' (N 2) t2 t3 ha hs (by omega) hb1 hi
  ·
    refine ⟨(-2), I, J, w, I, J, w, x_film_bad E 97 I J w t s b i (fun q => hc ⟨(z_hsX t1 (by omega)).mp q.1, (z_hsX (m := 16) (n := 16) rfl (by decide)).mp ⟨q.2.1.2.2.1, q.2.1.2.2.2.1⟩, q.2.1.2.2.2.2, (z_hsX (m := 16) (n := 16) rfl (by decide)).mp q.2.2⟩), m_film_bad E 96 I J w t s b i (fun q => hc ⟨(z_hsM t2 (by omega)).mp q.1, (z_hsK (m := 15) (n := 15) rfl (by decide)).mp q.2.1.2.1, q.2.1.2.2, (z_hsK (m := 15) (n := 15) rfl (by decide)).mp q.2.2⟩), N, H0⟩
theorem g_stripes (E : zE) (N : Nat → Nat) (I : Nat → Nat → Int32) (J : Nat → Nat → Int64) (w : Nat) (H : v_Inv N I J) (t : Int32) (n : Int32) (s : Int32) (b : Int32) : v_GoI E 156 241 [.int t, .int n, .int s, .int b] I J w := by
  have H0 := H
  obtain ⟨⟨o1, o2, o3⟩, ⟨r1, r2, r3, r4⟩, ⟨t1, t2, t3, t4⟩, ⟨l1, l2, l3, l4⟩, ⟨e1, e2, e3, e4⟩, ⟨x1, x2, x3, x4, x5, x6, x7⟩, ⟨k1, k2, k3, k4⟩, ⟨p1, p2, p3, p4⟩, ⟨a1, a2, a3, a4⟩, ⟨f1, f2, f3, f4⟩, hsh⟩ := H
  by_cases hc : z_hs t (N 2) ∧ (¬ n < 1 ∧ ¬ 16 < n) ∧ z_hs s 16 ∧ (¬ b < 1 ∧ ¬ 16 < b)
  · obtain ⟨a, ha, rfl⟩ := z_hs_of hc.1
    obtain ⟨n', hn1, hn2, rfl⟩ := z_1n (m := 16) rfl (by decide) hc.2.1
    obtain ⟨s', hs, rfl⟩ := z_hs_of hc.2.2.1
    obtain ⟨b', hb1, hb2, rfl⟩ := z_1n (m := 16) rfl (by decide) hc.2.2.2
    refine ⟨_, I, J, w, I, J, w, x_stripes_ok E 96 I J w a n' s' b' (N 2) t1 t3 ha hs (by omega) (by omega) hn1 hb1, ?_, N, H0⟩
    rw [v_steps H0 ha hn1 hb2]
    exact m_stripes_ok E 96 I J w a n' s' b' (N 2) t2 t3 ha hs (by omega) (by omega) hn1 hb1
  ·
    refine ⟨(-2), I, J, w, I, J, w, x_stripes_bad E 96 I J w t n s b (fun q => hc ⟨(z_hsX t1 (by omega)).mp q.1, ⟨q.2.1, q.2.2.1⟩, (z_hsX (m := 16) (n := 16) rfl (by decide)).mp ⟨q.2.2.2.1, q.2.2.2.2.1⟩, q.2.2.2.2.2⟩), m_stripes_bad E 96 I J w t n s b (fun q => hc ⟨(z_hsM t2 (by omega)).mp q.1, q.2.1, (z_hsK (m := 15) (n := 15) rfl (by decide)).mp q.2.2.1, q.2.2.2⟩), N, H0⟩
theorem g_quietest (E : zE) (N : Nat → Nat) (I : Nat → Nat → Int32) (J : Nat → Nat → Int64) (w : Nat) (H : v_Inv N I J) (x : Int32) (n : Int32) (s : Int32) (b : Int32) : v_GoI E 157 242 [.int x, .int n, .int s, .int b] I J w := by
  have H0 := H
  obtain ⟨⟨o1, o2, o3⟩, ⟨r1, r2, r3, r4⟩, ⟨t1, t2, t3, t4⟩, ⟨l1, l2, l3, l4⟩, ⟨e1, e2, e3, e4⟩, ⟨x1, x2, x3, x4, x5, x6, x7⟩, ⟨k1, k2, k3, k4⟩, ⟨p1, p2, p3, p4⟩, ⟨a1, a2, a3, a4⟩, ⟨f1, f2, f3, f4⟩, hsh⟩ := H
  by_cases hc : (∃ y, y < 2 ^ N 2 ∧ x = nI y ∧ y ≠ 0) ∧ (¬ n < 1 ∧ ¬ 16 < n) ∧ z_hs s 16 ∧ (¬ b < 1 ∧ ¬ 16 < b)
  · obtain ⟨n', hn1, hn2, rfl⟩ := z_1n (m := 16) rfl (by decide) hc.2.1
    obtain ⟨s', hs, rfl⟩ := z_hs_of hc.2.2.1
    obtain ⟨b', hb1, hb2, rfl⟩ := z_1n (m := 16) rfl (by decide) hc.2.2.2
    refine ⟨_, I, J, w, I, J, w, x_quietest_ok E 95 I J w x n' s' b' (N 2) t1 t3 hs (by omega) (by omega) hn1 hb1 (by rw [t1]; exact (z_someX t3).mpr hc.1), ?_, N, H0⟩
    rw [s_least_congr (fun k hk => v_steps H0 hk hn1 hb2) (N 2) (Nat.le_refl _)]
    exact m_quietest_ok E 96 I J w x n' s' b' (N 2) t2 t3 hs (by omega) (by omega) hn1 hb1 (by rw [t2]; exact (z_someM t3).mpr hc.1)
  ·
    refine ⟨(-2), I, J, w, I, J, w, x_quietest_bad E 95 I J w x n s b (fun q => hc ⟨(z_someX t3).mp (by rw [← t1]; exact q.1), ⟨q.2.1, q.2.2.1⟩, (z_hsX (m := 16) (n := 16) rfl (by decide)).mp ⟨q.2.2.2.1, q.2.2.2.2.1⟩, q.2.2.2.2.2⟩), m_quietest_bad E 96 I J w x n s b (fun q => hc ⟨(z_someM t3).mp (by rw [← t2]; exact q.1), q.2.1, (z_hsK (m := 15) (n := 15) rfl (by decide)).mp q.2.2.1, q.2.2.2⟩), N, H0⟩
theorem g_reads (E : zE) (N : Nat → Nat) (I : Nat → Nat → Int32) (J : Nat → Nat → Int64) (w : Nat) (H : v_Inv N I J) (e : Int32) : v_GoI E 150 230 [.int e] I J w := by
  have H0 := H
  obtain ⟨⟨o1, o2, o3⟩, ⟨r1, r2, r3, r4⟩, ⟨t1, t2, t3, t4⟩, ⟨l1, l2, l3, l4⟩, ⟨e1, e2, e3, e4⟩, ⟨x1, x2, x3, x4, x5, x6, x7⟩, ⟨k1, k2, k3, k4⟩, ⟨p1, p2, p3, p4⟩, ⟨a1, a2, a3, a4⟩, ⟨f1, f2, f3, f4⟩, hsh⟩ := H
  by_cases hc : z_hs e (N 4)
  · obtain ⟨y, hy, rfl⟩ := z_hs_of hc
    obtain ⟨q, r, q3, q1, q2, qr, qm, qn⟩ := v_eye_r H0 hy
    obtain ⟨f, g, g1, g2, g3⟩ := v_plates_f H0
    refine ⟨_, I, J, w, I, J, w, x_reads_ok E 94 I J w y (N 8) q (N 4) r f g p1 p3 q1 q3 qr g1 e1 e3 hy, ?_, N, H0⟩
    rw [s_rb_congr (fun k hk => decide_eq_decide.mpr (v_sameA H0 (g3 k hk).1 (g3 k hk).2 qn))]
    exact m_reads_ok E 95 I J w y (N 8) q (N 4) r f g p2 p3 q2 q3 qm g2 e2 e3 hy
  ·
    refine ⟨(-2), I, J, w, I, J, w, x_reads_bad E 94 I J w e (fun q => hc ((z_hsX e1 (by omega)).mp q)), m_reads_bad E 95 I J w e (fun q => hc ((z_hsM e2 (by omega)).mp q)), N, H0⟩
theorem g_taken (E : zE) (N : Nat → Nat) (I : Nat → Nat → Int32) (J : Nat → Nat → Int64) (w : Nat) (H : v_Inv N I J) (t : Int32) (u : Int32) : v_GoI E 165 252 [.int t, .int u] I J w := by
  have H0 := H
  obtain ⟨⟨o1, o2, o3⟩, ⟨r1, r2, r3, r4⟩, ⟨t1, t2, t3, t4⟩, ⟨l1, l2, l3, l4⟩, ⟨e1, e2, e3, e4⟩, ⟨x1, x2, x3, x4, x5, x6, x7⟩, ⟨k1, k2, k3, k4⟩, ⟨p1, p2, p3, p4⟩, ⟨a1, a2, a3, a4⟩, ⟨f1, f2, f3, f4⟩, hsh⟩ := H
  by_cases hu : z_hs u 6
  · obtain ⟨b, hb, rfl⟩ := z_hs_of hu
    by_cases hc : z_hs t (N 2)
    · obtain ⟨a, ha, rfl⟩ := z_hs_of hc
      obtain ⟨K, r, p, o, s, q6, _, _, _, _, ⟨b1, c1⟩, _, ⟨b3, c3⟩, _⟩ := v_thing H0 ha
      rcases (by omega : K = 0 ∨ K = 1 ∨ K = 2 ∨ K = 3 ∨ K = 4 ∨ K = 5) with e | e | e | e | e | e <;> subst e
      · exact ⟨_, I, J, w, I, J, w, x_taken_0 E 96 I J w a b (N 2) t1 t3 ha hb b1, by rw [b3, ← c3]; exact m_taken_0 E 96 I J w a b (N 2) t2 t3 ha hb c1, N, H0⟩
      · exact ⟨_, I, J, w, I, J, w, x_taken_1 E 96 I J w a b (N 2) t1 t3 ha hb b1, by rw [b3, ← c3]; exact m_taken_1 E 96 I J w a b (N 2) t2 t3 ha hb c1, N, H0⟩
      · exact ⟨_, I, J, w, I, J, w, x_taken_2 E 96 I J w a b (N 2) t1 t3 ha hb b1, by rw [b3, ← c3]; exact m_taken_2 E 96 I J w a b (N 2) t2 t3 ha hb c1, N, H0⟩
      · exact ⟨_, I, J, w, I, J, w, x_taken_3 E 96 I J w a b (N 2) t1 t3 ha hb b1, by rw [b3, ← c3]; exact m_taken_3 E 96 I J w a b (N 2) t2 t3 ha hb c1, N, H0⟩
      · exact ⟨_, I, J, w, I, J, w, x_taken_4 E 96 I J w a b (N 2) t1 t3 ha hb b1, by rw [b3, ← c3]; exact m_taken_4 E 96 I J w a b (N 2) t2 t3 ha hb c1, N, H0⟩
      · exact ⟨_, I, J, w, I, J, w, x_taken_5 E 96 I J w a b (N 2) t1 t3 ha hb b1, by rw [b3, ← c3]; exact m_taken_5 E 96 I J w a b (N 2) t2 t3 ha hb c1, N, H0⟩
    · exact ⟨-11, I, J, w, I, J, w, x_taken_badB E 96 I J w t b hb (fun q => hc ((z_hsX t1 (by omega)).mp q)), m_taken_badB E 96 I J w t b hb (fun q => hc ((z_hsM t2 (by omega)).mp q)), N, H0⟩
  · exact ⟨-2, I, J, w, I, J, w, x_taken_badA E 96 I J w t u (fun q => hu ((z_hsX (m := 6) (n := 6) rfl (by decide)).mp q)), m_taken_badA E 96 I J w t u (fun q => hu ((z_hsK (m := 5) (n := 5) rfl (by decide)).mp q)), N, H0⟩
