-- PAIRS: shine, rowOf
theorem z_ndiv {x m : Nat} (hx : x < 2 ^ 30) (h0 : 0 < m) (hm : m < 2 ^ 30) : -nI x / nI m = -nI (x / m) := by
  obtain ⟨y, hy⟩ : ∃ y, y = x / m := ⟨_, rfl⟩
  have hd : y ≤ x := by rw [hy]; exact Nat.div_le_self x m
  rw [← hy]
  have e1 : (-nI x).toInt = -(x : Int) := by rw [Int32.toInt_neg, nI_toInt (by omega), Int.bmod_eq_of_le (by omega) (by omega)]
  have e2 : (-nI y).toInt = -(y : Int) := by rw [Int32.toInt_neg, nI_toInt (by omega), Int.bmod_eq_of_le (by omega) (by omega)]
  apply Int32.toInt_inj.1
  rw [Int32.toInt_div, e1, e2, nI_toInt (by omega), Int.neg_tdiv, Int.tdiv_eq_ediv_of_nonneg (by omega), ← Int.natCast_ediv, ← hy, Int.bmod_eq_of_le (by omega) (by omega)]
theorem s_mid {a b B C h : Nat} (ha : a ≤ 100) (hb : b ≤ 100) (h1 : B < h) (h2 : h ≤ C) (hC : C ≤ 9999) : ∃ p, p ≤ 100 ∧ nI a + (nI b - nI a) * (nI h - nI B) / (nI C - nI B) = nI p := by
  rw [z_sub (show B ≤ h by omega), z_sub (show B ≤ C by omega)]
  by_cases q : a ≤ b
  · have m : (b - a) * (h - B) ≤ (C - B) * (b - a) := by rw [Nat.mul_comm (C - B)]; exact Nat.mul_le_mul_left _ (by omega)
    have m2 : (b - a) * (h - B) ≤ 100 * 9999 := Nat.mul_le_mul (by omega) (by omega)
    have d : (b - a) * (h - B) / (C - B) ≤ b - a := Nat.div_le_of_le_mul m
    refine ⟨a + (b - a) * (h - B) / (C - B), by omega, ?_⟩
    rw [z_sub q, z_mul, z_divE rfl (by omega) (by omega) (by omega), nI_add]
  · have m : (a - b) * (h - B) ≤ (C - B) * (a - b) := by rw [Nat.mul_comm (C - B)]; exact Nat.mul_le_mul_left _ (by omega)
    have m2 : (a - b) * (h - B) ≤ 100 * 9999 := Nat.mul_le_mul (by omega) (by omega)
    have d : (a - b) * (h - B) / (C - B) ≤ a - b := Nat.div_le_of_le_mul m
    have hp : a - (a - b) * (h - B) / (C - B) ≤ 100 := Nat.le_trans (Nat.sub_le _ _) ha
    have hz : (a - b) * (h - B) / (C - B) ≤ a := Nat.le_trans d (Nat.sub_le _ _)
    refine ⟨a - (a - b) * (h - B) / (C - B), hp, ?_⟩
    have e : nI b - nI a = -nI (a - b) := by
      rw [← z_sub (show b ≤ a by omega), Int32.neg_sub]
    rw [e, Int32.neg_mul, z_mul, z_ndiv (by omega) (by omega) (by omega), ← Int32.sub_eq_add_neg, z_sub hz]
theorem s_anM_le {T H Q : Nat → Int32} {t : Int32} {n hh : Nat} (hn : n < 2 ^ 31) (hH : ∀ j, j < n → ∃ v, v ≤ 9999 ∧ H j = nI v) (hP : ∀ j, j < n → ∃ v, v ≤ 100 ∧ Q j = nI v) (h9 : hh ≤ 9999) : ∃ p, p ≤ 100 ∧ s_anM H Q (nI hh) (s_SM T H t (nI hh) n) = nI p := by
  obtain ⟨o1, o2⟩ := s_okM T H t (nI hh) n
  unfold s_anM
  by_cases a : (s_SM T H t (nI hh) n).1 < 0
  · rw [if_pos a]
    by_cases b : (s_SM T H t (nI hh) n).2 < 0
    · rw [if_pos b]; exact ⟨100, Nat.le_refl _, rfl⟩
    · rw [if_neg b]
      rcases o2 with q | ⟨j, j1, j2, _⟩
      · exact absurd (by rw [q]; decide) b
      · rw [j2, nI_clamp (by omega)]; exact hP j j1
  · rw [if_neg a]
    rcases o1 with q | ⟨i, i1, i2, i3, i4⟩
    · exact absurd (by rw [q]; decide) a
    · rw [i2, nI_clamp (by omega)]
      by_cases b : (s_SM T H t (nI hh) n).2 < 0
      · rw [if_pos b]; exact hP i i1
      · rw [if_neg b]
        by_cases c : H i = nI hh
        · rw [if_pos c]; exact hP i i1
        · rw [if_neg c]
          rcases o2 with q | ⟨j, j1, j2, j3, j4⟩
          · exact absurd (by rw [q]; decide) b
          · rw [j2, nI_clamp (by omega)]
            obtain ⟨B, B1, B2⟩ := hH i i1
            obtain ⟨C, C1, C2⟩ := hH j j1
            obtain ⟨x, x1, x2⟩ := hP i i1
            obtain ⟨y, y1, y2⟩ := hP j j1
            rw [B2] at i4 c
            rw [C2] at j4
            rw [B2, C2, x2, y2]
            have k1 := mt (z_ltN (a := hh) (b := B) rfl rfl (by omega) (by omega)).mpr i4
            have k2 := mt (z_ltN (a := C) (b := hh) rfl rfl (by omega) (by omega)).mpr j4
            have k3 : ¬ B = hh := fun r => c (by rw [r])
            exact s_mid x1 y1 (by omega) (by omega) C1
def v_LN (I : Nat → Nat → Int32) (l c : Nat) : Nat := (I (45 + l) c).toNatClampNeg
def v_RN (I : Nat → Nat → Int32) (r c : Nat) : Nat := (I (3 + r) c).toNatClampNeg
theorem v_LN_eq {N : Nat → Nat} {I : Nat → Nat → Int32} {J : Nat → Nat → Int64} (H : v_Inv N I J) {l c : Nat} (hl : l < N 3) (hc : c < 8) : I (45 + l) c = nI (v_LN I l c) ∧ v_LN I l c ≤ 1000000000 ∧ I 134 (8 * l + c) = nI (v_LN I l c) := by
  obtain ⟨x, x1, x2, x3⟩ := v_light_x H hl c hc
  have e : v_LN I l c = x := z_natE x2 (by omega)
  rw [e]; exact ⟨x2, x1, x3⟩
theorem v_RN_eq {N : Nat → Nat} {I : Nat → Nat → Int32} {J : Nat → Nat → Int64} (H : v_Inv N I J) {r c : Nat} (hr : r < N 1) (hc : c < 8) : I (3 + r) c = nI (v_RN I r c) ∧ v_RN I r c ≤ 999 ∧ I 128 (8 * r + c) = nI (v_RN I r c) := by
  obtain ⟨x, x1, x2, x3⟩ := v_row_x H hr c hc
  have e : v_RN I r c = x := z_natE x2 (by omega)
  rw [e]; exact ⟨x2, x1, x3⟩
theorem z_pct {x p : Nat} (hx : x ≤ 1000000000) (hp : p ≤ 100) : ((nI x).toInt64 * Int64.ofNat p / 100).toInt32 = nI (x * p / 100) ∧ x * p / 100 ≤ 1000000000 := by
  have m : x * p ≤ 1000000000 * 100 := Nat.mul_le_mul hx hp
  refine ⟨?_, by omega⟩
  rw [z_i64 (by omega), ← Int64.ofNat_mul, show (100 : Int64) = Int64.ofNat 100 from rfl, z_dv64 (by omega) (by decide) (by decide), z_to32 (by omega)]
theorem m_turnQX {N : Nat → Nat} {I S : Nat → Nat → Int32} {J : Nat → Nat → Int64} {K r p l t : Nat} {X : Nat → Nat} (hX : X = fun c => s_tn K (v_LN I l) (v_RN I r) p c) (H : v_Inv N I J) (E : zE) (d : Nat) (w : Nat) (hl : l < N 3) (ht : t < N 2) (hf : N 3 < 20) (q1 : K < 6) (q2 : r < N 1) (q3 : p < 100) (c1 : I 129 t = nI K) (c2 : I 130 t = nI r) (c3 : I 131 t = nI p) (hS : ∀ a k, a ≠ 125 → a ≠ 45 + N 3 → ¬ (a = 43 ∧ k = 1) → S a k = I a k) : ∃ I3, z_cl E (d + 1) 189 [.ref 127, .int (nI l), .int (nI t), .int (nI (N 3))] (161, S, J, RF w) = some (none, 161, I3, J, RF w) ∧ (∀ c, c < 8 → I3 134 (8 * N 3 + c) = nI (X c)) ∧ ∀ x k, ¬ (x = 134 ∧ 8 * N 3 ≤ k ∧ k < 8 * N 3 + 8) → I3 x k = S x k := by
  have r3 : N 1 ≤ 30 := H.2.1.2.2.1
  have t3 : N 2 ≤ 20 := H.2.2.1.2.2.1
  rw [hX]
  exact m_turnQ E d S J w l t (N 3) r K p (v_LN I l) (v_RN I r) (by omega) (by omega) (by omega) (by omega) ((hS _ _ (by omega) (by omega) (by omega)).trans c2) (by omega) ((hS _ _ (by omega) (by omega) (by omega)).trans c1) q1 ((hS _ _ (by omega) (by omega) (by omega)).trans c3) q3 (fun c hc => ⟨(hS _ _ (by omega) (by omega) (by omega)).trans (v_LN_eq H hl hc).2.2, (v_LN_eq H hl hc).2.1⟩) (fun c hc => ⟨(hS _ _ (by omega) (by omega) (by omega)).trans (v_RN_eq H q2 hc).2.2, (v_RN_eq H q2 hc).2.1⟩)
theorem g_shine (E : zE) (N : Nat → Nat) (I : Nat → Nat → Int32) (J : Nat → Nat → Int64) (w : Nat) (H : v_Inv N I J) (l : Int32) (t : Int32) (g : Int32) : v_GoI E 134 192 [.int l, .int t, .int g] I J w := by
  have H0 := H
  have H9 := H
  obtain ⟨⟨o1, o2, o3⟩, ⟨r1, r2, r3, r4⟩, ⟨t1, t2, t3, t4⟩, ⟨l1, l2, l3, l4⟩, ⟨e1, e2, e3, e4⟩, ⟨x1, x2, x3, x4, x5, x6, x7⟩, ⟨k1, k2, k3, k4⟩, ⟨p1, p2, p3, p4⟩, ⟨a1, a2, a3, a4⟩, ⟨f1, f2, f3, f4⟩, hsh⟩ := H
  obtain ⟨hK0, hK1, hK2, hK3, hK4, hK5, hK6, hK7, hK8, hK9, hK10⟩ := H0
  by_cases hc : z_hs l (N 3) ∧ z_hs t (N 2) ∧ z_hs g 2
  · obtain ⟨l', hl, rfl⟩ := z_hs_of hc.1
    obtain ⟨t', ht, rfl⟩ := z_hs_of hc.2.1
    obtain ⟨g', hg, rfl⟩ := z_hs_of hc.2.2
    by_cases hf : N 3 < 20
    · obtain ⟨K, r, p, o, s, q1, q2, q3, q4, q5, ⟨b1, c1⟩, ⟨b2, c2⟩, ⟨b3, c3⟩, ⟨b4, c4⟩, b5⟩ := v_thing H9 ht
      obtain ⟨X, hX⟩ : ∃ X, X = fun c => s_tn K (v_LN I l') (v_RN I r) p c := ⟨_, rfl⟩
      have Xle : ∀ c, X c ≤ 1000000000 := fun c => by rw [hX]; exact s_tn_le _ _ _ _ _
      have turnX : ∀ d, ∃ I1, z_cl E (d + 4) 120 [.ref 37, .int (nI t'), .ref (45 + l'), .ref 125] (161, I, J, RF w) = some (none, 161, I1, J, RF w) ∧ (∀ c, c < 8 → I1 125 c = nI (X c)) ∧ ∀ x k, x ≠ 125 → I1 x k = I x k := fun d => by
        rw [hX]
        exact x_turnQ E d I J w t' (45 + l') 125 r K p (v_LN I l') (v_RN I r) (by omega) b2 (by omega) (z_A_lights l' (by omega)) z_A_125 (by decide) (by omega) b1 q1 b3 q3 (fun c hc => ⟨(v_LN_eq H9 hl hc).1, (v_LN_eq H9 hl hc).2.1⟩) (fun c hc => ⟨(v_RN_eq H9 q2 hc).1, (v_RN_eq H9 q2 hc).2.1⟩)
      -- the end, for what a light becomes
      have fin : ∀ (Y : Nat → Nat) (A B : Nat → Nat → Int32) (G : Nat → Int32), (∀ c, c < 8 → Y c ≤ 1000000000) → (∀ c, c < 8 → A 125 c = nI (Y c)) → (∀ x k, x ≠ 125 → A x k = I x k) → (∀ x k, ¬ (x = 134 ∧ 8 * N 3 ≤ k ∧ k < 8 * N 3 + 8) → B x k = z_u2 (z_ur A (45 + N 3) (va_cpy (A 125) (A (45 + N 3)) 0 0 8)) 43 1 (nI (N 3 + 1)) x k) → (∀ c, c < 8 → G c = nI (Y c)) → ∃ N', v_Inv N' (z_u2 (z_ur B 134 (z_fil (B 134) (8 * N 3) 8 G)) 127 9 (nI (N 3 + 1))) J := by
        intro Y A B G hY hA1 hA2 hB hG
        refine v_light_new H9 hf ?_ ?_ (fun c hc => ⟨Y c, hY c hc, ?_, ?_⟩) (fun a k y1 y2 y3 y4 y5 y6 => ?_)
        · rw [z_u2_n _ _ (by omega), z_ur_n _ _ (by omega), hB _ _ (by omega), z_u2_same]
        · rw [z_u2_same]
        · rw [z_u2_n _ _ (by omega), z_ur_n _ _ (by omega), hB _ _ (by omega), z_u2_n _ _ (by omega), z_ur_same, v_cpy_in hc]; exact hA1 c hc
        · rw [z_u2_n _ _ (by omega), z_ur_same, z_fil_in (by omega), show 8 * N 3 + c - 8 * N 3 = c by omega]; exact hG c hc
        · rw [z_u2_n _ _ y5]
          have t9 : B a k = I a k := by rw [hB _ _ y6, z_u2_n _ _ y4, z_ur_n _ _ y3]; exact hA2 a k y1
          by_cases ea : a = 134
          · subst ea; rw [z_ur_same, z_fil_ge (by omega)]; exact t9
          · rw [z_ur_n _ _ ea]; exact t9
      have hS : ∀ A : Nat → Nat → Int32, (∀ x k, x ≠ 125 → A x k = I x k) → ∀ a k, a ≠ 125 → a ≠ 45 + N 3 → ¬ (a = 43 ∧ k = 1) → z_u2 (z_ur A (45 + N 3) (va_cpy (A 125) (A (45 + N 3)) 0 0 8)) 43 1 (nI (N 3 + 1)) a k = I a k := fun A hA a k y1 y2 y3 => by
        rw [z_u2_n _ _ y3, z_ur_n _ _ y2]; exact hA a k y1
      obtain ⟨I1, u1, u2, u3⟩ := turnX 94
      rcases (by omega : g' = 0 ∨ g' = 1) with e | e <;> subst e
      · -- not aged
        have sx := hS I1 u3
        obtain ⟨S1, eS⟩ : ∃ S, S = z_u2 (z_ur I1 (45 + N 3) (va_cpy (I1 125) (I1 (45 + N 3)) 0 0 8)) 43 1 (nI (N 3 + 1)) := ⟨_, rfl⟩
        have cx := z_call (E := E) (d := 98) (M := z_m134) (mid := 134) (as := [.ref 0, .int (nI l'), .int (nI t'), .int 0]) (z := 161) (σ := (I, J, RF w)) rfl rfl (x_sh0 E 93 I J w l' t' (N 3) (N 2) I1 l1 hf t1 t3 hl ht u1 ((u3 _ _ (by decide)).trans l1))
        rw [← eS] at cx sx
        have n9 : S1 127 9 = nI (N 3) := (sx _ _ (by omega) (by omega) (by omega)).trans l2
        obtain ⟨I3, w1, w2, w3⟩ := m_turnQX hX H9 E 97 w hl ht hf q1 q2 q3 c1 c2 c3 sx
        have cm := z_call (E := E) (d := 98) (M := z_m192) (mid := 192) (as := [.ref 127, .int (nI l'), .int (nI t'), .int 0]) (z := 161) (σ := (S1, J, RF w)) rfl rfl (m_sh0 E 94 S1 J w l' t' (N 3) (N 2) I3 n9 hf ((sx _ _ (by omega) (by omega) (by omega)).trans t2) t3 hl ht (by rw [n9]; exact w1) ((w3 _ _ (by omega)).trans n9))
        refine ⟨nI (N 3), S1, J, w, _, J, w, cx, cm, fin X I1 I3 _ (fun c _ => Xle c) u2 u3 (fun x k y => by rw [w3 x k y, eS]) (fun c hc => ?_)⟩
        rw [w2 c hc]
        have t := (z_pct (Xle c) (Nat.le_refl 100)).1
        rw [Nat.mul_div_cancel _ (by decide)] at t
        exact t
      · -- aged
        have ew := x_wear E 93 I1 J w t' (N 9) (I1 0 13) ((u3 _ _ (by decide)).trans a1) a3 (by omega)
        obtain ⟨z, z1, z2⟩ := s_anM_le (T := I 152) (H := I 153) (Q := I 154) (t := nI t') (n := N 9) (hh := N 0 - o) (by omega) (fun j hj => by obtain ⟨_, v, _, _, v1, _, _, v2, _⟩ := a4 j hj; exact ⟨v, v1, v2.2⟩) (fun j hj => by obtain ⟨_, _, v, _, _, v1, _, _, v2⟩ := a4 j hj; exact ⟨v, v1, v2.2⟩) (by omega)
        have row : ∀ x, x ≠ 125 → I1 x = I x := fun x hx => by funext k; exact u3 x k hx
        have hh : nI (N 0) - nI o = nI (N 0 - o) := z_sub q4
        rw [row 34 (by decide), row 35 (by decide), row 36 (by decide), row 41 (by decide), row 0 (by decide), o1, b4, hh, v_still H9, z2] at ew
        obtain ⟨I2, eI2⟩ : ∃ S, S = z_ur I1 125 (z_fil (I1 125) 0 8 (fun c => ((I1 125 c).toInt64 * (nI z).toInt64 / 100).toInt32)) := ⟨_, rfl⟩
        rw [← eI2] at ew
        have v2 : ∀ c, c < 8 → I2 125 c = nI (X c * z / 100) := fun c hc => by
          rw [eI2, z_ur_same, z_fil_in0 hc, u2 c hc, z_i64 (v := z) (by omega)]
          exact (z_pct (Xle c) z1).1
        have v3 : ∀ x k, x ≠ 125 → I2 x k = I x k := fun x k hx => by rw [eI2, z_ur_n _ _ hx]; exact u3 x k hx
        have sx := hS I2 v3
        obtain ⟨S1, eS⟩ : ∃ S, S = z_u2 (z_ur I2 (45 + N 3) (va_cpy (I2 125) (I2 (45 + N 3)) 0 0 8)) 43 1 (nI (N 3 + 1)) := ⟨_, rfl⟩
        have cx := z_call (E := E) (d := 98) (M := z_m134) (mid := 134) (as := [.ref 0, .int (nI l'), .int (nI t'), .int 1]) (z := 161) (σ := (I, J, RF w)) rfl rfl (x_sh1 E 93 I J w l' t' (N 3) (N 2) I1 I2 l1 hf t1 t3 hl ht u1 (by rw [row 0 (by decide), o1]; exact ew) ((v3 _ _ (by decide)).trans l1))
        rw [← eS] at cx sx
        have n9 : S1 127 9 = nI (N 3) := (sx _ _ (by omega) (by omega) (by omega)).trans l2
        obtain ⟨I3, w1, w2, w3⟩ := m_turnQX hX H9 E 97 w hl ht hf q1 q2 q3 c1 c2 c3 sx
        have sm : ∀ x k, x ≠ 134 → x ≠ 125 → x ≠ 45 + N 3 → ¬ (x = 43 ∧ k = 1) → I3 x k = I x k := fun x k y1 y2 y3 y4 => (w3 _ _ (by omega)).trans (sx _ _ y2 y3 y4)
        have es := m_stillAt E 97 I3 J w t' (N 9) (I3 127 0 - I3 132 t') ((sm _ _ (by omega) (by omega) (by omega) (by omega)).trans a2) a3 (by omega)
        have row3 : ∀ x, 152 ≤ x → I3 x = I x := fun x hx => by funext k; exact sm x k (by omega) (by omega) (by omega) (by omega)
        rw [row3 152 (by decide), row3 153 (by decide), row3 154 (by decide), sm 127 0 (by decide) (by decide) (by omega) (by omega), sm 132 t' (by decide) (by decide) (by omega) (by omega), o2, c4, hh, z2] at es
        have cm := z_call (E := E) (d := 98) (M := z_m192) (mid := 192) (as := [.ref 127, .int (nI l'), .int (nI t'), .int 1]) (z := 161) (σ := (S1, J, RF w)) rfl rfl (m_sh1 E 94 S1 J w l' t' (N 3) (N 2) I3 (nI z) n9 hf ((sx _ _ (by omega) (by omega) (by omega)).trans t2) t3 hl ht (by rw [n9]; exact w1) ((w3 _ _ (by omega)).trans n9) (by rw [sm 127 0 (by decide) (by decide) (by omega) (by omega), sm 132 t' (by decide) (by decide) (by omega) (by omega), o2, c4, hh]; exact es))
        refine ⟨nI (N 3), S1, J, w, _, J, w, cx, cm, fin (fun c => X c * z / 100) I2 I3 _ (fun c _ => (z_pct (Xle c) z1).2) v2 v3 (fun x k y => by rw [w3 x k y, eS]) (fun c hc => ?_)⟩
        rw [w2 c hc, z_i64 (v := z) (by omega)]
        exact (z_pct (Xle c) z1).1
    · exact ⟨-4, I, J, w, I, J, w, x_shine_full E 93 I J w l' t' g' (N 3) (N 2) l1 l3 t1 t3 hl ht hg (by omega), m_shine_full E 94 I J w l' t' g' (N 3) (N 2) l2 l3 t2 t3 hl ht hg (by omega), N, H9⟩
  · exact ⟨(-2), I, J, w, I, J, w, x_shine_bad E 93 I J w l t g (fun q => hc ⟨(z_hsX l1 (by omega)).mp q.1, (z_hsX t1 (by omega)).mp q.2.1, (z_hsK (m := 1) (n := 1) rfl (by decide)).mp ⟨q.2.2.1, q.2.2.2⟩⟩), m_shine_bad E 94 I J w l t g (fun q => hc ⟨(z_hsM l2 (by omega)).mp q.1, (z_hsM t2 (by omega)).mp q.2.1, (z_hsK (m := 1) (n := 1) rfl (by decide)).mp q.2.2⟩), N, H9⟩
