-- PAIRS: feed, text
theorem z_b255 (x : Int64) : ∃ b, b < 256 ∧ x.toInt32 &&& 255 = nI b ∧ (x &&& 255).toInt32 = nI b := by
  refine ⟨x.toBitVec.toNat % 256, Nat.mod_lt _ (by decide), ?_, ?_⟩
  · apply Int32.toBitVec_inj.1
    apply BitVec.eq_of_toNat_eq
    show (BitVec.signExtend 32 x.toBitVec &&& 255#32).toNat = (BitVec.ofNat 32 (x.toBitVec.toNat % 256)).toNat
    rw [BitVec.signExtend_eq_setWidth_of_le _ (by decide), BitVec.toNat_and, BitVec.toNat_setWidth, BitVec.toNat_ofNat, BitVec.toNat_ofNat, show 255 % 2 ^ 32 = 2 ^ 8 - 1 from rfl, Nat.and_two_pow_sub_one_eq_mod]
    omega
  · apply Int32.toBitVec_inj.1
    apply BitVec.eq_of_toNat_eq
    show (BitVec.signExtend 32 (x.toBitVec &&& 255#64)).toNat = (BitVec.ofNat 32 (x.toBitVec.toNat % 256)).toNat
    rw [BitVec.signExtend_eq_setWidth_of_le _ (by decide), BitVec.toNat_setWidth, BitVec.toNat_and, BitVec.toNat_ofNat, BitVec.toNat_ofNat, show 255 % 2 ^ 64 = 2 ^ 8 - 1 from rfl, Nat.and_two_pow_sub_one_eq_mod]
    try omega
theorem g_feed (E : zE) (N : Nat → Nat) (I : Nat → Nat → Int32) (J : Nat → Nat → Int64) (w : Nat) (H : v_Inv N I J) (b : Int32) (v : Int64) : v_GoI E 141 201 [.int b, .long v] I J w := by
  have H0 := H
  have H9 := H
  obtain ⟨⟨o1, o2, o3⟩, ⟨r1, r2, r3, r4⟩, ⟨t1, t2, t3, t4⟩, ⟨l1, l2, l3, l4⟩, ⟨e1, e2, e3, e4⟩, ⟨x1, x2, x3, x4, x5, x6, x7⟩, ⟨k1, k2, k3, k4⟩, ⟨p1, p2, p3, p4⟩, ⟨a1, a2, a3, a4⟩, ⟨f1, f2, f3, f4⟩, hsh⟩ := H
  obtain ⟨hK0, hK1, hK2, hK3, hK4, hK5, hK6, hK7, hK8, hK9, hK10⟩ := H0
  by_cases hc : ¬ b < 1 ∧ ¬ 8 < b
  · obtain ⟨b', b1, b2, rfl⟩ := z_1n (m := 8) rfl (by decide) hc
    by_cases hf : N 6 + b' ≤ 160
    · refine ⟨nI (N 6 + b'), _, J, w, _, J, w, x_feed_ok E 97 I J w b' (N 6) v k1 k3 b1 b2 hf, m_feed_ok E 97 _ J w b' (N 6) v k2 k3 b1 b2 hf, (fun i => if i = 6 then N 6 + b' else N i), ?_⟩
      exact ⟨v_hour_eq hK0 (fun a k q => by unfold p_hour at q; rw [z_u2_n _ _ (by omega), z_ur_n _ _ (by omega), z_u2_n _ _ (by omega), z_ur_n _ _ (by omega)]), v_rows_eq hK1 (fun a k q => by unfold p_rows at q; rw [z_u2_n _ _ (by omega), z_ur_n _ _ (by omega), z_u2_n _ _ (by omega), z_ur_n _ _ (by omega)]), v_things_eq hK2 (Nat.le_refl _) (Nat.le_refl _) (fun a k q => by unfold p_things at q; rw [z_u2_n _ _ (by omega), z_ur_n _ _ (by omega), z_u2_n _ _ (by omega), z_ur_n _ _ (by omega)]), v_lights_eq hK3 (fun a k q => by unfold p_lights at q; rw [z_u2_n _ _ (by omega), z_ur_n _ _ (by omega), z_u2_n _ _ (by omega), z_ur_n _ _ (by omega)]), v_eyes_eq hK4 (Nat.le_refl _) (fun a k q => by unfold p_eyes at q; rw [z_u2_n _ _ (by omega), z_ur_n _ _ (by omega), z_u2_n _ _ (by omega), z_ur_n _ _ (by omega)]), v_texts_eq hK5 (fun a k q => by unfold p_texts at q; rw [z_u2_n _ _ (by omega), z_ur_n _ _ (by omega), z_u2_n _ _ (by omega), z_ur_n _ _ (by omega)]), ⟨rfl, rfl, hf, fun j hj => by
        have hj : j < N 6 + b' := hj
        by_cases e : j < N 6
        · obtain ⟨x, x1, x2, x3⟩ := k4 j e
          refine ⟨x, x1, ?_, ?_⟩
          · rw [z_u2_n _ _ (by omega), z_ur_n _ _ (by omega), z_u2_n _ _ (by omega), z_ur_same, z_fil_ge (by omega)]; exact x2
          · rw [z_u2_n _ _ (by omega), z_ur_same, z_fil_ge (by omega), z_u2_n _ _ (by omega), z_ur_n _ _ (by omega)]; exact x3
        · obtain ⟨x, x1, x2, x3⟩ := z_b255 (v >>> ((8 * nI (j - N 6)).toInt64 &&& 63))
          refine ⟨x, x1, ?_, ?_⟩
          · rw [z_u2_n _ _ (by omega), z_ur_n _ _ (by omega), z_u2_n _ _ (by omega), z_ur_same, z_fil_in (by omega)]; exact x2
          · rw [z_u2_n _ _ (by omega), z_ur_same, z_fil_in (by omega)]; exact x3⟩, v_plates_eq hK7 (Nat.le_refl _) (fun a k q => by unfold p_plates at q; rw [z_u2_n _ _ (by omega), z_ur_n _ _ (by omega), z_u2_n _ _ (by omega), z_ur_n _ _ (by omega)]), v_ages_eq hK8 (fun a k q => by unfold p_ages at q; rw [z_u2_n _ _ (by omega), z_ur_n _ _ (by omega), z_u2_n _ _ (by omega), z_ur_n _ _ (by omega)]), v_filters_eq hK9 (Nat.le_refl _) (fun k _ => by rw [z_u2_n _ _ (by omega), z_ur_n _ _ (by omega), z_u2_n _ _ (by omega), z_ur_n _ _ (by omega)]) (fun a k q => by unfold p_filters at q; rw [z_u2_n _ _ (by omega), z_ur_n _ _ (by omega), z_u2_n _ _ (by omega), z_ur_n _ _ (by omega)]) (fun _ _ _ => rfl), v_sheets_eq hK10 (fun a k q => by unfold p_sheets at q; rw [z_u2_n _ _ (by omega), z_ur_n _ _ (by omega), z_u2_n _ _ (by omega), z_ur_n _ _ (by omega)])⟩
    · exact ⟨-4, I, J, w, I, J, w, x_feed_full E 97 I J w b' (N 6) v k1 k3 b1 b2 (by omega), m_feed_full E 97 I J w b' (N 6) v k2 k3 b1 b2 (by omega), N, H9⟩
  · exact ⟨(-2), I, J, w, I, J, w, x_feed_bad E 97 I J w b v (fun q => hc q), m_feed_bad E 97 I J w b v (fun q => hc q), N, H9⟩
theorem g_text (E : zE) (N : Nat → Nat) (I : Nat → Nat → Int32) (J : Nat → Nat → Int64) (w : Nat) (H : v_Inv N I J) : v_GoI E 142 215 [] I J w := by
  have H0 := H
  have H9 := H
  obtain ⟨⟨o1, o2, o3⟩, ⟨r1, r2, r3, r4⟩, ⟨t1, t2, t3, t4⟩, ⟨l1, l2, l3, l4⟩, ⟨e1, e2, e3, e4⟩, ⟨x1, x2, x3, x4, x5, x6, x7⟩, ⟨k1, k2, k3, k4⟩, ⟨p1, p2, p3, p4⟩, ⟨a1, a2, a3, a4⟩, ⟨f1, f2, f3, f4⟩, hsh⟩ := H
  obtain ⟨hK0, hK1, hK2, hK3, hK4, hK5, hK6, hK7, hK8, hK9, hK10⟩ := H0
  by_cases hf : N 5 < 6
  · -- the bytes
    have bk : ∀ k, k < N 6 → I 77 k = nI (I 77 k).toNatClampNeg ∧ I 137 k = nI (I 77 k).toNatClampNeg ∧ (I 77 k).toNatClampNeg < 256 := fun k hk => by
      obtain ⟨x, x1, x2, x3⟩ := k4 k hk
      rw [z_natE x2 (by omega)]
      exact ⟨x2, x3, x1⟩
    obtain ⟨b, hb⟩ : ∃ b : Nat → Nat, b = fun k => (I 77 k).toNatClampNeg := ⟨_, rfl⟩
    have bX : ∀ k, k < N 6 → I 77 k = nI (b k) ∧ b k < 256 := fun k hk => by rw [hb]; exact ⟨(bk k hk).1, (bk k hk).2.2⟩
    have bM : ∀ k, k < N 6 → I 137 k = nI (b k) ∧ b k < 256 := fun k hk => by rw [hb]; exact ⟨(bk k hk).2.1, (bk k hk).2.2⟩
    obtain ⟨r, er, I1, s1, q1⟩ := x_readQ E 53 I J w b (N 6) k1 k3 bX
    have n6 : N 5 = N 5 := rfl
    cases hR : s_read b (N 6) with
    | inl p =>
      rw [hR] at q1
      obtain ⟨rfl, q2, q3⟩ := q1
      have cx := z_call (E := E) (d := 98) (M := z_m142) (mid := 142) (as := [.ref 0]) (z := 161) (σ := (I, J, RF w)) rfl rfl (x_text_bad E 53 I J w (N 5) I1 x1 hf er)
      obtain ⟨A, eA⟩ : ∃ A, A = z_u2 I1 76 1 0 := ⟨_, rfl⟩
      rw [← eA] at cx
      have fA : ∀ a k, a ≠ 76 → a ≠ 78 → A a k = I a k := fun a k y1 y2 => by rw [eA, z_u2_n _ _ (by omega)]; exact s1 a k (by omega)
      obtain ⟨I2, x, e2, s2, g2⟩ := m_readTapeQ E 92 (I := A) (b := b) (n := N 6) J w ((fA _ _ (by decide) (by decide)).trans k2) k3 (fun k hk => ⟨(fA _ _ (by decide) (by decide)).trans (bM k hk).1, (bM k hk).2⟩) (s_read_bad k3 hR (A 141))
      obtain ⟨g3, g4⟩ := g2
      have st : s_st b (N 6) p ≤ N 6 := s_rn_le (s_bl b) (n := N 6) (p := p) g3
      have cm := z_call (E := E) (d := 98) (M := z_m215) (mid := 215) (as := [.ref 127]) (z := 161) (σ := (A, J, RF w)) rfl rfl (m_text_bad E 92 A J w (N 5) x I2 ((fA _ _ (by decide) (by decide)).trans x2) hf e2 (by rw [g4]; exact mt (z_ltN (b := 0) rfl rfl (by omega) (by decide)).mp (by omega)))
      rw [q2] at cx
      rw [g4] at cm
      refine ⟨_, A, J, w, _, J, w, cx, cm, (fun i => if i = 6 then 0 else N i), ?_⟩
      have fB : ∀ a k, a ≠ 76 → a ≠ 78 → ¬ s_scT a k → ¬ (a = 127 ∧ k = 15) → z_u2 I2 127 15 0 a k = I a k := fun a k y1 y2 y3 y4 => by rw [z_u2_n _ _ y4, s2 a k y3]; exact fA a k y1 y2
      exact ⟨v_hour_eq hK0 (fun a k q => by unfold p_hour at q; exact fB a k (by omega) (by omega) (by unfold s_scT; omega) (by omega)), v_rows_eq hK1 (fun a k q => by unfold p_rows at q; exact fB a k (by omega) (by omega) (by unfold s_scT; omega) (by omega)), v_things_eq hK2 (Nat.le_refl _) (Nat.le_refl _) (fun a k q => by unfold p_things at q; exact fB a k (by omega) (by omega) (by unfold s_scT; omega) (by omega)), v_lights_eq hK3 (fun a k q => by unfold p_lights at q; exact fB a k (by omega) (by omega) (by unfold s_scT; omega) (by omega)), v_eyes_eq hK4 (Nat.le_refl _) (fun a k q => by unfold p_eyes at q; exact fB a k (by omega) (by omega) (by unfold s_scT; omega) (by omega)), v_texts_eq hK5 (fun a k q => by unfold p_texts at q; exact fB a k (by omega) (by omega) (by unfold s_scT; omega) (by omega)), ⟨by rw [z_u2_n _ _ (by omega), s2 _ _ (by unfold s_scT; omega), eA, z_u2_same]; rfl, by rw [z_u2_same]; rfl, Nat.zero_le _, fun j hj => absurd hj (Nat.not_lt_zero j)⟩, v_plates_eq hK7 (Nat.le_refl _) (fun a k q => by unfold p_plates at q; exact fB a k (by omega) (by omega) (by unfold s_scT; omega) (by omega)), v_ages_eq hK8 (fun a k q => by unfold p_ages at q; exact fB a k (by omega) (by omega) (by unfold s_scT; omega) (by omega)), v_filters_eq hK9 (Nat.le_refl _) (fun k q => fB 128 k (by omega) (by omega) (by unfold s_scT; omega) (by omega)) (fun a k q => by unfold p_filters at q; exact fB a k (by omega) (by omega) (by unfold s_scT; omega) (by omega)) (fun _ _ _ => rfl), v_sheets_eq hK10 (fun a k q => by unfold p_sheets at q; exact fB a k (by omega) (by omega) (by unfold s_scT; omega) (by omega))⟩
    | inr Ct =>
      obtain ⟨C, t⟩ := Ct
      rw [hR] at q1
      obtain ⟨rfl, q2, q3, q4, q5⟩ := q1
      obtain ⟨d1, d2, hC, ht, hfa⟩ := s_read_ok k3 hR
      have cx := z_call (E := E) (d := 98) (M := z_m142) (mid := 142) (as := [.ref 0]) (z := 161) (σ := (I, J, RF w)) rfl rfl (x_text_ok E 53 I J w (N 5) C.length I1 x1 hf er ((s1 _ _ (by omega)).trans x1) q2 (by omega))
      obtain ⟨A, eA⟩ : ∃ A, A = z_u2 (z_u2 (z_u2 (z_u2 (z_ur I1 (81 + N 5) (va_cpy (I1 78) (I1 (81 + N 5)) 0 0 C.length)) 87 (N 5) ((z_ur I1 (81 + N 5) (va_cpy (I1 78) (I1 (81 + N 5)) 0 0 C.length)) 76 8)) 88 (N 5) ((z_u2 (z_ur I1 (81 + N 5) (va_cpy (I1 78) (I1 (81 + N 5)) 0 0 C.length)) 87 (N 5) ((z_ur I1 (81 + N 5) (va_cpy (I1 78) (I1 (81 + N 5)) 0 0 C.length)) 76 8)) 76 7)) 79 6 (nI (N 5 + 1))) 76 1 0 := ⟨_, rfl⟩
      rw [← eA] at cx
      have fA : ∀ a k, a ≠ 76 → a ≠ 78 → a ≠ 81 + N 5 → ¬ (a = 87 ∧ k = N 5) → ¬ (a = 88 ∧ k = N 5) → ¬ (a = 79 ∧ k = 6) → A a k = I a k := fun a k y1 y2 y3 y4 y5 y6 => by rw [eA, z_u2_n _ _ (by omega), z_u2_n _ _ y6, z_u2_n _ _ y5, z_u2_n _ _ y4, z_ur_n _ _ y3]; exact s1 a k (by omega)
      have A87 : A 87 (N 5) = nI t := by rw [eA, z_u2_n _ _ (by omega), z_u2_n _ _ (by omega), z_u2_n _ _ (by omega), z_u2_same, z_ur_n _ _ (by omega)]; exact q3
      have A88 : A 88 (N 5) = nI C.length := by rw [eA, z_u2_n _ _ (by omega), z_u2_n _ _ (by omega), z_u2_same, z_u2_n _ _ (by omega), z_ur_n _ _ (by omega)]; exact q2
      have A81 : ∀ j, j < C.length → A (81 + N 5) j = C.getD j 0 := fun j hj => by
        rw [eA, z_u2_n _ _ (by omega), z_u2_n _ _ (by omega), z_u2_n _ _ (by omega), z_u2_n _ _ (by omega), z_ur_same]
        unfold va_cpy
        rw [if_pos (by omega), show 0 + (j - 0) = j by omega]
        exact q5 j hj
      have A79 : A 79 6 = nI (N 5 + 1) := by rw [eA, z_u2_n _ _ (by omega), z_u2_same]
      have A76 : A 76 1 = 0 := by rw [eA, z_u2_same]
      obtain ⟨v1, v2, hm, _, _⟩ := hfa (A 141)
      obtain ⟨I2, x, e2, s2, g2, _, _⟩ := m_readTapeQ E 92 (I := A) (b := b) (n := N 6) J w ((fA _ _ (by omega) (by omega) (by omega) (by omega) (by omega) (by omega)).trans k2) k3 (fun k hk => ⟨(fA _ _ (by omega) (by omega) (by omega) (by omega) (by omega) (by omega)).trans (bM k hk).1, (bM k hk).2⟩) hm
      have f2 : ∀ a k, ¬ s_scT a k → I2 a k = A a k := s2
      have cm := z_call (E := E) (d := 98) (M := z_m215) (mid := 215) (as := [.ref 127]) (z := 161) (σ := (A, J, RF w)) rfl rfl (m_text_ok E 92 A J w (N 5) (N 6) x I2 ((fA _ _ (by omega) (by omega) (by omega) (by omega) (by omega) (by omega)).trans x2) hf e2 (by rw [g2]; decide) ((f2 _ _ (by unfold s_scT; omega)).trans ((fA _ _ (by omega) (by omega) (by omega) (by omega) (by omega) (by omega)).trans x2)) ((f2 _ _ (by unfold s_scT; omega)).trans ((fA _ _ (by omega) (by omega) (by omega) (by omega) (by omega) (by omega)).trans k2)) k3)
      obtain ⟨B, eB⟩ : ∃ B, B = z_u2 (z_u2 (z_ur (z_u2 I2 127 15 0) 139 (z_fil (I2 139) (160 * N 5) (N 6) (fun j => I2 137 j))) 140 (N 5) (nI (N 6))) 127 16 (nI (N 5 + 1)) := ⟨_, rfl⟩
      rw [← eB] at cm
      have fB : ∀ a k, ¬ s_scT a k → ¬ (a = 127 ∧ k = 15) → ¬ (a = 139 ∧ 160 * N 5 ≤ k) → ¬ (a = 140 ∧ k = N 5) → ¬ (a = 127 ∧ k = 16) → B a k = A a k := fun a k y1 y2 y3 y4 y5 => by
        rw [eB, z_u2_n _ _ y5, z_u2_n _ _ y4]
        by_cases e : a = 139
        · subst e; rw [z_ur_same, z_fil_ge (by omega)]; exact f2 _ _ y1
        · rw [z_ur_n _ _ e, z_u2_n _ _ y2]; exact f2 _ _ y1
      have fAB : ∀ a k, a ≠ 76 → a ≠ 78 → a ≠ 81 + N 5 → ¬ (a = 87 ∧ k = N 5) → ¬ (a = 88 ∧ k = N 5) → ¬ (a = 79 ∧ k = 6) → ¬ s_scT a k → ¬ (a = 127 ∧ k = 15) → ¬ (a = 139 ∧ 160 * N 5 ≤ k) → ¬ (a = 140 ∧ k = N 5) → ¬ (a = 127 ∧ k = 16) → B a k = I a k := fun a k y1 y2 y3 y4 y5 y6 y7 y8 y9 y10 y11 => (fB a k y7 y8 y9 y10 y11).trans (fA a k y1 y2 y3 y4 y5 y6)
      have nsc : ∀ a k, a ≠ 127 → a ≠ 142 → a ≠ 143 → ¬ s_scT a k := fun a k y1 y2 y3 => by unfold s_scT; omega
      have tm : ∀ k, k < N 6 → I2 137 k = nI (b k) := fun k hk => (f2 _ _ (nsc _ _ (by decide) (by decide) (by decide))).trans ((fA _ _ (by omega) (by omega) (by omega) (by omega) (by omega) (by omega)).trans (bM k hk).1)
      refine ⟨nI (N 5), A, J, w, B, J, w, cx, cm, (fun i => if i = 5 then N 5 + 1 else if i = 6 then 0 else N i), ?_⟩
      have lenC : C.length = d1.length + d2.length := by rw [hC, List.length_append]
      exact ⟨v_hour_eq hK0 (fun a k q => by unfold p_hour at q; exact fAB a k (by omega) (by omega) (by omega) (by omega) (by omega) (by omega) (by unfold s_scT; omega) (by omega) (by omega) (by omega) (by omega)), v_rows_eq hK1 (fun a k q => by unfold p_rows at q; exact fAB a k (by omega) (by omega) (by omega) (by omega) (by omega) (by omega) (by unfold s_scT; omega) (by omega) (by omega) (by omega) (by omega)), v_things_eq hK2 (Nat.le_refl _) (Nat.le_refl _) (fun a k q => by unfold p_things at q; exact fAB a k (by omega) (by omega) (by omega) (by omega) (by omega) (by omega) (by unfold s_scT; omega) (by omega) (by omega) (by omega) (by omega)), v_lights_eq hK3 (fun a k q => by unfold p_lights at q; exact fAB a k (by omega) (by omega) (by omega) (by omega) (by omega) (by omega) (by unfold s_scT; omega) (by omega) (by omega) (by omega) (by omega)), v_eyes_eq hK4 (Nat.le_refl _) (fun a k q => by unfold p_eyes at q; exact fAB a k (by omega) (by omega) (by omega) (by omega) (by omega) (by omega) (by unfold s_scT; omega) (by omega) (by omega) (by omega) (by omega)), ⟨(fB _ _ (nsc _ _ (by decide) (by decide) (by decide)) (by omega) (by omega) (by omega) (by omega)).trans A79, by rw [eB, z_u2_same]; rfl, hf, (fAB _ _ (by omega) (by omega) (by omega) (by omega) (by omega) (by omega) (by unfold s_scT; omega) (by omega) (by omega) (by omega) (by omega)).trans x4, (fAB _ _ (by omega) (by omega) (by omega) (by omega) (by omega) (by omega) (by unfold s_scT; omega) (by omega) (by omega) (by omega) (by omega)).trans x5, Nat.lt_succ_of_lt x6, fun u hu => by
        have hu : u < N 5 + 1 := hu
        by_cases e : u = N 5
        · subst e
          refine ⟨b, N 6, d1, d2, ⟨?_, k3, fun k hk => (bX k hk).2, .inr ⟨by omega, hf, fun k hk => ?_⟩⟩, ?_, ?_, by omega, fun j hj => ?_, fun j hj => ?_, hfa⟩
          · rw [eB, z_u2_n _ _ (by omega), z_u2_same]
          · rw [eB, z_u2_n _ _ (by omega), z_u2_n _ _ (by omega), z_ur_same, z_fil_in (by omega), show 160 * N 5 + k - 160 * N 5 = k by omega]; exact tm k hk
          · rw [fB _ _ (nsc _ _ (by decide) (by decide) (by decide)) (by omega) (by omega) (by omega) (by omega), A87, ht]
          · rw [fB _ _ (nsc _ _ (by decide) (by decide) (by decide)) (by omega) (by omega) (by omega) (by omega), A88, lenC]
          · rw [fB _ _ (nsc _ _ (by omega) (by omega) (by omega)) (by omega) (by omega) (by omega) (by omega), A81 _ (by omega), hC, List.getD_eq_getElem?_getD, List.getD_eq_getElem?_getD, List.getElem?_append_left hj]
          · rw [fB _ _ (nsc _ _ (by omega) (by omega) (by omega)) (by omega) (by omega) (by omega) (by omega), A81 _ (by omega), hC, List.getD_eq_getElem?_getD, List.getD_eq_getElem?_getD, List.getElem?_append_right (by omega), show d1.length + j - d1.length = j by omega]
        · obtain ⟨b', n', c1, c2, ⟨y1, y2, y3, y4⟩, g2', g3, g4, g5, g6, g7⟩ := x7 u (by omega)
          refine ⟨b', n', c1, c2, ⟨(fAB _ _ (by omega) (by omega) (by omega) (by omega) (by omega) (by omega) (by unfold s_scT; omega) (by omega) (by omega) (by omega) (by omega)).trans y1, y2, y3, ?_⟩, (fAB _ _ (by omega) (by omega) (by omega) (by omega) (by omega) (by omega) (by unfold s_scT; omega) (by omega) (by omega) (by omega) (by omega)).trans g2', (fAB _ _ (by omega) (by omega) (by omega) (by omega) (by omega) (by omega) (by unfold s_scT; omega) (by omega) (by omega) (by omega) (by omega)).trans g3, g4, fun j hj => (fAB _ _ (by omega) (by omega) (by omega) (by omega) (by omega) (by omega) (by unfold s_scT; omega) (by omega) (by omega) (by omega) (by omega)).trans (g5 j hj), fun j hj => (fAB _ _ (by omega) (by omega) (by omega) (by omega) (by omega) (by omega) (by unfold s_scT; omega) (by omega) (by omega) (by omega) (by omega)).trans (g6 j hj), g7⟩
          rcases y4 with ⟨y5, y6, y7⟩ | ⟨y5, y6, y7⟩
          · exact .inl ⟨y5, y6, fun k hk => (fAB _ _ (by omega) (by omega) (by omega) (by omega) (by omega) (by omega) (by unfold s_scT; omega) (by omega) (by omega) (by omega) (by omega)).trans (y7 k hk)⟩
          · exact .inr ⟨y5, y6, fun k hk => (fAB _ _ (by omega) (by omega) (by omega) (by omega) (by omega) (by omega) (by unfold s_scT; omega) (by omega) (by omega) (by omega) (by omega)).trans (y7 k hk)⟩⟩, ⟨(fB _ _ (nsc _ _ (by decide) (by decide) (by decide)) (by omega) (by omega) (by omega) (by omega)).trans A76, by rw [eB, z_u2_n _ _ (by omega), z_u2_n _ _ (by omega), z_ur_n _ _ (by omega), z_u2_same]; rfl, Nat.zero_le _, fun j hj => absurd hj (Nat.not_lt_zero j)⟩, v_plates_eq hK7 (Nat.le_refl _) (fun a k q => by unfold p_plates at q; exact fAB a k (by omega) (by omega) (by omega) (by omega) (by omega) (by omega) (by unfold s_scT; omega) (by omega) (by omega) (by omega) (by omega)), v_ages_eq hK8 (fun a k q => by unfold p_ages at q; exact fAB a k (by omega) (by omega) (by omega) (by omega) (by omega) (by omega) (by unfold s_scT; omega) (by omega) (by omega) (by omega) (by omega)), v_filters_eq hK9 (Nat.le_refl _) (fun k q => fAB 128 k (by omega) (by omega) (by omega) (by omega) (by omega) (by omega) (by unfold s_scT; omega) (by omega) (by omega) (by omega) (by omega)) (fun a k q => by unfold p_filters at q; exact fAB a k (by omega) (by omega) (by omega) (by omega) (by omega) (by omega) (by unfold s_scT; omega) (by omega) (by omega) (by omega) (by omega)) (fun _ _ _ => rfl), v_sheets_eq hK10 (fun a k q => by unfold p_sheets at q; exact fAB a k (by omega) (by omega) (by omega) (by omega) (by omega) (by omega) (by unfold s_scT; omega) (by omega) (by omega) (by omega) (by omega))⟩
  · exact ⟨-4, I, J, w, I, J, w, z_call (E := E) (d := 98) (M := z_m142) (mid := 142) (as := [.ref 0]) (z := 161) (σ := (I, J, RF w)) rfl rfl (x_text_full E 53 I J w (N 5) x1 (by omega)), z_call (E := E) (d := 98) (M := z_m215) (mid := 215) (as := [.ref 127]) (z := 161) (σ := (I, J, RF w)) rfl rfl (m_text_full E 92 I J w (N 5) x2 (by omega)), N, H9⟩
