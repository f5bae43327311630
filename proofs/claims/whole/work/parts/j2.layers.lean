-- PAIRS: layers
def v_ly (i : Int32) (v : Int32) (p : List Nat) (R : Int32) : Prop := (i = (-1) → R = v) ∧ (i = (-2) → R = nI p.length) ∧ (∀ j, i = nI j → j < p.length → R = nI (p.getD j 0)) ∧ (¬ i = (-1) → ¬ i = (-2) → ¬ z_hs i p.length → R = (-1))
theorem g_layers (E : zE) (N : Nat → Nat) (I : Nat → Nat → Int32) (J : Nat → Nat → Int64) (w : Nat) (H : v_Inv N I J) (e : Int32) (b : Int32) (l : Int32) (y : Int32) (i : Int32) : v_GoI E 148 227 [.int e, .int b, .int l, .int y, .int i] I J w := by
  have H0 := H
  have H9 := H
  obtain ⟨⟨o1, o2, o3⟩, ⟨r1, r2, r3, r4⟩, ⟨t1, t2, t3, t4⟩, ⟨l1, l2, l3, l4⟩, ⟨e1, e2, e3, e4⟩, ⟨x1, x2, x3, x4, x5, x6, x7⟩, ⟨k1, k2, k3, k4⟩, ⟨p1, p2, p3, p4⟩, ⟨a1, a2, a3, a4⟩, ⟨f1, f2, f3, f4⟩, hsh⟩ := H
  obtain ⟨hK0, hK1, hK2, hK3, hK4, hK5, hK6, hK7, hK8, hK9, hK10⟩ := H0
  have p20 : ∀ m, m ≤ 20 → 2 ^ m ≤ 2 ^ 20 := fun m hm => Nat.pow_le_pow_right (by decide) hm
  by_cases hc : z_hs e (N 4) ∧ z_hs l (N 3) ∧ z_hs y (N 3) ∧ ∃ x, x < 2 ^ N 2 ∧ b = nI x ∧ s_pn x (N 2) ≤ 5
  · obtain ⟨e', he, rfl⟩ := z_hs_of hc.1
    obtain ⟨l', hl, rfl⟩ := z_hs_of hc.2.1
    obtain ⟨y', hy, rfl⟩ := z_hs_of hc.2.2.1
    obtain ⟨x, hx, rfl, hp5⟩ := hc.2.2.2
    obtain ⟨q, r, bb, n0, c1, c2, C⟩ := v_cx_of H9 he
    have x20 := p20 (N 2) t3
    have x31 : x < 2 ^ 31 := by omega
    have x24 : x < 2 ^ 24 := by omega
    have e24 := s_pn_24 t3 hx
    have e20 := s_bs_20 t3 hx
    have ln := s_bs_len x (N 2)
    have hbX : (nI x &&& ((-1) <<< (I 37 7 &&& 31))) = 0 := by rw [t1]; exact (z_belowX (by omega)).mpr ⟨x, hx, rfl⟩
    have heX := (z_hsX e1 (by omega)).mpr hc.1
    have hlX := (z_hsX l1 (by omega)).mpr hc.2.1
    have hyX := (z_hsX l1 (by omega)).mpr hc.2.2.1
    obtain ⟨tn, htd⟩ : ∃ tn : Nat → (Nat → Nat) → Nat → Nat, tn = fun t L c => s_tn (I 38 t).toNatClampNeg L (v_RN I (I 39 t).toNatClampNeg) (I 40 t).toNatClampNeg c := ⟨_, rfl⟩
    have thn : ∀ t, t < N 2 → (I 38 t).toNatClampNeg < 6 ∧ (I 39 t).toNatClampNeg < N 1 ∧ (I 40 t).toNatClampNeg < 100 ∧ (I 38 t = nI (I 38 t).toNatClampNeg ∧ I 129 t = nI (I 38 t).toNatClampNeg) ∧ (I 39 t = nI (I 39 t).toNatClampNeg ∧ I 130 t = nI (I 39 t).toNatClampNeg) ∧ (I 40 t = nI (I 40 t).toNatClampNeg ∧ I 131 t = nI (I 40 t).toNatClampNeg) := fun t ht => by
      obtain ⟨K, r0, p, o, s, q1, q2, q3, q4, q5, b1, b2, b3, b4, b5⟩ := v_thing H9 ht
      rw [z_natE b1.1 (by omega), z_natE b2.1 (by omega), z_natE b3.1 (by omega)]
      exact ⟨q1, q2, q3, b1, b2, b3⟩
    have hle : ∀ o c, c < 8 → s_lt tn (v_LN I l') o c ≤ 1000000000 := s_lt_le (fun t L c => by rw [htd]; exact s_tn_le _ _ _ _ _) (fun c hc => (v_LN_eq H9 hl hc).2.1)
    obtain ⟨U, hU⟩ : ∃ U : List Nat → Int32, U = fun o => s_v c1 (v_fN I r q (N 0) (s_lt tn (v_LN I l') o) (v_LN I y') (nI q)) := ⟨_, rfl⟩
    -- what both find
    obtain ⟨best, hbest⟩ : ∃ best, best = (s_pre 5 (s_bs x (N 2)) []).foldl (s_lst U) none := ⟨_, rfl⟩
    obtain ⟨p, hp⟩ : ∃ p, best = some (U p, p) := by
      obtain ⟨p, g1, _⟩ := s_fold0 U (s_pre 5 (s_bs x (N 2)) []) (by show (_ :: _ : List (List Nat)) ≠ []; simp)
      exact ⟨p, hbest.trans g1⟩
    have hms : (s_ms (fun k => (s_bs x 20).getD k 0) (s_bs x (N 2)).length (s_bs x (N 2)).length).foldl (s_lst U) none = best := by
      rw [hbest, ← e20]
      exact (s_lay_eq U rfl (by rw [e20]; omega)).symm
    -- the reference, over a store that keeps what is told
    have ref : ∀ (S : Nat → Nat → Int32) (w' : Nat), (∀ a k, p_any a k → S a k = I a k) → (∀ k, k < 160 → S 134 k = I 134 k) → ∃ (R : Int32) (I2 : Nat → Nat → Int32), z_cl E 99 227 [.ref 127, .int (nI e'), .int (nI x), .int (nI l'), .int (nI y'), .int i] (161, S, J, RF w') = some (some (.int R), 161, I2, J, RF w') ∧ (∀ a k, p_any a k → I2 a k = I a k) ∧ v_ly i (U p) p R := by
      intro S w' hS hS4
      obtain ⟨A, eA⟩ : ∃ A, A = z_ur S 144 (s_row (S 144) (s_bs x 20)) := ⟨_, rfl⟩
      have fA : ∀ a k, a ≠ 144 → A a k = S a k := fun a k h => by rw [eA, z_ur_n _ _ h]
      have sA : ∀ a k, p_any a k → A a k = I a k := fun a k q => (fA a k (by unfold p_any p_hour p_rows p_things p_lights p_eyes p_texts p_tape p_plates p_ages p_filters p_sheets at q; omega)).trans (hS a k q)
      have A4 : ∀ k, k < 160 → A 134 k = I 134 k := fun k hk => (fA _ _ (by decide)).trans (hS4 k hk)
      obtain ⟨I1, w1, w2⟩ := v_likeM (A := v_LN I l') (B := v_LN I y') E 91 J w' sA C (x := l') (y := y') (by omega) (by omega) (fun c hc => ⟨(A4 _ (by omega)).trans (v_LN_eq H9 hl hc).2.2, (v_LN_eq H9 hl hc).2.1⟩) (fun c hc => ⟨(A4 _ (by omega)).trans (v_LN_eq H9 hy hc).2.2, (v_LN_eq H9 hy hc).2.1⟩)
      have U0 : s_v c1 (v_fN I r q (N 0) (v_LN I l') (v_LN I y') (nI q)) = U [] := by rw [hU]; rfl
      rw [U0] at w1
      have f1 : ∀ a k, ¬ s_scT a k → a ≠ 141 → I1 a k = A a k := w2
      have s1 : ∀ a k, p_any a k → I1 a k = I a k := fun a k q => (f1 a k (by unfold p_any p_hour p_rows p_things p_lights p_eyes p_texts p_tape p_plates p_ages p_filters p_sheets at q; unfold s_scT; omega) (by unfold p_any p_hour p_rows p_things p_lights p_eyes p_texts p_tape p_plates p_ages p_filters p_sheets at q; omega)).trans (sA a k q)
      have I14 : ∀ k, k < 160 → I1 134 k = I 134 k := fun k hk => (f1 _ _ (by unfold s_scT; omega) (by decide)).trans (A4 k hk)
      obtain ⟨Rr, e3, q3⟩ := m_ly_ss E 91 J w' (nI e') (nI x) (nI y') i l' (s_bs x (N 2)).length (fun k => (s_bs x 20).getD k 0) tn (v_LN I l') (N 2) U (fun R => ∃ (ans : Int32) (I2 : Nat → Nat → Int32), R = (some (.int ans), 161, I2, J, RF w') ∧ (∀ a k, p_any a k → I2 a k = I a k) ∧ v_ly i (U p) p ans) I1 (by omega) (fun k hk => (f1 _ _ (by unfold s_scT; omega) (by decide)).trans (by rw [eA, z_ur_same]; exact s_row_in (by rw [e20]; exact hk))) (fun k hk => by
          show (s_bs x 20).getD k 0 < N 2
          rw [e20]; exact s_bs_mem hk) (by omega) (fun c hc => (I14 _ (by omega)).trans (v_LN_eq H9 hl hc).2.2) hle
        (fun I5 t L h5 ht hL => by
          obtain ⟨g1, g2, g3, g4, g5, g6⟩ := thn t ht
          have k5 : ∀ a k, p_any a k → I5 a k = I a k := fun a k q => (h5 a k (by unfold p_any p_hour p_rows p_things p_lights p_eyes p_texts p_tape p_plates p_ages p_filters p_sheets at q; unfold s_scR s_scT; omega)).trans (s1 a k q)
          have kT : ∀ a k, p_things a k → I5 a k = I a k := fun a k h => k5 a k (.inr (.inr (.inl h)))
          have kR : ∀ a k, p_rows a k → I5 a k = I a k := fun a k h => k5 a k (.inr (.inl h))
          obtain ⟨I6, j1, j2, j3⟩ := m_turnQ E 97 I5 J w' 20 t 21 (I 39 t).toNatClampNeg (I 38 t).toNatClampNeg (I 40 t).toNatClampNeg L (v_RN I (I 39 t).toNatClampNeg) (by omega) (by decide) (by decide) (by decide) ((kT _ _ (by unfold p_things; omega)).trans g5.2) (by omega) ((kT _ _ (by unfold p_things; omega)).trans g4.2) g1 ((kT _ _ (by unfold p_things; omega)).trans g6.2) g3 hL (fun c hc => ⟨(kR _ _ (by unfold p_rows; omega)).trans (v_RN_eq H9 g2 hc).2.2, (v_RN_eq H9 g2 hc).2.1⟩)
          exact ⟨I6, j1, fun c hc => by rw [htd]; exact j2 c hc, fun a k h => j3 a k h⟩)
        (fun I5 o h5 hL => by
          rw [hU]
          exact v_likeM (A := s_lt tn (v_LN I l') o) (B := v_LN I y') E 91 J w' (fun a k q => (h5 a k (by unfold p_any p_hour p_rows p_things p_lights p_eyes p_texts p_tape p_plates p_ages p_filters p_sheets at q; unfold s_scR s_scT; omega)).trans (s1 a k q)) C (x := 20) (y := y') (by decide) (by omega) (fun c hc => ⟨hL c hc, hle o c hc⟩) (fun c hc => ⟨(h5 _ _ (by unfold s_scR s_scT; omega)).trans ((I14 _ (by omega)).trans (v_LN_eq H9 hy hc).2.2), (v_LN_eq H9 hy hc).2.1⟩))
        (fun I' q' v' x10 x11 x12 x13 x14 x15 x16 m1 m2 => by
          rw [hms, hp] at m1
          obtain ⟨m3, m4, m5, m6⟩ := m1
          have sI : ∀ a k, p_any a k → I' a k = I a k := fun a k q => (m2 a k (by unfold p_any p_hour p_rows p_things p_lights p_eyes p_texts p_tape p_plates p_ages p_filters p_sheets at q; unfold s_scR s_scT; omega)).trans (s1 a k q)
          by_cases i1 : i = (-1)
          · subst i1
            exact ⟨_, m_ly_e1 E 91 I' J w' (nI e') (nI x) (nI l') (nI y') q' v' (s_bs x (N 2)).length ((s_bs x (N 2)).length + 1) x10 x11 x12 x13 x14 x15 x16 (by omega) (by omega), v', I', rfl, sI, fun _ => m3, fun h => absurd h (by decide), fun j hj _ => absurd hj.symm (z_nneg rfl (by omega) (by decide)), fun h => absurd rfl h⟩
          · by_cases i2 : i = (-2)
            · subst i2
              exact ⟨_, m_ly_e2 E 91 I' J w' (nI e') (nI x) (nI l') (nI y') q' v' (s_bs x (N 2)).length ((s_bs x (N 2)).length + 1) x10 x11 x12 x13 x14 x15 x16 (by omega) (by omega), q', I', rfl, sI, fun h => absurd h (by decide), fun _ => m4, fun j hj _ => absurd hj.symm (z_nneg rfl (by omega) (by decide)), fun _ h => absurd rfl h⟩
            · by_cases i3 : z_hs i p.length
              · obtain ⟨j, hj, rfl⟩ := z_hs_of i3
                subst m4
                refine ⟨_, m_ly_e3 E 91 I' J w' (nI e') (nI x) (nI l') (nI y') v' (s_bs x (N 2)).length ((s_bs x (N 2)).length + 1) x10 x11 x12 x13 x14 x15 x16 j p.length (by omega) (by omega) hj (by omega), I' 148 j, I', rfl, sI, fun h => absurd h i1, fun h => absurd h i2, fun j' hj' _ => ?_, fun _ _ h => absurd i3 h⟩
                have ej : j = j' := (z_eqN (a := j) (b := j') rfl rfl (by omega) (by omega)).mp hj'
                subst ej
                exact m6 j hj
              · refine ⟨_, m_ly_e4 E 91 I' J w' (nI e') (nI x) (nI l') (nI y') i q' v' (s_bs x (N 2)).length ((s_bs x (N 2)).length + 1) x10 x11 x12 x13 x14 x15 x16 (by omega) (by omega) i1 i2 (fun h => i3 ((z_hsM m4 (by omega)).mp h)), -1, I', rfl, sI, fun h => absurd h i1, fun h => absurd h i2, fun j hj hj2 => absurd (by rw [hj]; exact ⟨by rw [nI_toInt (by omega)]; omega, by rw [nI_toInt (by omega)]; omega⟩) i3, fun _ _ _ => rfl⟩) (s_bs x (N 2)).length 0 I1 0 (U []) none none none none none none none (by omega) ⟨rfl, rfl, Nat.le_refl 0, fun j hj => absurd hj (Nat.not_lt_zero j)⟩ (fun _ _ _ => rfl)
      obtain ⟨ans, I2, rfl, g1, g2⟩ := q3
      have hL9 : S 127 9 = nI (N 3) := (hS 127 9 (.inr (.inr (.inr (.inl (by unfold p_lights; omega)))))).trans l2
      have hT9 : S 127 3 = nI (N 2) := (hS 127 3 (.inr (.inr (.inl (by unfold p_things; omega))))).trans t2
      refine ⟨ans, I2, z_call (E := E) (d := 98) (M := z_m227) (mid := 227) (as := [.ref 127, .int (nI e'), .int (nI x), .int (nI l'), .int (nI y'), .int i]) (z := 161) (σ := (S, J, RF w')) rfl rfl (m_ly_st E 91 S J w' (nI e') (nI l') (nI y') i (U []) x I1 ((z_hsM ((hS _ _ (v_anyE (by unfold p_eyes; omega))).trans e2) (by omega)).mpr hc.1) ((z_hsM hL9 (by omega)).mpr hc.2.1) ((z_hsM hL9 (by omega)).mpr hc.2.2.1) ?_ x31 (by rw [← s_bs_len, e20]; omega) (by rw [← eA]; exact w1) ?_), g1, g2⟩
      · rw [hT9]
        exact (z_setM (by omega)).mpr ⟨x, hx, rfl, mt (z_ltN (b := 0) rfl rfl (by omega) (by decide)).mp (by omega), mt (z_ltN (a := 5) rfl rfl (by decide) (by omega)).mp (by omega)⟩
      · rw [e20]; exact e3
    -- the class
    obtain ⟨W, eW⟩ : ∃ W, W = z_u2 (z_u2 (z_u2 I 91 3 (nI e')) 91 4 (I 0 13)) 91 6 0 := ⟨_, rfl⟩
    have fW : ∀ a k, a ≠ 91 → W a k = I a k := fun a k h => by rw [eW, z_u2_n _ _ (by omega), z_u2_n _ _ (by omega), z_u2_n _ _ (by omega)]
    obtain ⟨S0, eS⟩ : ∃ S, S = z_ur W 98 (va_cpy (W (45 + l')) (W 98) 0 0 8) := ⟨_, rfl⟩
    have fS : ∀ a k, a ≠ 91 → a ≠ 98 → S0 a k = I a k := fun a k h1 h2 => by rw [eS, z_ur_n _ _ h2]; exact fW a k h1
    have S91 : ∀ k, S0 91 k = W 91 k := fun k => by rw [eS, z_ur_n _ _ (by decide)]
    obtain ⟨I1, y1, y2, y3, y4⟩ := x_tlQ E 87 J (45 + y') U tn (v_LN I l') S0 (N 2) t3 ((fS _ _ (by decide) (by decide)).trans t1)
      (fun d I5 t g L h5 ht hg hL => by
        obtain ⟨g1, g2, g3, g4, g5, g6⟩ := thn t ht
        have k5 : ∀ a k, p_any a k → I5 a k = I a k := fun a k q => (h5 a k (by unfold p_any p_hour p_rows p_things p_lights p_eyes p_texts p_tape p_plates p_ages p_filters p_sheets at q; unfold s_scL; omega)).trans (fS a k (by unfold p_any p_hour p_rows p_things p_lights p_eyes p_texts p_tape p_plates p_ages p_filters p_sheets at q; omega) (by unfold p_any p_hour p_rows p_things p_lights p_eyes p_texts p_tape p_plates p_ages p_filters p_sheets at q; omega))
        have kT : ∀ a k, p_things a k → I5 a k = I a k := fun a k h => k5 a k (.inr (.inr (.inl h)))
        have kR : ∀ a k, p_rows a k → I5 a k = I a k := fun a k h => k5 a k (.inr (.inl h))
        obtain ⟨I6, j1, j2, j3⟩ := x_turnQ E d I5 J (45 + y') t (98 + g) (98 + (g + 1)) (I 39 t).toNatClampNeg (I 38 t).toNatClampNeg (I 40 t).toNatClampNeg L (v_RN I (I 39 t).toNatClampNeg) (by omega) ((kT _ _ (by unfold p_things; omega)).trans g5.1) (by omega) (z_A_laid g (by omega)) (z_A_laid (g + 1) (by omega)) (by omega) (by omega) ((kT _ _ (by unfold p_things; omega)).trans g4.1) g1 ((kT _ _ (by unfold p_things; omega)).trans g6.1) g3 hL (fun c hc => ⟨(kR _ _ (by unfold p_rows; omega)).trans (v_RN_eq H9 g2 hc).1, (v_RN_eq H9 g2 hc).2.1⟩)
        exact ⟨I6, j1, fun c hc => by rw [htd]; exact j2 c hc, j3⟩) hle
      (fun d I5 g o h5 hg hL => by
        have g3 : I5 91 3 = nI e' := (h5 _ _ (by unfold s_scL; omega)).trans ((S91 3).trans (by rw [eW]; rfl))
        have g4 : I5 91 4 = nI (N 0) := (h5 _ _ (by unfold s_scL; omega)).trans ((S91 4).trans (by rw [eW]; exact o1))
        rw [hU, g3, g4]
        exact v_likeX (A := s_lt tn (v_LN I l') o) (B := v_LN I y') E d J (45 + y') (fun a k q => (h5 a k (by unfold p_any p_hour p_rows p_things p_lights p_eyes p_texts p_tape p_plates p_ages p_filters p_sheets at q; unfold s_scL; omega)).trans (fS a k (by unfold p_any p_hour p_rows p_things p_lights p_eyes p_texts p_tape p_plates p_ages p_filters p_sheets at q; omega) (by unfold p_any p_hour p_rows p_things p_lights p_eyes p_texts p_tape p_plates p_ages p_filters p_sheets at q; omega))) C (z_A_laid g (by omega)) (z_A_lights y' (by omega)) (by omega) (by omega) hL (fun c hc => (h5 _ _ (by unfold s_scL; omega)).trans ((fS _ _ (by omega) (by omega)).trans (v_LN_eq H9 hy hc).1))) 5 0 x [] S0 none rfl rfl x31 ⟨fun j hj => absurd hj (Nat.not_lt_zero j), fun c hc => by
        show S0 (98 + 0) c = nI (v_LN I l' c)
        rw [eS, z_ur_same, v_cpy_in hc]
        exact (fW _ _ (by omega)).trans (v_LN_eq H9 hl hc).1, fun _ _ _ => rfl⟩ (by
        show S0 91 6 = 0
        rw [S91, eW]; rfl)
    rw [← hbest, hp] at y2
    obtain ⟨z1, z2, z3, z4, z5⟩ := y2
    have lay := z_call (E := E) (d := 97) (M := z_m44) (mid := 44) (as := [.ref 91, .int (nI x), .ref (45 + l')]) (z := 161) (σ := (W, J, RF (45 + y'))) rfl rfl (x_lay_s E 87 W J (45 + y') (nI x) (45 + l') I1 (z_A_lights l' (by omega)) (by rw [← eS]; exact y1))
    rw [eW] at lay
    have s1 : ∀ a k, p_any a k → I1 a k = I a k := fun a k q => (y4 a k (by unfold p_any p_hour p_rows p_things p_lights p_eyes p_texts p_tape p_plates p_ages p_filters p_sheets at q; unfold s_scL; omega)).trans (fS a k (by unfold p_any p_hour p_rows p_things p_lights p_eyes p_texts p_tape p_plates p_ages p_filters p_sheets at q; omega) (by unfold p_any p_hour p_rows p_things p_lights p_eyes p_texts p_tape p_plates p_ages p_filters p_sheets at q; omega))
    have s4 : ∀ k, k < 160 → I1 134 k = I 134 k := fun k _ => (y4 _ _ (by unfold s_scL; omega)).trans (fS _ _ (by decide) (by decide))
    obtain ⟨R, I2, cm, g1, r1', r2', r3', r4'⟩ := ref I1 (45 + y') s1 s4
    have fin : ∀ a, z_cl E 99 148 [.ref 0, .int (nI e'), .int (nI x), .int (nI l'), .int (nI y'), .int i] (161, I, J, RF w) = some (some (.int a), 161, I1, J, RF (45 + y')) → R = a → v_GoI E 148 227 [.int (nI e'), .int (nI x), .int (nI l'), .int (nI y'), .int i] I J w := fun a h1 h2 => by
      rw [h2] at cm
      exact ⟨a, I1, J, 45 + y', I2, J, 45 + y', h1, cm, N, v_Inv_eq H9 g1 (fun _ _ _ => rfl)⟩
    by_cases i1 : i = (-1)
    · subst i1
      exact fin _ (z_call (E := E) (d := 98) (M := z_m148) (mid := 148) (as := [.ref 0, .int (nI e'), .int (nI x), .int (nI l'), .int (nI y'), .int (-1)]) (z := 161) (σ := (I, J, RF w)) rfl rfl (x_layers_s1 E 87 I J w (nI e') x l' y' I1 x24 hbX heX hlX hyX (by omega) (by omega) (by omega) lay)) ((r1' rfl).trans z2.symm)
    · by_cases i2 : i = (-2)
      · subst i2
        exact fin _ (z_call (E := E) (d := 98) (M := z_m148) (mid := 148) (as := [.ref 0, .int (nI e'), .int (nI x), .int (nI l'), .int (nI y'), .int (-2)]) (z := 161) (σ := (I, J, RF w)) rfl rfl (x_layers_s2 E 87 I J w (nI e') x l' y' I1 x24 hbX heX hlX hyX (by omega) (by omega) (by omega) lay)) ((r2' rfl).trans z3.symm)
      · by_cases i3 : z_hs i p.length
        · obtain ⟨j, hj, rfl⟩ := z_hs_of i3
          exact fin _ (z_call (E := E) (d := 98) (M := z_m148) (mid := 148) (as := [.ref 0, .int (nI e'), .int (nI x), .int (nI l'), .int (nI y'), .int (nI j)]) (z := 161) (σ := (I, J, RF w)) rfl rfl (x_layers_s3 E 87 I J w (nI e') x l' y' I1 j p.length x24 hbX heX hlX hyX (by omega) (by omega) (by omega) lay z3 hj z4)) ((r3' j rfl hj).trans (z5 j hj).symm)
        · exact fin _ (z_call (E := E) (d := 98) (M := z_m148) (mid := 148) (as := [.ref 0, .int (nI e'), .int (nI x), .int (nI l'), .int (nI y'), .int i]) (z := 161) (σ := (I, J, RF w)) rfl rfl (x_layers_s4 E 87 I J w (nI e') x l' y' I1 i x24 hbX heX hlX hyX (by omega) (by omega) (by omega) lay i1 i2 (fun h => i3 ((z_hsX z3 (by omega)).mp h)))) (r4' i1 i2 i3)
  · have cm : z_cl E 99 227 [.ref 127, .int e, .int b, .int l, .int y, .int i] (161, I, J, RF w) = some (some (.int (-2)), 161, I, J, RF w) := m_layers_bad E 91 I J w e b l y i (fun q => hc ⟨(z_hsM e2 (by omega)).mp q.1, (z_hsM l2 (by omega)).mp q.2.1, (z_hsM l2 (by omega)).mp q.2.2.1, by
      obtain ⟨x, z1, z2, z3, z4⟩ := (z_setM (show N 2 < 31 by omega)).mp (by rw [← t2]; exact q.2.2.2)
      have := s_pn_le x (N 2)
      have k2' := mt (z_ltN (a := 5) (b := s_pn x (N 2)) rfl rfl (by decide) (by omega)).mpr z4
      exact ⟨x, z1, z2, by omega⟩⟩)
    by_cases h1 : z_hs e (N 4) ∧ z_hs l (N 3) ∧ z_hs y (N 3) ∧ (b &&& ((-1) <<< (I 37 7 &&& 31))) = 0
    · obtain ⟨x, hx, rfl⟩ := (z_belowX (show N 2 < 31 by omega)).mp (by rw [← t1]; exact h1.2.2.2)
      have x20 := p20 (N 2) t3
      have e24 := s_pn_24 t3 hx
      exact ⟨-2, I, J, w, I, J, w, x_layers_bad2 E 87 I J w e l y i x (by omega) h1.2.2.2 ((z_hsX e1 (by omega)).mpr h1.1) ((z_hsX l1 (by omega)).mpr h1.2.1) ((z_hsX l1 (by omega)).mpr h1.2.2.1) (Nat.lt_of_not_le fun z => hc ⟨h1.1, h1.2.1, h1.2.2.1, x, hx, rfl, by omega⟩), cm, N, H9⟩
    · exact ⟨-2, I, J, w, I, J, w, x_layers_bad1 E 87 I J w e b l y i (fun z => h1 ⟨(z_hsX e1 (by omega)).mp z.1, (z_hsX l1 (by omega)).mp z.2.1, (z_hsX l1 (by omega)).mp z.2.2.1, z.2.2.2⟩), cm, N, H9⟩
