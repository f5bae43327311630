-- PAIRS: mixed, layers
theorem s_best_some (V : s_t3 → Int32) : ∀ (l : List s_t3) (z : Int32 × s_t3), ∃ y, l.foldl (s_sto V) (some z) = some y
  | [], z => ⟨z, rfl⟩
  | t :: l, z => by
    show ∃ y, l.foldl (s_sto V) (s_sto V (some z) t) = some y
    obtain ⟨v, u⟩ := z
    show ∃ y, l.foldl (s_sto V) (if V t < v then some (V t, t) else some (v, u)) = some y
    split
    · exact s_best_some V l _
    · exact s_best_some V l _
theorem s_best_ne (V : s_t3 → Int32) {l : List s_t3} (h : l ≠ []) : ∃ y, s_best V l = some y := by
  cases l with
  | nil => exact absurd rfl h
  | cons t l => exact s_best_some V l (V t, t)
theorem s_tp_ne {n : Nat} (h : 1 ≤ n) (h3 : n ≤ 3) : s_tp n 11 ≠ [] := by
  rcases (by omega : n = 1 ∨ n = 2 ∨ n = 3) with e | e | e <;> subst e <;> decide
theorem s_bs_20 {x m : Nat} (hm : m ≤ 20) (hx : x < 2 ^ m) : s_bs x 20 = s_bs x m := by
  refine s_bs_top hm ?_
  have := s_pn_top hx (20 - m)
  rw [show m + (20 - m) = 20 by omega] at this
  omega
theorem s_pn_24 {x m : Nat} (hm : m ≤ 20) (hx : x < 2 ^ m) : s_pn x 24 = s_pn x m := by
  have := s_pn_top hx (24 - m)
  rw [show m + (24 - m) = 24 by omega] at this
  exact this
theorem s_bs_mem {x m i : Nat} (hi : i < (s_bs x m).length) : (s_bs x m).getD i 0 < m := s_bs_lt x m _ (by rw [List.getD_eq_getElem?_getD, List.getElem?_eq_getElem hi]; exact List.getElem_mem hi)
theorem g_mixed (E : zE) (N : Nat → Nat) (I : Nat → Nat → Int32) (J : Nat → Nat → Int64) (w : Nat) (H : v_Inv N I J) (e : Int32) (b : Int32) (y : Int32) (i : Int32) : v_GoI E 145 226 [.int e, .int b, .int y, .int i] I J w := by
  have H0 := H
  have H9 := H
  obtain ⟨⟨o1, o2, o3⟩, ⟨r1, r2, r3, r4⟩, ⟨t1, t2, t3, t4⟩, ⟨l1, l2, l3, l4⟩, ⟨e1, e2, e3, e4⟩, ⟨x1, x2, x3, x4, x5, x6, x7⟩, ⟨k1, k2, k3, k4⟩, ⟨p1, p2, p3, p4⟩, ⟨a1, a2, a3, a4⟩, ⟨f1, f2, f3, f4⟩, hsh⟩ := H
  obtain ⟨hK0, hK1, hK2, hK3, hK4, hK5, hK6, hK7, hK8, hK9, hK10⟩ := H0
  have p20 : ∀ m, m ≤ 20 → 2 ^ m ≤ 2 ^ 20 := fun m hm => Nat.pow_le_pow_right (by decide) hm
  by_cases hc : z_hs e (N 4) ∧ (∃ x, x < 2 ^ N 3 ∧ b = nI x ∧ 1 ≤ s_pn x (N 3) ∧ s_pn x (N 3) ≤ 3) ∧ z_hs y (N 3)
  · obtain ⟨e', he, rfl⟩ := z_hs_of hc.1
    obtain ⟨x, hx, rfl, hp1, hp3⟩ := hc.2.1
    obtain ⟨y', hy, rfl⟩ := z_hs_of hc.2.2
    obtain ⟨q, r, bb, n0, c1, c2, C⟩ := v_cx_of H9 he
    have x20 := p20 (N 3) l3
    have x31 : x < 2 ^ 31 := by omega
    have x24 : x < 2 ^ 24 := by omega
    have e24 := s_pn_24 l3 hx
    have e20 := s_bs_20 l3 hx
    have ln := s_bs_len x (N 3)
    have hbX : (nI x &&& ((-1) <<< (I 43 1 &&& 31))) = 0 := by rw [l1]; exact (z_belowX (by omega)).mpr ⟨x, hx, rfl⟩
    have heX := (z_hsX e1 (by omega)).mpr hc.1
    have hyX := (z_hsX l1 (by omega)).mpr hc.2.2
    obtain ⟨T, hTd⟩ : ∃ T : Nat → Nat → Nat, T = fun k c => v_LN I ((s_bs x (N 3)).getD k 0) c := ⟨_, rfl⟩
    obtain ⟨V, hV⟩ : ∃ V : s_t3 → Int32, V = fun t => s_v c1 (v_fN I r q (N 0) (fun c => s_mv (s_bs x (N 3)).length T t.1 t.2.1 t.2.2 c) (v_LN I y') (nI q)) := ⟨_, rfl⟩
    have Tle : ∀ k, k < (s_bs x (N 3)).length → ∀ c, c < 8 → I (45 + (s_bs x (N 3)).getD k 0) c = nI (T k c) ∧ T k c ≤ 1000000000 ∧ I 134 (8 * (s_bs x (N 3)).getD k 0 + c) = nI (T k c) := fun k hk c hc => by
      rw [hTd]
      exact v_LN_eq H9 (s_bs_mem hk) hc
    have mle : ∀ u0 u1 u2 c, u0 + u1 + u2 = 10 → c < 8 → s_mv (s_bs x (N 3)).length T u0 u1 u2 c ≤ 1000000000 := fun u0 u1 u2 c hu hc => s_mv_le (by omega) (by omega) hu (fun k hk => (Tle k hk c hc).2.1)
    -- the reference, over a store that keeps what is told
    have ref : ∀ (S : Nat → Nat → Int32) (w' : Nat) (ii : Int32), (∀ a k, p_any a k → S a k = I a k) → (∀ k, k < 160 → S 134 k = I 134 k) → ∃ (R : Int32) (I2 : Nat → Nat → Int32), z_cl E 99 226 [.ref 127, .int (nI e'), .int (nI x), .int (nI y'), .int ii] (161, S, J, RF w') = some (some (.int R), 161, I2, J, RF w') ∧ (∀ a k, p_any a k → I2 a k = I a k) ∧ ∀ v u0 u1 u2, s_best V (s_tp (s_bs x (N 3)).length 11) = some (v, u0, u1, u2) → (ii = (-1) → R = v) ∧ (∀ j, ii = nI j → j < (s_bs x (N 3)).length → R = nI (if j = 0 then u0 else if j = 1 then u1 else u2)) ∧ (¬ ii = (-1) → ¬ z_hs ii (s_bs x (N 3)).length → R = (-1)) := by
      intro S w' ii hS hS4
      obtain ⟨A, eA⟩ : ∃ A, A = z_ur S 144 (s_row (S 144) (s_bs x 20)) := ⟨_, rfl⟩
      have fA : ∀ a k, a ≠ 144 → A a k = S a k := fun a k h => by rw [eA, z_ur_n _ _ h]
      have sA : ∀ a k, p_any a k → A a k = I a k := fun a k q => (fA a k (by unfold p_any p_hour p_rows p_things p_lights p_eyes p_texts p_tape p_plates p_ages p_filters p_sheets at q; omega)).trans (hS a k q)
      have hv : ∀ I1 u0 u1 u2, u0 + u1 + u2 = 10 → (∀ a j, ¬ s_scN a j → I1 a j = A a j) → (∀ c, c < 8 → I1 134 (160 + c) = nI (s_mv (s_bs x (N 3)).length T u0 u1 u2 c)) → ∃ I2, z_cl E (91 + 7) 219 [.ref 127, .int (nI e'), .int 20, .int (nI y')] (161, I1, J, RF w') = some (some (.int (V (u0, u1, u2))), 161, I2, J, RF w') ∧ ∀ x k, ¬ s_scT x k → x ≠ 141 → I2 x k = I1 x k := fun I1 u0 u1 u2 hu h1 h2 => by
        rw [hV]
        exact v_likeM (A := fun c => s_mv (s_bs x (N 3)).length T u0 u1 u2 c) (B := v_LN I y') E 91 J w' (fun a k q => (h1 a k (by unfold p_any p_hour p_rows p_things p_lights p_eyes p_texts p_tape p_plates p_ages p_filters p_sheets at q; unfold s_scN s_scT; omega)).trans (sA a k q)) C (x := 20) (y := y') (by decide) (by omega) (fun c hc => ⟨h2 c hc, mle u0 u1 u2 c hu hc⟩) (fun c hc => ⟨(h1 _ _ (by unfold s_scN s_scT; omega)).trans ((fA _ _ (by decide)).trans ((hS4 _ (by omega)).trans (v_LN_eq H9 hy hc).2.2)), (v_LN_eq H9 hy hc).2.1⟩)
      obtain ⟨Rr, e3, q3⟩ := m_mx_l E 91 J w' (nI e') (nI x) (nI y') ii (s_bs x (N 3)).length T (fun k => (s_bs x (N 3)).getD k 0) V A (by omega) (by omega) (fun k hk => ⟨by rw [eA, z_ur_same, e20]; exact s_row_in hk, Nat.lt_of_lt_of_le (s_bs_mem hk) l3⟩) (fun k hk c hc => ⟨(fA _ _ (by decide)).trans ((hS4 _ (by have := s_bs_mem hk; omega)).trans (Tle k hk c hc).2.2), (Tle k hk c hc).2.1⟩) hv (fun R => ∃ (ans : Int32) (I2 : Nat → Nat → Int32), R = (some (.int ans), 161, I2, J, RF w') ∧ (∀ a k, p_any a k → I2 a k = I a k) ∧ ∀ v u0 u1 u2, s_best V (s_tp (s_bs x (N 3)).length 11) = some (v, u0, u1, u2) → (ii = (-1) → ans = v) ∧ (∀ j, ii = nI j → j < (s_bs x (N 3)).length → ans = nI (if j = 0 then u0 else if j = 1 then u1 else u2)) ∧ (¬ ii = (-1) → ¬ z_hs ii (s_bs x (N 3)).length → ans = (-1))) (fun I' h' g' x9 x10 x11 x12 x13 m1 m2 => by
          rw [s_twy_tp (by omega) (by omega)] at m1
          have sI : ∀ a k, p_any a k → I' a k = I a k := fun a k q => (m2 a k (by unfold p_any p_hour p_rows p_things p_lights p_eyes p_texts p_tape p_plates p_ages p_filters p_sheets at q; unfold s_scN s_scT; omega)).trans (sA a k q)
          by_cases i1 : ii = (-1)
          · subst i1
            refine ⟨_, m_mx_e1 E 91 I' J w' (nI e') (nI x) (nI y') (-1) h' g' 121 (s_bs x (N 3)).length x9 x10 x11 x12 x13 rfl rfl, g', I', rfl, sI, fun v u0 u1 u2 hb => ⟨fun _ => ?_, fun j hj _ => absurd hj.symm (z_nneg rfl (by omega) (by decide)), fun h => absurd rfl h⟩⟩
            rw [hb] at m1
            exact m1.2.1
          · by_cases i2 : z_hs ii (s_bs x (N 3)).length
            · obtain ⟨j, hj, rfl⟩ := z_hs_of i2
              refine ⟨_, m_mx_e2 E 91 I' J w' (nI e') (nI x) (nI y') h' g' 121 (s_bs x (N 3)).length j x9 x10 x11 x12 x13 rfl (by omega) hj, I' 146 j, I', rfl, sI, fun v u0 u1 u2 hb => ⟨fun h => absurd h i1, fun j' hj' _ => ?_, fun _ h => absurd i2 h⟩⟩
              rw [hb] at m1
              have ej : j = j' := (z_eqN (a := j) (b := j') rfl rfl (by omega) (by omega)).mp hj'
              subst ej
              obtain ⟨_, _, g3, g4, g5⟩ := m1
              rcases (by omega : j = 0 ∨ j = 1 ∨ j = 2) with e | e | e <;> subst e
              · exact g3
              · exact g4
              · exact g5
            · exact ⟨_, m_mx_e3 E 91 I' J w' (nI e') (nI x) (nI y') ii h' g' 121 (s_bs x (N 3)).length x9 x10 x11 x12 x13 rfl i1 (fun h => i2 ((z_hsM rfl (by omega)).mp h)), -1, I', rfl, sI, fun v u0 u1 u2 hb => ⟨fun h => absurd h i1, fun j hj hj2 => absurd (by rw [hj]; exact ⟨by rw [nI_toInt (by omega)]; omega, by rw [nI_toInt (by omega)]; omega⟩) i2, fun _ _ => rfl⟩⟩) 121 0 A 0 0 none none none none none (by omega) ⟨rfl, rfl⟩ (fun _ _ _ => rfl)
      obtain ⟨ans, I2, rfl, g1, g2⟩ := q3
      refine ⟨ans, I2, z_call (E := E) (d := 98) (M := z_m226) (mid := 226) (as := [.ref 127, .int (nI e'), .int (nI x), .int (nI y'), .int ii]) (z := 161) (σ := (S, J, RF w')) rfl rfl (m_mx_st E 91 S J w' (nI e') (nI y') ii x ((z_hsM ((hS _ _ (v_anyE (by unfold p_eyes; omega))).trans e2) (by omega)).mpr hc.1) ?_ ((z_hsM ((hS 127 9 (.inr (.inr (.inr (.inl (by unfold p_lights; omega)))))).trans l2) (by omega)).mpr hc.2.2) x31 (by rw [← s_bs_len, e20]; omega) ?_), g1, g2⟩
      · rw [(hS 127 9 (.inr (.inr (.inr (.inl (by unfold p_lights; omega)))))).trans l2]
        exact (z_setM (by omega)).mpr ⟨x, hx, rfl, mt (z_ltN (b := 1) rfl rfl (by omega) (by decide)).mp (by omega), mt (z_ltN (a := 3) rfl rfl (by decide) (by omega)).mp (by omega)⟩
      · rw [← eA, e20]; exact e3
    -- the class
    obtain ⟨v, u0, u1, u2, hb⟩ : ∃ v u0 u1 u2, s_best V (s_tp (s_bs x (N 3)).length 11) = some (v, u0, u1, u2) := by
      obtain ⟨⟨v, u0, u1, u2⟩, hz⟩ := s_best_ne V (s_tp_ne (n := (s_bs x (N 3)).length) (by omega) (by omega))
      exact ⟨v, u0, u1, u2, hz⟩
    obtain ⟨W, eW⟩ : ∃ W, W = z_u2 (z_u2 (z_u2 I 91 3 (nI e')) 91 4 (I 0 13)) 91 6 0 := ⟨_, rfl⟩
    have fW : ∀ a k, a ≠ 91 → W a k = I a k := fun a k h => by rw [eW, z_u2_n _ _ (by omega), z_u2_n _ _ (by omega), z_u2_n _ _ (by omega)]
    have run : ∃ I1, z_cl E (92 + 6) 42 [.ref 91, .int (nI x)] (161, W, J, RF (45 + y')) = some (none, 161, I1, J, RF (45 + y')) ∧ s_mxX I1 (s_best V (s_tp (s_bs x (N 3)).length 11)) ∧ ∀ a j, ¬ s_scX a j → a ≠ 93 → I1 a j = W a j := by
      refine x_mixQ E 92 J (45 + y') T V W x (N 3) ((fW _ _ (by decide)).trans l1) l3 x31 (by omega) (by omega) (by rw [eW]; rfl) (fun k hk c hc => ⟨(fW _ _ (by have := s_bs_mem hk; omega)).trans (Tle k hk c hc).1, (Tle k hk c hc).2.1⟩) (fun I1 u0 u1 u2 hu h1 h2 => ?_)
      have g3 : I1 91 3 = nI e' := (h1 _ _ (by unfold s_scX; omega) (by decide)).trans (by rw [eW]; rfl)
      have g4 : I1 91 4 = nI (N 0) := (h1 _ _ (by unfold s_scX; omega) (by decide)).trans (by rw [eW]; exact o1)
      rw [hV, g3, g4]
      exact v_likeX (A := fun c => s_mv (s_bs x (N 3)).length T u0 u1 u2 c) (B := v_LN I y') E 92 J (45 + y') (fun a k q => (h1 a k (by unfold p_any p_hour p_rows p_things p_lights p_eyes p_texts p_tape p_plates p_ages p_filters p_sheets at q; unfold s_scX; omega) (by unfold p_any p_hour p_rows p_things p_lights p_eyes p_texts p_tape p_plates p_ages p_filters p_sheets at q; omega)).trans (fW a k (by unfold p_any p_hour p_rows p_things p_lights p_eyes p_texts p_tape p_plates p_ages p_filters p_sheets at q; omega))) C z_A_96 (z_A_lights y' (by omega)) (by decide) (by omega) h2 (fun c hc => (h1 _ _ (by unfold s_scX; omega) (by omega)).trans ((fW _ _ (by omega)).trans (v_LN_eq H9 hy hc).1))
    obtain ⟨I1, t1', m1, m2⟩ := run
    rw [hb] at m1
    have s1 : ∀ a k, p_any a k → I1 a k = I a k := fun a k q => (m2 a k (by unfold p_any p_hour p_rows p_things p_lights p_eyes p_texts p_tape p_plates p_ages p_filters p_sheets at q; unfold s_scX; omega) (by unfold p_any p_hour p_rows p_things p_lights p_eyes p_texts p_tape p_plates p_ages p_filters p_sheets at q; omega)).trans (fW a k (by unfold p_any p_hour p_rows p_things p_lights p_eyes p_texts p_tape p_plates p_ages p_filters p_sheets at q; omega))
    have s4 : ∀ k, k < 160 → I1 134 k = I 134 k := fun k _ => (m2 _ _ (by unfold s_scX; omega) (by decide)).trans (fW _ _ (by decide))
    rw [eW] at t1'
    by_cases i1 : i = (-1)
    · subst i1
      have cx := z_call (E := E) (d := 98) (M := z_m145) (mid := 145) (as := [.ref 0, .int (nI e'), .int (nI x), .int (nI y'), .int (-1)]) (z := 161) (σ := (I, J, RF w)) rfl rfl (x_mixed_s1 E 92 I J w (nI e') x y' I1 x24 hbX heX (by omega) hyX (by omega) (by omega) t1')
      obtain ⟨R, I2, cm, g1, g2⟩ := ref I1 (45 + y') (-1) s1 s4
      rw [(g2 v u0 u1 u2 hb).1 rfl] at cm
      rw [m1.2.1] at cx
      exact ⟨v, I1, J, 45 + y', I2, J, 45 + y', cx, cm, N, v_Inv_eq H9 g1 (fun _ _ _ => rfl)⟩
    · by_cases i2 : z_hs i (s_bs x (N 3)).length
      · obtain ⟨j, hj, rfl⟩ := z_hs_of i2
        have cx := z_call (E := E) (d := 98) (M := z_m145) (mid := 145) (as := [.ref 0, .int (nI e'), .int (nI x), .int (nI y'), .int (nI j)]) (z := 161) (σ := (I, J, RF w)) rfl rfl (x_mixed_s2 E 92 I J w (nI e') x y' I1 j x24 hbX heX (by omega) hyX (by omega) (by omega) (by omega) t1')
        obtain ⟨R, I2, cm, g1, g2⟩ := ref I1 (45 + y') (nI j) s1 s4
        rw [(g2 v u0 u1 u2 hb).2.1 j rfl hj] at cm
        have ea : I1 94 j = nI (if j = 0 then u0 else if j = 1 then u1 else u2) := by
          obtain ⟨_, _, g3, g4, g5⟩ := m1
          rcases (by omega : j = 0 ∨ j = 1 ∨ j = 2) with e | e | e <;> subst e
          · exact g3
          · exact g4
          · exact g5
        rw [ea] at cx
        exact ⟨_, I1, J, 45 + y', I2, J, 45 + y', cx, cm, N, v_Inv_eq H9 g1 (fun _ _ _ => rfl)⟩
      · obtain ⟨R, I2, cm, g1, g2⟩ := ref I w i (fun _ _ _ => rfl) (fun _ _ => rfl)
        rw [(g2 v u0 u1 u2 hb).2.2 i1 i2] at cm
        refine ⟨-1, I, J, w, I2, J, w, x_mixed_none E 92 I J w (nI e') (nI y') i x x24 hbX heX hyX (by omega) (by omega) (fun h => i2 ?_), cm, N, v_Inv_eq H9 g1 (fun _ _ _ => rfl)⟩
        have h1 := h.1
        have h2 := h.2
        rw [Int32.lt_iff_toInt_lt, show ((-1) : Int32).toInt = -1 from rfl] at h1
        rw [Int32.lt_iff_toInt_lt, nI_toInt (by omega)] at h2
        have h3 : ¬ i.toInt = -1 := fun h => i1 (Int32.toInt_inj.mp h)
        exact ⟨by omega, by omega⟩
  · have hm : m_mixed_bad E 91 I J w e b y i = m_mixed_bad E 91 I J w e b y i := rfl
    have cm : z_cl E 99 226 [.ref 127, .int e, .int b, .int y, .int i] (161, I, J, RF w) = some (some (.int (-2)), 161, I, J, RF w) := m_mixed_bad E 91 I J w e b y i (fun q => hc ⟨(z_hsM e2 (by omega)).mp q.1, by
      obtain ⟨x, z1, z2, z3, z4⟩ := (z_setM (show N 3 < 31 by omega)).mp (by rw [← l2]; exact q.2.1)
      have := s_pn_le x (N 3)
      have k1' := mt (z_ltN (a := s_pn x (N 3)) (b := 1) rfl rfl (by omega) (by decide)).mpr z3
      have k2' := mt (z_ltN (a := 3) (b := s_pn x (N 3)) rfl rfl (by decide) (by omega)).mpr z4
      exact ⟨x, z1, z2, by omega, by omega⟩, (z_hsM l2 (by omega)).mp q.2.2⟩)
    by_cases h1 : z_hs e (N 4) ∧ (b &&& ((-1) <<< (I 43 1 &&& 31))) = 0
    · obtain ⟨x, hx, rfl⟩ := (z_belowX (show N 3 < 31 by omega)).mp (by rw [← l1]; exact h1.2)
      have x20 := p20 (N 3) l3
      have e24 := s_pn_24 l3 hx
      exact ⟨-2, I, J, w, I, J, w, x_mixed_bad2 E 92 I J w e y i x (by omega) h1.2 ((z_hsX e1 (by omega)).mpr h1.1) (fun z => hc ⟨h1.1, ⟨x, hx, rfl, by omega, by omega⟩, (z_hsX l1 (by omega)).mp z.2.2⟩), cm, N, H9⟩
    · exact ⟨-2, I, J, w, I, J, w, x_mixed_bad1 E 92 I J w e b y i (fun z => h1 ⟨(z_hsX e1 (by omega)).mp z.1, z.2⟩), cm, N, H9⟩
