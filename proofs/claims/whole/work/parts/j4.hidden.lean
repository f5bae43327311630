-- PAIRS: hidden
theorem v_fit {N : Nat → Nat} {I : Nat → Nat → Int32} {J : Nat → Nat → Int64} (H : v_Inv N I J) (E : zE) (d w : Nat) : ∃ I1 J1 F, z_cl E (d + 4) 28 [.ref 110] (161, I, J, RF w) = some (some (.int (nI (s_c2 F 256))), 161, I1, J1, RF w) ∧ (∀ a b, a < 256 → b < 256 → F a b = s_FJ J a b) ∧ s_HR F I1 ∧ I1 110 9 = 1 ∧ (∀ a k, ¬ s_scH a k → ¬ (a = 110 ∧ k = 9) → I1 a k = I a k) ∧ ∀ x k, x ≠ 112 → x ≠ 113 → J1 x k = J x k := by
  obtain ⟨f1, f2, f3, r, rd, f4, f5, f6, f7⟩ := H.2.2.2.2.2.2.2.2.2.1
  rcases f7 with f7 | ⟨f7, F, g1, g2⟩
  · obtain ⟨I1, J1, F, e1, g1, g2, g3, g4⟩ := x_searchQ E d I J w
    have t := z_call (E := E) (d := d + 3) (M := z_m28) (mid := 28) (as := [.ref 110]) (z := 161) (σ := (I, J, RF w)) rfl rfl (x_ft_u E d I J w I1 J1 f7 e1)
    rw [g2.1] at t
    refine ⟨z_u2 I1 110 9 1, J1, F, t, g1, ⟨g2.1, fun j hj => g2.2.1 j hj, fun j hj => g2.2.2 j hj⟩, rfl, fun a k h1 h2 => by rw [z_u2_n _ _ h2]; exact g3 a k h1, g4⟩
  · have t := z_call (E := E) (d := d + 3) (M := z_m28) (mid := 28) (as := [.ref 110]) (z := 161) (σ := (I, J, RF w)) rfl rfl (x_ft_k E d I J w (by rw [f7]; decide))
    rw [g2.1] at t
    exact ⟨I, J, F, t, g1, g2, f7, fun _ _ _ _ => rfl, fun _ _ _ _ => rfl⟩
theorem g_hidden (E : zE) (N : Nat → Nat) (I : Nat → Nat → Int32) (J : Nat → Nat → Int64) (w : Nat) (H : v_Inv N I J) (v c : Int32) : v_GoI E 159 245 [.int v, .int c] I J w := by
  have H9 := H
  obtain ⟨-, ⟨r1, r2, r3, r4⟩, -, -, -, -, -, -, -, ⟨f1, f2, f3, rr, rd, f4, f5, f6, f7⟩, -⟩ := H
  by_cases hc : z_hs v 3 ∧ (¬ 0 < v ∨ z_hs c 8)
  · obtain ⟨v', hv, rfl⟩ := z_hs_of hc.1
    obtain ⟨I1, J1, F, cf, gF, gR, g9, gI, gJ⟩ := v_fit H9 E 94 w
    have sI : ∀ a k, ¬ s_scH a k → ¬ (a = 110 ∧ k = 9) → I1 a k = I a k := gI
    have J111 : ∀ k, J1 111 k = J 111 k := fun k => gJ _ _ (by decide) (by decide)
    have J110 : ∀ k, J1 110 k = J 110 k := fun k => gJ _ _ (by decide) (by decide)
    have pJ : ∀ a k, p_J a k → J1 a k = J a k := fun a k h => by unfold p_J at h; exact gJ _ _ (by omega) (by omega)
    have row128 : ∀ k, I1 128 k = I 128 k := fun k => sI _ _ (by unfold s_scH; omega) (by omega)
    have wx : ∀ f, f < N 10 → ∀ k, k < 8 → I 128 (8 * rr f + k) = nI (I 128 (8 * rr f + k)).toNatClampNeg ∧ (I 128 (8 * rr f + k)).toNatClampNeg ≤ 999 := fun f hf k hk => by
      obtain ⟨y, y1, y2, y3⟩ := r4 (rr f) k (f4 f hf).1 hk
      rw [z_natE y3 (by omega)]
      exact ⟨y3, y1⟩
    obtain ⟨G, hG⟩ : ∃ G : Nat → Bool, G = fun u => decide (∀ f, f < N 10 → s_sm (fun k => s_dgt u k * v_W I rr f k) 8 = rd f) := ⟨_, rfl⟩
    have GF : ∀ a b, a < 256 → b < 256 → G (256 * b + a) = F a b := fun a b ha hb => by
      rw [gF a b ha hb, hG, s_FG (W := fun f k => v_W I rr f k) (rd := rd) f3 (fun f k _ _ => by show v_W I rr f k ≤ 9; unfold v_W; omega) (fun f hf => (f4 f hf).2.1) f5 f6 ha hb]
    have cnt := s_ct_c2 GF
    have inv : v_Inv N I1 J1 := by
      obtain ⟨hK0, hK1, hK2, hK3, hK4, hK5, hK6, hK7, hK8, hK9, hK10⟩ := H9
      exact ⟨v_hour_eq hK0 (fun a k q => by unfold p_hour at q; exact sI a k (by unfold s_scH; omega) (by omega)), v_rows_eq hK1 (fun a k q => by unfold p_rows at q; exact sI a k (by unfold s_scH; omega) (by omega)), v_things_eq hK2 (Nat.le_refl _) (Nat.le_refl _) (fun a k q => by unfold p_things at q; exact sI a k (by unfold s_scH; omega) (by omega)), v_lights_eq hK3 (fun a k q => by unfold p_lights at q; exact sI a k (by unfold s_scH; omega) (by omega)), v_eyes_eq hK4 (Nat.le_refl _) (fun a k q => by unfold p_eyes at q; exact sI a k (by unfold s_scH; omega) (by omega)), v_texts_eq hK5 (fun a k q => by unfold p_texts at q; exact sI a k (by unfold s_scH; omega) (by omega)), v_tape_eq hK6 (fun a k q => by unfold p_tape at q; exact sI a k (by unfold s_scH; omega) (by omega)), v_plates_eq hK7 (Nat.le_refl _) (fun a k q => by unfold p_plates at q; exact sI a k (by unfold s_scH; omega) (by omega)), v_ages_eq hK8 (fun a k q => by unfold p_ages at q; exact sI a k (by unfold s_scH; omega) (by omega)), ⟨(sI _ _ (by unfold s_scH; omega) (by omega)).trans f1, (sI _ _ (by unfold s_scH; omega) (by omega)).trans f2, f3, rr, rd, fun f hf => ⟨(f4 f hf).1, (f4 f hf).2.1, (sI _ _ (by unfold s_scH; omega) (by omega)).trans (f4 f hf).2.2.1, (sI _ _ (by unfold s_scH; omega) (by omega)).trans (f4 f hf).2.2.2⟩, fun k hk => by
          rw [J111, f5 k hk]
          exact congrArg Int64.ofNat (s_pk_congr (fun f hf => by unfold v_W; rw [row128])), (J110 1).trans f6, .inr ⟨g9, F, fun a b ha hb => (gF a b ha hb).trans (s_FJ_eq pJ).symm, gR⟩⟩, v_sheets_eq hK10 (fun a k q => by unfold p_sheets at q; exact sI a k (by unfold s_scH; omega) (by omega))⟩
    have fits : ∀ u, u < 65536 → z_cl E (95 + 3) 244 [.ref 127, .int (nI u)] (161, I1, J1, RF w) = some (some (.int (bif G u then 1 else 0)), 161, I1, J1, RF w) := fun u hu => by
      have t := m_fits E 97 I1 J1 w (nI u) (N 10) rr ((sI _ _ (by unfold s_scH; omega) (by omega)).trans f2) f3 (fun t ht => ⟨(sI _ _ (by unfold s_scH; omega) (by omega)).trans (f4 t ht).2.2.1, Nat.lt_of_lt_of_le (f4 t ht).1 r3⟩)
      have key : (∀ t, t < N 10 → s_fsum (fun c => I1 128 (8 * rr t + c)) (nI u) 8 = I1 156 t) ↔ ∀ f, f < N 10 → s_sm (fun k => s_dgt u k * v_W I rr f k) 8 = rd f := forall_congr' fun f => forall_congr' fun hf => by
        rw [s_fsum_n (x := fun k => (I 128 (8 * rr f + k)).toNatClampNeg) (fun k hk => ⟨(row128 _).trans (wx f hf k hk).1, (wx f hf k hk).2⟩) hu 8 (Nat.le_refl 8), sI 156 f (by unfold s_scH; omega) (by omega), (f4 f hf).2.2.2]
        have b1 : s_sm (fun k => s_dgt u k * v_W I rr f k) 8 ≤ 27 * 8 := s_sm_27 (u := u) (x := fun k => (I 128 (8 * rr f + k)).toNatClampNeg) 8
        have b2 := (f4 f hf).2.1
        exact z_eqN (a := s_sm (fun k => s_dgt u k * v_W I rr f k) 8) (b := rd f) rfl rfl (by omega) (by omega)
      rw [z_bo_congr key] at t
      cases hg : G u with
      | true =>
        rw [z_bo_t (by rw [hG] at hg; exact of_decide_eq_true hg)] at t
        exact t
      | false =>
        rw [z_bo_f (by rw [hG] at hg; exact of_decide_eq_false hg)] at t
        exact t
    have fits1 : ∀ u, u < 65536 → G u = true → z_cl E (95 + 3) 244 [.ref 127, .int (nI u)] (161, I1, J1, RF w) = some (some (.int 1), 161, I1, J1, RF w) := fun u hu hg => by
      have t := fits u hu
      rw [hg] at t
      exact t
    have c2 := s_c2_le F 256
    have goI : ∀ (a : Int32), z_cl E 99 159 [.ref 0, .int (nI v'), .int c] (161, I, J, RF w) = some (some (.int a), 161, I1, J1, RF w) → z_cl E 99 245 [.ref 127, .int (nI v'), .int c] (161, I1, J1, RF w) = some (some (.int a), 161, I1, J1, RF w) → v_GoI E 159 245 [.int (nI v'), .int c] I J w := fun a h1 h2 => ⟨a, I1, J1, w, I1, J1, w, h1, h2, N, inv⟩
    rcases (by omega : v' = 0 ∨ v' = 1 ∨ v' = 2) with e | e | e <;> subst e
    · -- how many
      obtain ⟨n', l', m', x7', q1, q2⟩ := m_hidL E 95 I1 J1 w (nI 0) c G (fun _ => 0) (fun _ => by decide) (fun u hu => by have t := fits u hu; exact t) (fun u hu hg n l m x7 r h => m_hd_y0 E 95 I1 J1 w (nI 0) c n l m u x7 hu (fits1 u hu hg) (by decide) h) 65536 0 0 9 (-1) none (by omega) ⟨rfl, .inl ⟨rfl, rfl, rfl⟩⟩
      refine goI (nI (s_c2 F 256)) (z_call (E := E) (d := 98) (M := z_m159) (mid := 159) (as := [.ref 0, .int 0, .int c]) (z := 161) (σ := (I, J, RF w)) rfl rfl (x_hidden_0 E 94 I J w c _ I1 J1 cf)) ?_
      have t := z_call (E := E) (d := 98) (M := z_m245) (mid := 245) (as := [.ref 127, .int 0, .int c]) (z := 161) (σ := (I1, J1, RF w)) rfl rfl (m_hd_a0 E 95 I1 J1 w c (q2 _ (m_hd_e0 E 95 I1 J1 w c n' l' m' 65536 x7' rfl)))
      rw [q1.1, cnt] at t
      exact t
    · -- the least
      obtain ⟨c', hcc, rfl⟩ : ∃ c', c' < 8 ∧ c = nI c' := by
        rcases hc.2 with z | z
        · exact absurd (by decide) z
        · obtain ⟨k, k1, k2⟩ := z_hs_of z; exact ⟨k, k1, k2⟩
      have hcX : ¬ nI c' < 0 ∧ nI c' < 8 := (z_hsX (m := 8) (n := 8) rfl (by decide)).mpr ⟨by rw [nI_toInt (by omega)]; omega, by rw [nI_toInt (by omega)]; omega⟩
      have hcM : ¬ nI c' < 0 ∧ ¬ 7 < nI c' := (z_hsK (m := 7) (n := 7) rfl (by decide)).mpr ⟨by rw [nI_toInt (by omega)]; omega, by rw [nI_toInt (by omega)]; omega⟩
      obtain ⟨n', l', m', x7', q1, q2⟩ := m_hidL E 95 I1 J1 w (nI 1) (nI c') G (fun u => s_dgt u c') (fun u => s_dgt_le u c') (fun u hu => by have t := fits u hu; exact t) (fun u hu hg n l m x7 r h => m_hd_y1 E 95 I1 J1 w (nI 1) (nI c') n l m u x7 hu (fits1 u hu hg) (by decide) (by rw [s_dr_n (by omega) (by omega)]; exact h)) 65536 0 0 9 (-1) none (by omega) ⟨rfl, .inl ⟨rfl, rfl, rfl⟩⟩
      have en : n' = nI (s_c2 F 256) := by rw [q1.1, cnt]
      by_cases z0 : s_c2 F 256 = 0
      · refine goI (-1) (z_call (E := E) (d := 98) (M := z_m159) (mid := 159) (as := [.ref 0, .int 1, .int (nI c')]) (z := 161) (σ := (I, J, RF w)) rfl rfl (x_hidden_1n E 94 I J w (nI c') _ I1 J1 hcX (by rw [z0]; rfl) cf)) (z_call (E := E) (d := 98) (M := z_m245) (mid := 245) (as := [.ref 127, .int 1, .int (nI c')]) (z := 161) (σ := (I1, J1, RF w)) rfl rfl (m_hd_a1 E 95 I1 J1 w (nI c') hcM (q2 _ (m_hd_e1n E 95 I1 J1 w (nI c') n' l' m' 65536 x7' rfl (by rw [en, z0]; rfl)))))
      · have nz : ¬ nI (s_c2 F 256) = 0 := mt (z_eqN (a := s_c2 F 256) (b := 0) rfl rfl (by omega) (by decide)).mp z0
        have cx := z_call (E := E) (d := 98) (M := z_m159) (mid := 159) (as := [.ref 0, .int 1, .int (nI c')]) (z := 161) (σ := (I, J, RF w)) rfl rfl (x_hidden_1 E 94 I J w c' _ I1 J1 hcc nz cf)
        have cm := z_call (E := E) (d := 98) (M := z_m245) (mid := 245) (as := [.ref 127, .int 1, .int (nI c')]) (z := 161) (σ := (I1, J1, RF w)) rfl rfl (m_hd_a1 E 95 I1 J1 w (nI c') hcM (q2 _ (m_hd_e1 E 95 I1 J1 w (nI c') n' l' m' 65536 x7' rfl (by rw [en]; exact nz))))
        obtain ⟨lo, hi, k1, k2, k3, k4⟩ : ∃ lo hi, l' = nI lo ∧ m' = nI hi ∧ s_ismin G (fun u => s_dgt u c') 65536 lo ∧ s_ismax G (fun u => s_dgt u c') 65536 hi := by
          rcases q1.2 with h | h
          · exact absurd (cnt.symm.trans h.1) z0
          · exact h
        have val : I1 115 c' = nI lo := by
          by_cases c4 : c' < 4
          · rw [(gR.2.1 c' c4).1, (s_alike_low GF c4 k3 k4).1]
          · obtain ⟨j, rfl⟩ : ∃ j, c' = 4 + j := ⟨c' - 4, by omega⟩
            rw [(gR.2.2 j (by omega)).1, (s_alike_high GF (by omega) k3 k4).1]
        rw [val] at cx
        rw [k1] at cm
        exact goI _ cx cm
    · -- the most
      obtain ⟨c', hcc, rfl⟩ : ∃ c', c' < 8 ∧ c = nI c' := by
        rcases hc.2 with z | z
        · exact absurd (by decide) z
        · obtain ⟨k, k1, k2⟩ := z_hs_of z; exact ⟨k, k1, k2⟩
      have hcX : ¬ nI c' < 0 ∧ nI c' < 8 := (z_hsX (m := 8) (n := 8) rfl (by decide)).mpr ⟨by rw [nI_toInt (by omega)]; omega, by rw [nI_toInt (by omega)]; omega⟩
      have hcM : ¬ nI c' < 0 ∧ ¬ 7 < nI c' := (z_hsK (m := 7) (n := 7) rfl (by decide)).mpr ⟨by rw [nI_toInt (by omega)]; omega, by rw [nI_toInt (by omega)]; omega⟩
      obtain ⟨n', l', m', x7', q1, q2⟩ := m_hidL E 95 I1 J1 w (nI 2) (nI c') G (fun u => s_dgt u c') (fun u => s_dgt_le u c') (fun u hu => by have t := fits u hu; exact t) (fun u hu hg n l m x7 r h => m_hd_y1 E 95 I1 J1 w (nI 2) (nI c') n l m u x7 hu (fits1 u hu hg) (by decide) (by rw [s_dr_n (by omega) (by omega)]; exact h)) 65536 0 0 9 (-1) none (by omega) ⟨rfl, .inl ⟨rfl, rfl, rfl⟩⟩
      have en : n' = nI (s_c2 F 256) := by rw [q1.1, cnt]
      by_cases z0 : s_c2 F 256 = 0
      · refine goI (-1) (z_call (E := E) (d := 98) (M := z_m159) (mid := 159) (as := [.ref 0, .int 2, .int (nI c')]) (z := 161) (σ := (I, J, RF w)) rfl rfl (x_hidden_2n E 94 I J w (nI c') _ I1 J1 hcX (by rw [z0]; rfl) cf)) (z_call (E := E) (d := 98) (M := z_m245) (mid := 245) (as := [.ref 127, .int 2, .int (nI c')]) (z := 161) (σ := (I1, J1, RF w)) rfl rfl (m_hd_a2 E 95 I1 J1 w (nI c') hcM (q2 _ (m_hd_e2n E 95 I1 J1 w (nI c') n' l' m' 65536 x7' rfl (by rw [en, z0]; rfl)))))
      · have nz : ¬ nI (s_c2 F 256) = 0 := mt (z_eqN (a := s_c2 F 256) (b := 0) rfl rfl (by omega) (by decide)).mp z0
        have cx := z_call (E := E) (d := 98) (M := z_m159) (mid := 159) (as := [.ref 0, .int 2, .int (nI c')]) (z := 161) (σ := (I, J, RF w)) rfl rfl (x_hidden_2 E 94 I J w c' _ I1 J1 hcc nz cf)
        have cm := z_call (E := E) (d := 98) (M := z_m245) (mid := 245) (as := [.ref 127, .int 2, .int (nI c')]) (z := 161) (σ := (I1, J1, RF w)) rfl rfl (m_hd_a2 E 95 I1 J1 w (nI c') hcM (q2 _ (m_hd_e2 E 95 I1 J1 w (nI c') n' l' m' 65536 x7' rfl (by rw [en]; exact nz))))
        obtain ⟨lo, hi, k1, k2, k3, k4⟩ : ∃ lo hi, l' = nI lo ∧ m' = nI hi ∧ s_ismin G (fun u => s_dgt u c') 65536 lo ∧ s_ismax G (fun u => s_dgt u c') 65536 hi := by
          rcases q1.2 with h | h
          · exact absurd (cnt.symm.trans h.1) z0
          · exact h
        have val : I1 116 c' = nI hi := by
          by_cases c4 : c' < 4
          · rw [(gR.2.1 c' c4).2, (s_alike_low GF c4 k3 k4).2]
          · obtain ⟨j, rfl⟩ : ∃ j, c' = 4 + j := ⟨c' - 4, by omega⟩
            rw [(gR.2.2 j (by omega)).2, (s_alike_high GF (by omega) k3 k4).2]
        rw [val] at cx
        rw [k2] at cm
        exact goI _ cx cm
  · exact ⟨-2, I, J, w, I, J, w, x_hidden_bad E 94 I J w v c (fun q => hc ⟨(z_hsK (m := 2) (n := 2) rfl (by decide)).mp ⟨q.1, q.2.1⟩, by rcases q.2.2 with z | z; exact .inl z; exact .inr ((z_hsX (m := 8) (n := 8) rfl (by decide)).mp z)⟩), m_hidden_bad E 97 I J w v c (fun q => hc ⟨(z_hsK (m := 2) (n := 2) rfl (by decide)).mp q.1, by rcases q.2 with z | z; exact .inl z; exact .inr ((z_hsK (m := 7) (n := 7) rfl (by decide)).mp z)⟩), N, H9⟩
