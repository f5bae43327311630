-- PAIRS: calls that make a light or a row
theorem v_light_new {N : Nat → Nat} {I I2 : Nat → Nat → Int32} {J : Nat → Nat → Int64} (H : v_Inv N I J) (hf : N 3 < 20) (c1 : I2 43 1 = nI (N 3 + 1)) (c2 : I2 127 9 = nI (N 3 + 1)) (new : ∀ c, c < 8 → ∃ v, v ≤ 1000000000 ∧ I2 (45 + N 3) c = nI v ∧ I2 134 (8 * N 3 + c) = nI v) (same : ∀ a k, a ≠ 125 → a ≠ 126 → a ≠ 45 + N 3 → ¬ (a = 43 ∧ k = 1) → ¬ (a = 127 ∧ k = 9) → ¬ (a = 134 ∧ 8 * N 3 ≤ k ∧ k < 8 * N 3 + 8) → I2 a k = I a k) : ∃ N', v_Inv N' I2 J := by
  obtain ⟨hK0, hK1, hK2, ⟨l1, l2, l3, l4⟩, hK4, hK5, hK6, hK7, hK8, hK9, hK10⟩ := H
  refine ⟨(fun i => if i = 3 then N 3 + 1 else N i), ?_⟩
  exact ⟨v_hour_eq hK0 (fun a k q => by unfold p_hour at q; exact same a k (by omega) (by omega) (by omega) (by omega) (by omega) (by omega)), v_rows_eq hK1 (fun a k q => by unfold p_rows at q; exact same a k (by omega) (by omega) (by omega) (by omega) (by omega) (by omega)), v_things_eq hK2 (Nat.le_refl _) (Nat.le_refl _) (fun a k q => by unfold p_things at q; exact same a k (by omega) (by omega) (by omega) (by omega) (by omega) (by omega)), ⟨c1, c2, hf, fun l c hl hc => by
    by_cases e : l = N 3
    · subst e; exact new c hc
    · have hl' : l < N 3 := by
        have : l < N 3 + 1 := hl
        omega
      obtain ⟨v, v1, v2, v3⟩ := l4 l c hl' hc
      exact ⟨v, v1, (same _ _ (by omega) (by omega) (by omega) (by omega) (by omega) (by omega)).trans v2, (same _ _ (by omega) (by omega) (by omega) (by omega) (by omega) (by omega)).trans v3⟩⟩, v_eyes_eq hK4 (Nat.le_refl _) (fun a k q => by unfold p_eyes at q; exact same a k (by omega) (by omega) (by omega) (by omega) (by omega) (by omega)), v_texts_eq hK5 (fun a k q => by unfold p_texts at q; exact same a k (by omega) (by omega) (by omega) (by omega) (by omega) (by omega)), v_tape_eq hK6 (fun a k q => by unfold p_tape at q; exact same a k (by omega) (by omega) (by omega) (by omega) (by omega) (by omega)), v_plates_eq hK7 (Nat.le_succ _) (fun a k q => by unfold p_plates at q; exact same a k (by omega) (by omega) (by omega) (by omega) (by omega) (by omega)), v_ages_eq hK8 (fun a k q => by unfold p_ages at q; exact same a k (by omega) (by omega) (by omega) (by omega) (by omega) (by omega)), v_filters_eq hK9 (Nat.le_refl _) (fun k q => same 128 k (by omega) (by omega) (by omega) (by omega) (by omega) (by omega)) (fun a k q => by unfold p_filters at q; exact same a k (by omega) (by omega) (by omega) (by omega) (by omega) (by omega)) (fun _ _ _ => rfl), v_sheets_eq hK10 (fun a k q => by unfold p_sheets at q; exact same a k (by omega) (by omega) (by omega) (by omega) (by omega) (by omega))⟩
theorem v_row_new {N : Nat → Nat} {I I2 : Nat → Nat → Int32} {J : Nat → Nat → Int64} (H : v_Inv N I J) (hf : N 1 < 30) (c1 : I2 1 1 = nI (N 1 + 1)) (c2 : I2 127 1 = nI (N 1 + 1)) (new : ∀ c, c < 8 → ∃ v, v ≤ 999 ∧ I2 (3 + N 1) c = nI v ∧ I2 128 (8 * N 1 + c) = nI v) (same : ∀ a k, a ≠ 125 → a ≠ 3 + N 1 → ¬ (a = 1 ∧ k = 1) → ¬ (a = 127 ∧ k = 1) → ¬ (a = 128 ∧ 8 * N 1 ≤ k ∧ k < 8 * N 1 + 8) → I2 a k = I a k) : ∃ N', v_Inv N' I2 J := by
  obtain ⟨hK0, ⟨r1, r2, r3, r4⟩, hK2, hK3, hK4, hK5, hK6, hK7, hK8, hK9, hK10⟩ := H
  refine ⟨(fun i => if i = 1 then N 1 + 1 else N i), ?_⟩
  exact ⟨v_hour_eq hK0 (fun a k q => by unfold p_hour at q; exact same a k (by omega) (by omega) (by omega) (by omega) (by omega)), ⟨c1, c2, hf, fun l c hl hc => by
    by_cases e : l = N 1
    · subst e; exact new c hc
    · have hl' : l < N 1 := by
        have : l < N 1 + 1 := hl
        omega
      obtain ⟨v, v1, v2, v3⟩ := r4 l c hl' hc
      exact ⟨v, v1, (same _ _ (by omega) (by omega) (by omega) (by omega) (by omega)).trans v2, (same _ _ (by omega) (by omega) (by omega) (by omega) (by omega)).trans v3⟩⟩, v_things_eq hK2 (Nat.le_succ _) (Nat.le_refl _) (fun a k q => by unfold p_things at q; exact same a k (by omega) (by omega) (by omega) (by omega) (by omega)), v_lights_eq hK3 (fun a k q => by unfold p_lights at q; exact same a k (by omega) (by omega) (by omega) (by omega) (by omega)), v_eyes_eq hK4 (Nat.le_succ _) (fun a k q => by unfold p_eyes at q; exact same a k (by omega) (by omega) (by omega) (by omega) (by omega)), v_texts_eq hK5 (fun a k q => by unfold p_texts at q; exact same a k (by omega) (by omega) (by omega) (by omega) (by omega)), v_tape_eq hK6 (fun a k q => by unfold p_tape at q; exact same a k (by omega) (by omega) (by omega) (by omega) (by omega)), v_plates_eq hK7 (Nat.le_refl _) (fun a k q => by unfold p_plates at q; exact same a k (by omega) (by omega) (by omega) (by omega) (by omega)), v_ages_eq hK8 (fun a k q => by unfold p_ages at q; exact same a k (by omega) (by omega) (by omega) (by omega) (by omega)), v_filters_eq hK9 (Nat.le_succ _) (fun k q => same 128 k (by omega) (by omega) (by omega) (by omega) (by omega)) (fun a k q => by unfold p_filters at q; exact same a k (by omega) (by omega) (by omega) (by omega) (by omega)) (fun _ _ _ => rfl), v_sheets_eq hK10 (fun a k q => by unfold p_sheets at q; exact same a k (by omega) (by omega) (by omega) (by omega) (by omega))⟩
theorem v_cpy_in {f g : Nat → Int32} {c : Nat} (hc : c < 8) : va_cpy f g 0 0 8 c = f c := by
  unfold va_cpy
  rw [if_pos (by omega), show 0 + (c - 0) = c by omega]
theorem z_both9 {x y : Nat} (hx : x ≤ 1000000000) (hy : y ≤ 1000000000) : (if 1000000000 < nI x + nI y then (1000000000 : Int32) else nI x + nI y) = nI (s_m9 (x + y)) := by
  rw [nI_add]
  unfold s_m9
  by_cases h : 1000000000 < x + y
  · rw [if_pos h, if_pos (show (1000000000 : Int32) < nI (x + y) from (z_ltN (a := 1000000000) rfl rfl (by decide) (by omega)).mpr h)]; rfl
  · rw [if_neg h, if_neg (show ¬ (1000000000 : Int32) < nI (x + y) from mt (z_ltN (a := 1000000000) rfl rfl (by decide) (by omega)).mp h)]
theorem g_light (E : zE) (N : Nat → Nat) (I : Nat → Nat → Int32) (J : Nat → Nat → Int64) (w : Nat) (H : v_Inv N I J) (i : Int32) : v_GoI E 133 191 [.int i] I J w := by
  have H0 := H
  have H9 := H
  obtain ⟨⟨o1, o2, o3⟩, ⟨r1, r2, r3, r4⟩, ⟨t1, t2, t3, t4⟩, ⟨l1, l2, l3, l4⟩, ⟨e1, e2, e3, e4⟩, ⟨x1, x2, x3, x4, x5, x6, x7⟩, ⟨k1, k2, k3, k4⟩, ⟨p1, p2, p3, p4⟩, ⟨a1, a2, a3, a4⟩, ⟨f1, f2, f3, f4⟩, hsh⟩ := H
  obtain ⟨hK0, hK1, hK2, hK3, hK4, hK5, hK6, hK7, hK8, hK9, hK10⟩ := H0
  by_cases hc : z_hs i (N 1)
  · obtain ⟨i', hi, rfl⟩ := z_hs_of hc
    by_cases hf : N 3 < 20
    · obtain ⟨S1, e1'⟩ : ∃ S, S = z_u2 (z_ur I (45 + N 3) (va_cpy (I (3 + i')) (I (45 + N 3)) 0 0 8)) 43 1 (nI (N 3 + 1)) := ⟨_, rfl⟩
      have g1 : ∀ a k, a ≠ 45 + N 3 → ¬ (a = 43 ∧ k = 1) → S1 a k = I a k := fun a k q1 q2 => by rw [e1', z_u2_n _ _ q2, z_ur_n _ _ q1]
      have cx := x_light_ok E 97 I J w i' (N 1) (N 3) r1 r3 l1 hi hf
      rw [← e1'] at cx
      refine ⟨nI (N 3), S1, J, w, _, J, w, cx, m_light_ok E 96 S1 J w i' (N 1) (N 3) ((g1 _ _ (by omega) (by omega)).trans r2) r3 ((g1 _ _ (by omega) (by omega)).trans l2) hi hf, ?_⟩
      refine v_light_new H9 hf ?_ ?_ (fun c hc => ?_) (fun a k q1 q2 q3 q4 q5 q6 => ?_)
      · rw [z_u2_n _ _ (by omega), z_ur_n _ _ (by omega), e1', z_u2_same]
      · rw [z_u2_same]
      · obtain ⟨v, v1, v2, v3⟩ := r4 i' c hi hc
        refine ⟨v, by omega, ?_, ?_⟩
        · rw [z_u2_n _ _ (by omega), z_ur_n _ _ (by omega), e1', z_u2_n _ _ (by omega), z_ur_same, v_cpy_in hc]; exact v2
        · rw [z_u2_n _ _ (by omega), z_ur_same, z_fil_in (by omega), show 8 * N 3 + c - 8 * N 3 = c by omega, g1 _ _ (by omega) (by omega)]; exact v3
      · rw [z_u2_n _ _ q5]
        by_cases ea : a = 134
        · subst ea; rw [z_ur_same, z_fil_ge (by omega)]; exact g1 _ _ (by omega) (by omega)
        · rw [z_ur_n _ _ ea]; exact g1 _ _ (by omega) (by omega)
    · exact ⟨-4, I, J, w, I, J, w, x_light_full E 97 I J w i' (N 1) (N 3) r1 r3 l1 hi (by omega), m_light_full E 96 I J w i' (N 1) (N 3) r2 r3 l2 hi (by omega), N, H9⟩
  · exact ⟨(-2), I, J, w, I, J, w, x_light_bad E 97 I J w i (fun q => hc ((z_hsX r1 (by omega)).mp q)), m_light_bad E 96 I J w i (fun q => hc ((z_hsM r2 (by omega)).mp q)), N, H9⟩
theorem g_both (E : zE) (N : Nat → Nat) (I : Nat → Nat → Int32) (J : Nat → Nat → Int64) (w : Nat) (H : v_Inv N I J) (a : Int32) (b : Int32) : v_GoI E 135 193 [.int a, .int b] I J w := by
  have H0 := H
  have H9 := H
  obtain ⟨⟨o1, o2, o3⟩, ⟨r1, r2, r3, r4⟩, ⟨t1, t2, t3, t4⟩, ⟨l1, l2, l3, l4⟩, ⟨e1, e2, e3, e4⟩, ⟨x1, x2, x3, x4, x5, x6, x7⟩, ⟨k1, k2, k3, k4⟩, ⟨p1, p2, p3, p4⟩, ⟨a1, a2, a3, a4⟩, ⟨f1, f2, f3, f4⟩, hsh⟩ := H
  obtain ⟨hK0, hK1, hK2, hK3, hK4, hK5, hK6, hK7, hK8, hK9, hK10⟩ := H0
  by_cases hc : z_hs a (N 3) ∧ z_hs b (N 3)
  · obtain ⟨a', ha, rfl⟩ := z_hs_of hc.1
    obtain ⟨b', hb, rfl⟩ := z_hs_of hc.2
    by_cases hf : N 3 < 20
    · obtain ⟨S1, e1'⟩ : ∃ S, S = z_u2 (z_ur (z_ur I 125 (z_fil (I 125) 0 8 (fun c => (if 1000000000 < (I (45 + a') c).toInt64 + (I (45 + b') c).toInt64 then 1000000000 else (I (45 + a') c).toInt64 + (I (45 + b') c).toInt64).toInt32))) (45 + N 3) (va_cpy ((z_ur I 125 (z_fil (I 125) 0 8 (fun c => (if 1000000000 < (I (45 + a') c).toInt64 + (I (45 + b') c).toInt64 then 1000000000 else (I (45 + a') c).toInt64 + (I (45 + b') c).toInt64).toInt32))) 125) ((z_ur I 125 (z_fil (I 125) 0 8 (fun c => (if 1000000000 < (I (45 + a') c).toInt64 + (I (45 + b') c).toInt64 then 1000000000 else (I (45 + a') c).toInt64 + (I (45 + b') c).toInt64).toInt32))) (45 + N 3)) 0 0 8)) 43 1 (nI (N 3 + 1)) := ⟨_, rfl⟩
      have g1 : ∀ a k, a ≠ 125 → a ≠ 45 + N 3 → ¬ (a = 43 ∧ k = 1) → S1 a k = I a k := fun a k q0 q1 q2 => by rw [e1', z_u2_n _ _ q2, z_ur_n _ _ q1, z_ur_n _ _ q0]
      have cx := x_both_ok E 96 I J w a' b' (N 3) l1 l3 ha hb hf
      rw [← e1'] at cx
      refine ⟨nI (N 3), S1, J, w, _, J, w, cx, m_both_ok E 96 S1 J w a' b' (N 3) ((g1 _ _ (by omega) (by omega) (by omega)).trans l2) l3 ha hb hf, ?_⟩
      refine v_light_new H9 hf ?_ ?_ (fun c hc => ?_) (fun a k q1 q2 q3 q4 q5 q6 => ?_)
      · rw [z_u2_n _ _ (by omega), z_ur_n _ _ (by omega), e1', z_u2_same]
      · rw [z_u2_same]
      · obtain ⟨v, v1, v2, v3⟩ := l4 a' c ha hc
        obtain ⟨u, u1, u2, u3⟩ := l4 b' c hb hc
        refine ⟨s_m9 (v + u), s_m9_le _, ?_, ?_⟩
        · rw [z_u2_n _ _ (by omega), z_ur_n _ _ (by omega), e1', z_u2_n _ _ (by omega), z_ur_same, v_cpy_in hc, z_ur_same, z_fil_in0 hc, v2, u2, z_i64 (by omega), z_i64 (by omega), ← Int64.ofNat_add]
          exact z_lim9_nat (by omega)
        · rw [z_u2_n _ _ (by omega), z_ur_same, z_fil_in (by omega), show 8 * N 3 + c - 8 * N 3 = c by omega, g1 _ _ (by omega) (by omega) (by omega), g1 _ _ (by omega) (by omega) (by omega), v3, u3]
          exact z_both9 v1 u1
      · rw [z_u2_n _ _ q5]
        by_cases ea : a = 134
        · subst ea; rw [z_ur_same, z_fil_ge (by omega)]; exact g1 _ _ (by omega) (by omega) (by omega)
        · rw [z_ur_n _ _ ea]; exact g1 _ _ (by omega) (by omega) (by omega)
    · exact ⟨-4, I, J, w, I, J, w, x_both_full E 96 I J w a' b' (N 3) l1 l3 ha hb (by omega), m_both_full E 96 I J w a' b' (N 3) l2 l3 ha hb (by omega), N, H9⟩
  · exact ⟨(-2), I, J, w, I, J, w, x_both_bad E 96 I J w a b (fun q => hc ⟨(z_hsX l1 (by omega)).mp q.1, (z_hsX l1 (by omega)).mp q.2⟩), m_both_bad E 96 I J w a b (fun q => hc ⟨(z_hsM l2 (by omega)).mp q.1, (z_hsM l2 (by omega)).mp q.2⟩), N, H9⟩
theorem z_dig_n {x : Nat} (hx : x < 1000000000000) : ∀ c, z_dig (Int64.ofNat x) c = Int64.ofNat (x / 1000 ^ c)
  | 0 => by rw [Nat.pow_zero, Nat.div_one]; rfl
  | c + 1 => by
    show z_dig (Int64.ofNat x) c / 1000 = _
    have := Nat.div_le_self x (1000 ^ c)
    rw [z_dig_n hx c, show (1000 : Int64) = Int64.ofNat 1000 from rfl, z_dv64 (by omega) (by decide) (by decide), Nat.div_div_eq_div_mul, Nat.pow_succ]
theorem z_dig_v {u : Int64} (h : ¬ u < 0 ∧ u < 1000000000000) (c : Nat) : ∃ v, v ≤ 999 ∧ (z_dig u c - z_dig u c / 1000 * 1000).toInt32 = nI v := by
  have h0 : 0 ≤ u.toInt := by
    have := h.1
    rw [Int64.lt_iff_toInt_lt, show (0 : Int64).toInt = 0 from rfl] at this
    omega
  have h1 : u.toInt < 1000000000000 := by
    have := h.2
    rw [Int64.lt_iff_toInt_lt, show (1000000000000 : Int64).toInt = 1000000000000 from rfl] at this
    exact this
  have eu : u = Int64.ofNat u.toInt.toNat := by
    apply Int64.toInt_inj.1
    rw [Int64.toInt_ofNat_of_lt (by omega)]; omega
  obtain ⟨x, hx, rfl⟩ : ∃ x, x < 1000000000000 ∧ u = Int64.ofNat x := ⟨u.toInt.toNat, by omega, eu⟩
  have hy := Nat.div_le_self x (1000 ^ c)
  refine ⟨x / 1000 ^ c % 1000, by omega, ?_⟩
  rw [z_dig_n hx]
  generalize x / 1000 ^ c = z at hy
  rw [show (1000 : Int64) = Int64.ofNat 1000 from rfl, z_dv64 (by omega) (by decide) (by decide), ← Int64.ofNat_mul]
  have e2 : Int64.ofNat z - Int64.ofNat (z / 1000 * 1000) = Int64.ofNat (z % 1000) := by
    rw [Int64.sub_eq_iff_eq_add, ← Int64.ofNat_add]
    congr 1
    omega
  rw [e2, z_to32 (by omega)]
theorem g_row (E : zE) (N : Nat → Nat) (I : Nat → Nat → Int32) (J : Nat → Nat → Int64) (w : Nat) (H : v_Inv N I J) (u : Int64) (v : Int64) : v_GoI E 129 181 [.long u, .long v] I J w := by
  have H0 := H
  have H9 := H
  obtain ⟨⟨o1, o2, o3⟩, ⟨r1, r2, r3, r4⟩, ⟨t1, t2, t3, t4⟩, ⟨l1, l2, l3, l4⟩, ⟨e1, e2, e3, e4⟩, ⟨x1, x2, x3, x4, x5, x6, x7⟩, ⟨k1, k2, k3, k4⟩, ⟨p1, p2, p3, p4⟩, ⟨a1, a2, a3, a4⟩, ⟨f1, f2, f3, f4⟩, hsh⟩ := H
  obtain ⟨hK0, hK1, hK2, hK3, hK4, hK5, hK6, hK7, hK8, hK9, hK10⟩ := H0
  by_cases hc : (¬ u < 0 ∧ u < 1000000000000) ∧ (¬ v < 0 ∧ v < 1000000000000)
  · by_cases hf : N 1 < 30
    · obtain ⟨S1, e1'⟩ : ∃ S, S = z_u2 (z_ur (z_ur (z_ur I 125 (z_fil (I 125) 0 4 (fun c => (z_dig u c - z_dig u c / 1000 * 1000).toInt32))) 125 (z_fil ((z_ur I 125 (z_fil (I 125) 0 4 (fun c => (z_dig u c - z_dig u c / 1000 * 1000).toInt32))) 125) 4 4 (fun c => (z_dig v c - z_dig v c / 1000 * 1000).toInt32))) (3 + N 1) (va_cpy ((z_ur (z_ur I 125 (z_fil (I 125) 0 4 (fun c => (z_dig u c - z_dig u c / 1000 * 1000).toInt32))) 125 (z_fil ((z_ur I 125 (z_fil (I 125) 0 4 (fun c => (z_dig u c - z_dig u c / 1000 * 1000).toInt32))) 125) 4 4 (fun c => (z_dig v c - z_dig v c / 1000 * 1000).toInt32))) 125) ((z_ur (z_ur I 125 (z_fil (I 125) 0 4 (fun c => (z_dig u c - z_dig u c / 1000 * 1000).toInt32))) 125 (z_fil ((z_ur I 125 (z_fil (I 125) 0 4 (fun c => (z_dig u c - z_dig u c / 1000 * 1000).toInt32))) 125) 4 4 (fun c => (z_dig v c - z_dig v c / 1000 * 1000).toInt32))) (3 + N 1)) 0 0 8)) 1 1 (nI (N 1 + 1)) := ⟨_, rfl⟩
      have g1 : ∀ a k, a ≠ 125 → a ≠ 3 + N 1 → ¬ (a = 1 ∧ k = 1) → S1 a k = I a k := fun a k q0 q1 q2 => by rw [e1', z_u2_n _ _ q2, z_ur_n _ _ q1, z_ur_n _ _ q0, z_ur_n _ _ q0]
      have cx := x_row_ok E 97 I J w u v (N 1) r1 r3 hc.1 hc.2 hf
      rw [← e1'] at cx
      refine ⟨nI (N 1), S1, J, w, _, J, w, cx, m_row_ok E 97 S1 J w u v (N 1) ((g1 _ _ (by omega) (by omega) (by omega)).trans r2) r3 hc.1 hc.2 hf, ?_⟩
      refine v_row_new H9 hf ?_ ?_ (fun c hcc => ?_) (fun a k q1 q3 q4 q5 q6 => ?_)
      · rw [z_u2_n _ _ (by omega), z_ur_n _ _ (by omega), e1', z_u2_same]
      · rw [z_u2_same]
      · by_cases c4 : c < 4
        · obtain ⟨x, y1, y2⟩ := z_dig_v hc.1 c
          refine ⟨x, y1, ?_, ?_⟩
          · rw [z_u2_n _ _ (by omega), z_ur_n _ _ (by omega), e1', z_u2_n _ _ (by omega), z_ur_same, v_cpy_in hcc, z_ur_same, z_fil_ge (by omega), z_ur_same, z_fil_in0 c4]; exact y2
          · rw [z_u2_n _ _ (by omega), z_ur_same, z_fil_ge (by omega), z_fil_in (by omega), show 8 * N 1 + c - 8 * N 1 = c by omega]; exact y2
        · obtain ⟨x, y1, y2⟩ := z_dig_v hc.2 (c - 4)
          refine ⟨x, y1, ?_, ?_⟩
          · rw [z_u2_n _ _ (by omega), z_ur_n _ _ (by omega), e1', z_u2_n _ _ (by omega), z_ur_same, v_cpy_in hcc, z_ur_same, z_fil_in (by omega)]; exact y2
          · rw [z_u2_n _ _ (by omega), z_ur_same, z_fil_in (by omega), show 8 * N 1 + c - (8 * N 1 + 4) = c - 4 by omega]; exact y2
      · rw [z_u2_n _ _ q5]
        by_cases ea : a = 128
        · subst ea; rw [z_ur_same, z_fil_ge (by omega), z_fil_ge (by omega)]; exact g1 _ _ (by omega) (by omega) (by omega)
        · rw [z_ur_n _ _ ea]; exact g1 _ _ (by omega) (by omega) (by omega)
    · exact ⟨-4, I, J, w, I, J, w, x_row_full E 97 I J w u v (N 1) r1 r3 hc.1 hc.2 (by omega), m_row_full E 97 I J w u v (N 1) r2 r3 hc.1 hc.2 (by omega), N, H9⟩
  · exact ⟨(-2), I, J, w, I, J, w, x_row_bad E 97 I J w u v (fun q => hc q), m_row_bad E 97 I J w u v (fun q => hc q), N, H9⟩
