-- PAIRS: the host
theorem z_holdsX {a : Nat} {i n : Int32} (ha : a ≤ 40) : (¬ i < 0 ∧ ¬ n < 0 ∧ ¬ nI a < i ∧ ¬ nI a - i < n) ↔ ∃ x y, i = nI x ∧ n = nI y ∧ x + y ≤ a := by
  constructor
  · rintro ⟨h1, h2, h3, h4⟩
    obtain ⟨x, x1, rfl⟩ := z_hs_of ((z_hsK (m := nI a) (n := a) rfl (by omega)).mp ⟨h1, h3⟩)
    rw [z_sub (show x ≤ a by omega)] at h4
    obtain ⟨y, y1, rfl⟩ := z_hs_of ((z_hsK (m := nI (a - x)) (n := a - x) rfl (by omega)).mp ⟨h2, h4⟩)
    exact ⟨x, y, rfl, rfl, by omega⟩
  · rintro ⟨x, y, rfl, rfl, h⟩
    rw [z_sub (show x ≤ a by omega)]
    have z1 : ∀ k, k ≤ 40 → ¬ nI k < 0 := fun k hk => mt (z_ltN (b := 0) rfl rfl (by omega) (by decide)).mp (by omega)
    exact ⟨z1 x (by omega), z1 y (by omega), mt (z_ltN rfl rfl (by omega) (by omega)).mp (by omega), mt (z_ltN rfl rfl (by omega) (by omega)).mp (by omega)⟩
theorem z_holdsM {a : Nat} {i n : Int32} (ha : a ≤ 40) (hi : ¬ i < 0) (hn : ¬ n < 0) : ¬ nI a - n < i ↔ ∃ x y, i = nI x ∧ n = nI y ∧ x + y ≤ a := by
  have i0 : 0 ≤ i.toInt := by rw [Int32.lt_iff_toInt_lt, show (0 : Int32).toInt = 0 from rfl] at hi; omega
  have n0 : 0 ≤ n.toInt := by rw [Int32.lt_iff_toInt_lt, show (0 : Int32).toInt = 0 from rfl] at hn; omega
  have i1 := Int32.toInt_lt i
  have n1 := Int32.toInt_lt n
  have e : (nI a - n).toInt = a - n.toInt := by rw [Int32.toInt_sub, nI_toInt (by omega), Int.bmod_eq_of_le (by omega) (by omega)]
  rw [Int32.lt_iff_toInt_lt, e]
  have of : ∀ z : Int32, 0 ≤ z.toInt → z = nI z.toInt.toNat := fun z hz => by
    have := Int32.toInt_lt z
    apply Int32.toInt_inj.1
    rw [nI_toInt (by omega)]; omega
  constructor
  · intro h
    exact ⟨i.toInt.toNat, n.toInt.toNat, of i i0, of n n0, by omega⟩
  · rintro ⟨x, y, rfl, rfl, h⟩
    have hx : x < 2 ^ 31 := by omega
    have hy : y < 2 ^ 31 := by omega
    rw [nI_toInt hx, nI_toInt hy]
    omega
theorem v_sheet {N : Nat → Nat} {I : Nat → Nat → Int32} {J : Nat → Nat → Int64} (H : v_Inv N I J) {s : Nat} (hs : s < 4) : (I 123 s = (-1) ∧ I 157 s = (-1)) ∨ ∃ k n, k < 3 ∧ n ≤ 40 ∧ I 123 s = nI k ∧ I 157 s = nI k ∧ I 124 s = nI n ∧ I 158 s = nI n ∧ ∀ j, j < n → I (119 + s) j = I 159 (40 * s + j) := H.2.2.2.2.2.2.2.2.2.2 s hs
theorem z_kd3 {k : Nat} (h : k < 3) {x : Int32} (e : x = nI k) : ¬ x = (-1) ∧ ¬ x < 0 := by
  subst e
  exact ⟨z_nneg rfl (by omega) (by decide), mt (z_ltN (b := 0) rfl rfl (by omega) (by decide)).mp (by omega)⟩
theorem g_sheet (E : zE) (N : Nat → Nat) (I : Nat → Nat → Int32) (J : Nat → Nat → Int64) (w : Nat) (H : v_Inv N I J) (s : Int32) (c : Int32) (n : Int32) : v_GoI E 161 248 [.int s, .int c, .int n] I J w := by
  have H0 := H
  have H9 := H
  obtain ⟨⟨o1, o2, o3⟩, ⟨r1, r2, r3, r4⟩, ⟨t1, t2, t3, t4⟩, ⟨l1, l2, l3, l4⟩, ⟨e1, e2, e3, e4⟩, ⟨x1, x2, x3, x4, x5, x6, x7⟩, ⟨k1, k2, k3, k4⟩, ⟨p1, p2, p3, p4⟩, ⟨a1, a2, a3, a4⟩, ⟨f1, f2, f3, f4⟩, hsh⟩ := H
  obtain ⟨hK0, hK1, hK2, hK3, hK4, hK5, hK6, hK7, hK8, hK9, hK10⟩ := H0
  by_cases hs4 : z_hs s 4
  · obtain ⟨s', hs, rfl⟩ := z_hs_of hs4
    by_cases h1 : c = (-1)
    · subst h1
      refine ⟨1, _, J, w, _, J, w, x_sheet_remove E 96 I J w s' n hs, m_sheet_remove E 96 _ J w s' n hs, N, ?_⟩
      exact ⟨v_hour_eq hK0 (fun a k q => by unfold p_hour at q; rw [z_ur_n _ _ (by omega), z_u2_n _ _ (by omega), z_u2_n _ _ (by omega), z_u2_n _ _ (by omega)]), v_rows_eq hK1 (fun a k q => by unfold p_rows at q; rw [z_ur_n _ _ (by omega), z_u2_n _ _ (by omega), z_u2_n _ _ (by omega), z_u2_n _ _ (by omega)]), v_things_eq hK2 (Nat.le_refl _) (Nat.le_refl _) (fun a k q => by unfold p_things at q; rw [z_ur_n _ _ (by omega), z_u2_n _ _ (by omega), z_u2_n _ _ (by omega), z_u2_n _ _ (by omega)]), v_lights_eq hK3 (fun a k q => by unfold p_lights at q; rw [z_ur_n _ _ (by omega), z_u2_n _ _ (by omega), z_u2_n _ _ (by omega), z_u2_n _ _ (by omega)]), v_eyes_eq hK4 (Nat.le_refl _) (fun a k q => by unfold p_eyes at q; rw [z_ur_n _ _ (by omega), z_u2_n _ _ (by omega), z_u2_n _ _ (by omega), z_u2_n _ _ (by omega)]), v_texts_eq hK5 (fun a k q => by unfold p_texts at q; rw [z_ur_n _ _ (by omega), z_u2_n _ _ (by omega), z_u2_n _ _ (by omega), z_u2_n _ _ (by omega)]), v_tape_eq hK6 (fun a k q => by unfold p_tape at q; rw [z_ur_n _ _ (by omega), z_u2_n _ _ (by omega), z_u2_n _ _ (by omega), z_u2_n _ _ (by omega)]), v_plates_eq hK7 (Nat.le_refl _) (fun a k q => by unfold p_plates at q; rw [z_ur_n _ _ (by omega), z_u2_n _ _ (by omega), z_u2_n _ _ (by omega), z_u2_n _ _ (by omega)]), v_ages_eq hK8 (fun a k q => by unfold p_ages at q; rw [z_ur_n _ _ (by omega), z_u2_n _ _ (by omega), z_u2_n _ _ (by omega), z_u2_n _ _ (by omega)]), v_filters_eq hK9 (Nat.le_refl _) (fun k _ => by rw [z_ur_n _ _ (by omega), z_u2_n _ _ (by omega), z_u2_n _ _ (by omega), z_u2_n _ _ (by omega)]) (fun a k q => by unfold p_filters at q; rw [z_ur_n _ _ (by omega), z_u2_n _ _ (by omega), z_u2_n _ _ (by omega), z_u2_n _ _ (by omega)]) (fun _ _ _ => rfl), fun u hu => by
        have f : ∀ a k, a ≠ 159 → ¬ (a = 123 ∧ k = s') → ¬ (a = 157 ∧ k = s') → ¬ (a = 158 ∧ k = s') → z_ur (z_u2 (z_u2 (z_u2 I 123 s' (-1)) 157 s' (-1)) 158 s' 0) 159 (z_fil ((z_u2 I 123 s' (-1)) 159) (40 * s') 40 (fun _ => 0)) a k = I a k := fun a k q1 q2 q3 q4 => by rw [z_ur_n _ _ q1, z_u2_n _ _ q4, z_u2_n _ _ q3, z_u2_n _ _ q2]
        by_cases e : u = s'
        · subst e
          refine .inl ⟨?_, ?_⟩
          · rw [z_ur_n _ _ (by omega), z_u2_n _ _ (by omega), z_u2_n _ _ (by omega), z_u2_same]
          · rw [z_ur_n _ _ (by omega), z_u2_n _ _ (by omega), z_u2_same]
        · rcases hsh u hu with ⟨y1, y2⟩ | ⟨k, m, y1, y2, y3, y4, y5, y6, y7⟩
          · exact .inl ⟨(f _ _ (by omega) (by omega) (by omega) (by omega)).trans y1, (f _ _ (by omega) (by omega) (by omega) (by omega)).trans y2⟩
          · refine .inr ⟨k, m, y1, y2, (f _ _ (by omega) (by omega) (by omega) (by omega)).trans y3, (f _ _ (by omega) (by omega) (by omega) (by omega)).trans y4, (f _ _ (by omega) (by omega) (by omega) (by omega)).trans y5, (f _ _ (by omega) (by omega) (by omega) (by omega)).trans y6, fun j hj => ?_⟩
            rw [f _ _ (by omega) (by omega) (by omega) (by omega), y7 j hj, z_ur_same, z_fil_ge (by omega), z_u2_n _ _ (by omega)]⟩
    · by_cases h2 : z_hs c 3 ∧ ¬ 40 < n
      · obtain ⟨c', hc, rfl⟩ := z_hs_of h2.1
        by_cases h3 : n < 0
        · rcases (by omega : c' = 0 ∨ c' = 1 ∨ c' = 2) with e | e | e <;> subst e
          · exact ⟨-14, I, J, w, I, J, w, x_sheet_neg_0 E 96 I J w s' n hs h3 h2.2, m_sheet_neg_0 E 96 I J w s' n hs h3 h2.2, N, H9⟩
          · exact ⟨-14, I, J, w, I, J, w, x_sheet_neg_1 E 96 I J w s' n hs h3 h2.2, m_sheet_neg_1 E 96 I J w s' n hs h3 h2.2, N, H9⟩
          · exact ⟨-14, I, J, w, I, J, w, x_sheet_neg_2 E 96 I J w s' n hs h3 h2.2, m_sheet_neg_2 E 96 I J w s' n hs h3 h2.2, N, H9⟩
        · obtain ⟨n', hn, rfl⟩ := z_hs_of ((z_hsK (m := 40) (n := 40) rfl (by decide)).mp ⟨h3, h2.2⟩)
          rcases (by omega : c' = 0 ∨ c' = 1 ∨ c' = 2) with e | e | e <;> subst e
          · refine ⟨1, _, J, w, _, J, w, x_sheet_make_0 E 96 I J w s' n' hs hn, m_sheet_make_0 E 96 _ J w s' n' hs hn, N, ?_⟩
            exact ⟨v_hour_eq hK0 (fun a k q => by unfold p_hour at q; rw [z_ur_n _ _ (by omega), z_u2_n _ _ (by omega), z_u2_n _ _ (by omega), z_u2_n _ _ (by omega), z_u2_n _ _ (by omega), z_ur_n _ _ (by omega)]), v_rows_eq hK1 (fun a k q => by unfold p_rows at q; rw [z_ur_n _ _ (by omega), z_u2_n _ _ (by omega), z_u2_n _ _ (by omega), z_u2_n _ _ (by omega), z_u2_n _ _ (by omega), z_ur_n _ _ (by omega)]), v_things_eq hK2 (Nat.le_refl _) (Nat.le_refl _) (fun a k q => by unfold p_things at q; rw [z_ur_n _ _ (by omega), z_u2_n _ _ (by omega), z_u2_n _ _ (by omega), z_u2_n _ _ (by omega), z_u2_n _ _ (by omega), z_ur_n _ _ (by omega)]), v_lights_eq hK3 (fun a k q => by unfold p_lights at q; rw [z_ur_n _ _ (by omega), z_u2_n _ _ (by omega), z_u2_n _ _ (by omega), z_u2_n _ _ (by omega), z_u2_n _ _ (by omega), z_ur_n _ _ (by omega)]), v_eyes_eq hK4 (Nat.le_refl _) (fun a k q => by unfold p_eyes at q; rw [z_ur_n _ _ (by omega), z_u2_n _ _ (by omega), z_u2_n _ _ (by omega), z_u2_n _ _ (by omega), z_u2_n _ _ (by omega), z_ur_n _ _ (by omega)]), v_texts_eq hK5 (fun a k q => by unfold p_texts at q; rw [z_ur_n _ _ (by omega), z_u2_n _ _ (by omega), z_u2_n _ _ (by omega), z_u2_n _ _ (by omega), z_u2_n _ _ (by omega), z_ur_n _ _ (by omega)]), v_tape_eq hK6 (fun a k q => by unfold p_tape at q; rw [z_ur_n _ _ (by omega), z_u2_n _ _ (by omega), z_u2_n _ _ (by omega), z_u2_n _ _ (by omega), z_u2_n _ _ (by omega), z_ur_n _ _ (by omega)]), v_plates_eq hK7 (Nat.le_refl _) (fun a k q => by unfold p_plates at q; rw [z_ur_n _ _ (by omega), z_u2_n _ _ (by omega), z_u2_n _ _ (by omega), z_u2_n _ _ (by omega), z_u2_n _ _ (by omega), z_ur_n _ _ (by omega)]), v_ages_eq hK8 (fun a k q => by unfold p_ages at q; rw [z_ur_n _ _ (by omega), z_u2_n _ _ (by omega), z_u2_n _ _ (by omega), z_u2_n _ _ (by omega), z_u2_n _ _ (by omega), z_ur_n _ _ (by omega)]), v_filters_eq hK9 (Nat.le_refl _) (fun k _ => by rw [z_ur_n _ _ (by omega), z_u2_n _ _ (by omega), z_u2_n _ _ (by omega), z_u2_n _ _ (by omega), z_u2_n _ _ (by omega), z_ur_n _ _ (by omega)]) (fun a k q => by unfold p_filters at q; rw [z_ur_n _ _ (by omega), z_u2_n _ _ (by omega), z_u2_n _ _ (by omega), z_u2_n _ _ (by omega), z_u2_n _ _ (by omega), z_ur_n _ _ (by omega)]) (fun _ _ _ => rfl), fun u hu => by
              by_cases e : u = s'
              · subst e
                refine .inr ⟨0, n', by decide, by omega, ?_, ?_, ?_, ?_, fun j hj => ?_⟩
                · rw [z_ur_n _ _ (by omega), z_u2_n _ _ (by omega), z_u2_n _ _ (by omega), z_u2_n _ _ (by omega), z_u2_same]; rfl
                · rw [z_ur_n _ _ (by omega), z_u2_n _ _ (by omega), z_u2_same]; rfl
                · rw [z_ur_n _ _ (by omega), z_u2_n _ _ (by omega), z_u2_n _ _ (by omega), z_u2_same]
                · rw [z_ur_n _ _ (by omega), z_u2_same]
                · rw [z_ur_n _ _ (by omega), z_u2_n _ _ (by omega), z_u2_n _ _ (by omega), z_u2_n _ _ (by omega), z_u2_n _ _ (by omega), z_ur_same, z_fil_in0 (by omega), z_ur_same, z_fil_in (by omega)]
              · have f : ∀ a k, a ≠ 159 → a ≠ 119 + s' → ¬ (a = 123 ∧ k = s') → ¬ (a = 124 ∧ k = s') → ¬ (a = 157 ∧ k = s') → ¬ (a = 158 ∧ k = s') → z_ur (z_u2 (z_u2 (z_u2 (z_u2 (z_ur I (119 + s') (z_fil (I (119 + s')) 0 40 (fun _ => 0))) 123 s' 0) 124 s' (nI n')) 157 s' 0) 158 s' (nI n')) 159 (z_fil ((z_u2 (z_u2 (z_ur I (119 + s') (z_fil (I (119 + s')) 0 40 (fun _ => 0))) 123 s' 0) 124 s' (nI n')) 159) (40 * s') 40 (fun _ => 0)) a k = I a k := fun a k q1 q2 q3 q4 q5 q6 => by rw [z_ur_n _ _ q1, z_u2_n _ _ q6, z_u2_n _ _ q5, z_u2_n _ _ q4, z_u2_n _ _ q3, z_ur_n _ _ q2]
                rcases hsh u hu with ⟨y1, y2⟩ | ⟨k, m, y1, y2, y3, y4, y5, y6, y7⟩
                · exact .inl ⟨(f _ _ (by omega) (by omega) (by omega) (by omega) (by omega) (by omega)).trans y1, (f _ _ (by omega) (by omega) (by omega) (by omega) (by omega) (by omega)).trans y2⟩
                · refine .inr ⟨k, m, y1, y2, (f _ _ (by omega) (by omega) (by omega) (by omega) (by omega) (by omega)).trans y3, (f _ _ (by omega) (by omega) (by omega) (by omega) (by omega) (by omega)).trans y4, (f _ _ (by omega) (by omega) (by omega) (by omega) (by omega) (by omega)).trans y5, (f _ _ (by omega) (by omega) (by omega) (by omega) (by omega) (by omega)).trans y6, fun j hj => ?_⟩
                  rw [f _ _ (by omega) (by omega) (by omega) (by omega) (by omega) (by omega), y7 j hj, z_ur_same, z_fil_ge (by omega), z_u2_n _ _ (by omega), z_u2_n _ _ (by omega), z_ur_n _ _ (by omega)]⟩
          · refine ⟨1, _, J, w, _, J, w, x_sheet_make_1 E 96 I J w s' n' hs hn, m_sheet_make_1 E 96 _ J w s' n' hs hn, N, ?_⟩
            exact ⟨v_hour_eq hK0 (fun a k q => by unfold p_hour at q; rw [z_ur_n _ _ (by omega), z_u2_n _ _ (by omega), z_u2_n _ _ (by omega), z_u2_n _ _ (by omega), z_u2_n _ _ (by omega), z_ur_n _ _ (by omega)]), v_rows_eq hK1 (fun a k q => by unfold p_rows at q; rw [z_ur_n _ _ (by omega), z_u2_n _ _ (by omega), z_u2_n _ _ (by omega), z_u2_n _ _ (by omega), z_u2_n _ _ (by omega), z_ur_n _ _ (by omega)]), v_things_eq hK2 (Nat.le_refl _) (Nat.le_refl _) (fun a k q => by unfold p_things at q; rw [z_ur_n _ _ (by omega), z_u2_n _ _ (by omega), z_u2_n _ _ (by omega), z_u2_n _ _ (by omega), z_u2_n _ _ (by omega), z_ur_n _ _ (by omega)]), v_lights_eq hK3 (fun a k q => by unfold p_lights at q; rw [z_ur_n _ _ (by omega), z_u2_n _ _ (by omega), z_u2_n _ _ (by omega), z_u2_n _ _ (by omega), z_u2_n _ _ (by omega), z_ur_n _ _ (by omega)]), v_eyes_eq hK4 (Nat.le_refl _) (fun a k q => by unfold p_eyes at q; rw [z_ur_n _ _ (by omega), z_u2_n _ _ (by omega), z_u2_n _ _ (by omega), z_u2_n _ _ (by omega), z_u2_n _ _ (by omega), z_ur_n _ _ (by omega)]), v_texts_eq hK5 (fun a k q => by unfold p_texts at q; rw [z_ur_n _ _ (by omega), z_u2_n _ _ (by omega), z_u2_n _ _ (by omega), z_u2_n _ _ (by omega), z_u2_n _ _ (by omega), z_ur_n _ _ (by omega)]), v_tape_eq hK6 (fun a k q => by unfold p_tape at q; rw [z_ur_n _ _ (by omega), z_u2_n _ _ (by omega), z_u2_n _ _ (by omega), z_u2_n _ _ (by omega), z_u2_n _ _ (by omega), z_ur_n _ _ (by omega)]), v_plates_eq hK7 (Nat.le_refl _) (fun a k q => by unfold p_plates at q; rw [z_ur_n _ _ (by omega), z_u2_n _ _ (by omega), z_u2_n _ _ (by omega), z_u2_n _ _ (by omega), z_u2_n _ _ (by omega), z_ur_n _ _ (by omega)]), v_ages_eq hK8 (fun a k q => by unfold p_ages at q; rw [z_ur_n _ _ (by omega), z_u2_n _ _ (by omega), z_u2_n _ _ (by omega), z_u2_n _ _ (by omega), z_u2_n _ _ (by omega), z_ur_n _ _ (by omega)]), v_filters_eq hK9 (Nat.le_refl _) (fun k _ => by rw [z_ur_n _ _ (by omega), z_u2_n _ _ (by omega), z_u2_n _ _ (by omega), z_u2_n _ _ (by omega), z_u2_n _ _ (by omega), z_ur_n _ _ (by omega)]) (fun a k q => by unfold p_filters at q; rw [z_ur_n _ _ (by omega), z_u2_n _ _ (by omega), z_u2_n _ _ (by omega), z_u2_n _ _ (by omega), z_u2_n _ _ (by omega), z_ur_n _ _ (by omega)]) (fun _ _ _ => rfl), fun u hu => by
              by_cases e : u = s'
              · subst e
                refine .inr ⟨1, n', by decide, by omega, ?_, ?_, ?_, ?_, fun j hj => ?_⟩
                · rw [z_ur_n _ _ (by omega), z_u2_n _ _ (by omega), z_u2_n _ _ (by omega), z_u2_n _ _ (by omega), z_u2_same]; rfl
                · rw [z_ur_n _ _ (by omega), z_u2_n _ _ (by omega), z_u2_same]; rfl
                · rw [z_ur_n _ _ (by omega), z_u2_n _ _ (by omega), z_u2_n _ _ (by omega), z_u2_same]
                · rw [z_ur_n _ _ (by omega), z_u2_same]
                · rw [z_ur_n _ _ (by omega), z_u2_n _ _ (by omega), z_u2_n _ _ (by omega), z_u2_n _ _ (by omega), z_u2_n _ _ (by omega), z_ur_same, z_fil_in0 (by omega), z_ur_same, z_fil_in (by omega)]
              · have f : ∀ a k, a ≠ 159 → a ≠ 119 + s' → ¬ (a = 123 ∧ k = s') → ¬ (a = 124 ∧ k = s') → ¬ (a = 157 ∧ k = s') → ¬ (a = 158 ∧ k = s') → z_ur (z_u2 (z_u2 (z_u2 (z_u2 (z_ur I (119 + s') (z_fil (I (119 + s')) 0 40 (fun _ => 0))) 123 s' 1) 124 s' (nI n')) 157 s' 1) 158 s' (nI n')) 159 (z_fil ((z_u2 (z_u2 (z_ur I (119 + s') (z_fil (I (119 + s')) 0 40 (fun _ => 0))) 123 s' 1) 124 s' (nI n')) 159) (40 * s') 40 (fun _ => 0)) a k = I a k := fun a k q1 q2 q3 q4 q5 q6 => by rw [z_ur_n _ _ q1, z_u2_n _ _ q6, z_u2_n _ _ q5, z_u2_n _ _ q4, z_u2_n _ _ q3, z_ur_n _ _ q2]
                rcases hsh u hu with ⟨y1, y2⟩ | ⟨k, m, y1, y2, y3, y4, y5, y6, y7⟩
                · exact .inl ⟨(f _ _ (by omega) (by omega) (by omega) (by omega) (by omega) (by omega)).trans y1, (f _ _ (by omega) (by omega) (by omega) (by omega) (by omega) (by omega)).trans y2⟩
                · refine .inr ⟨k, m, y1, y2, (f _ _ (by omega) (by omega) (by omega) (by omega) (by omega) (by omega)).trans y3, (f _ _ (by omega) (by omega) (by omega) (by omega) (by omega) (by omega)).trans y4, (f _ _ (by omega) (by omega) (by omega) (by omega) (by omega) (by omega)).trans y5, (f _ _ (by omega) (by omega) (by omega) (by omega) (by omega) (by omega)).trans y6, fun j hj => ?_⟩
                  rw [f _ _ (by omega) (by omega) (by omega) (by omega) (by omega) (by omega), y7 j hj, z_ur_same, z_fil_ge (by omega), z_u2_n _ _ (by omega), z_u2_n _ _ (by omega), z_ur_n _ _ (by omega)]⟩
          · refine ⟨1, _, J, w, _, J, w, x_sheet_make_2 E 96 I J w s' n' hs hn, m_sheet_make_2 E 96 _ J w s' n' hs hn, N, ?_⟩
            exact ⟨v_hour_eq hK0 (fun a k q => by unfold p_hour at q; rw [z_ur_n _ _ (by omega), z_u2_n _ _ (by omega), z_u2_n _ _ (by omega), z_u2_n _ _ (by omega), z_u2_n _ _ (by omega), z_ur_n _ _ (by omega)]), v_rows_eq hK1 (fun a k q => by unfold p_rows at q; rw [z_ur_n _ _ (by omega), z_u2_n _ _ (by omega), z_u2_n _ _ (by omega), z_u2_n _ _ (by omega), z_u2_n _ _ (by omega), z_ur_n _ _ (by omega)]), v_things_eq hK2 (Nat.le_refl _) (Nat.le_refl _) (fun a k q => by unfold p_things at q; rw [z_ur_n _ _ (by omega), z_u2_n _ _ (by omega), z_u2_n _ _ (by omega), z_u2_n _ _ (by omega), z_u2_n _ _ (by omega), z_ur_n _ _ (by omega)]), v_lights_eq hK3 (fun a k q => by unfold p_lights at q; rw [z_ur_n _ _ (by omega), z_u2_n _ _ (by omega), z_u2_n _ _ (by omega), z_u2_n _ _ (by omega), z_u2_n _ _ (by omega), z_ur_n _ _ (by omega)]), v_eyes_eq hK4 (Nat.le_refl _) (fun a k q => by unfold p_eyes at q; rw [z_ur_n _ _ (by omega), z_u2_n _ _ (by omega), z_u2_n _ _ (by omega), z_u2_n _ _ (by omega), z_u2_n _ _ (by omega), z_ur_n _ _ (by omega)]), v_texts_eq hK5 (fun a k q => by unfold p_texts at q; rw [z_ur_n _ _ (by omega), z_u2_n _ _ (by omega), z_u2_n _ _ (by omega), z_u2_n _ _ (by omega), z_u2_n _ _ (by omega), z_ur_n _ _ (by omega)]), v_tape_eq hK6 (fun a k q => by unfold p_tape at q; rw [z_ur_n _ _ (by omega), z_u2_n _ _ (by omega), z_u2_n _ _ (by omega), z_u2_n _ _ (by omega), z_u2_n _ _ (by omega), z_ur_n _ _ (by omega)]), v_plates_eq hK7 (Nat.le_refl _) (fun a k q => by unfold p_plates at q; rw [z_ur_n _ _ (by omega), z_u2_n _ _ (by omega), z_u2_n _ _ (by omega), z_u2_n _ _ (by omega), z_u2_n _ _ (by omega), z_ur_n _ _ (by omega)]), v_ages_eq hK8 (fun a k q => by unfold p_ages at q; rw [z_ur_n _ _ (by omega), z_u2_n _ _ (by omega), z_u2_n _ _ (by omega), z_u2_n _ _ (by omega), z_u2_n _ _ (by omega), z_ur_n _ _ (by omega)]), v_filters_eq hK9 (Nat.le_refl _) (fun k _ => by rw [z_ur_n _ _ (by omega), z_u2_n _ _ (by omega), z_u2_n _ _ (by omega), z_u2_n _ _ (by omega), z_u2_n _ _ (by omega), z_ur_n _ _ (by omega)]) (fun a k q => by unfold p_filters at q; rw [z_ur_n _ _ (by omega), z_u2_n _ _ (by omega), z_u2_n _ _ (by omega), z_u2_n _ _ (by omega), z_u2_n _ _ (by omega), z_ur_n _ _ (by omega)]) (fun _ _ _ => rfl), fun u hu => by
              by_cases e : u = s'
              · subst e
                refine .inr ⟨2, n', by decide, by omega, ?_, ?_, ?_, ?_, fun j hj => ?_⟩
                · rw [z_ur_n _ _ (by omega), z_u2_n _ _ (by omega), z_u2_n _ _ (by omega), z_u2_n _ _ (by omega), z_u2_same]; rfl
                · rw [z_ur_n _ _ (by omega), z_u2_n _ _ (by omega), z_u2_same]; rfl
                · rw [z_ur_n _ _ (by omega), z_u2_n _ _ (by omega), z_u2_n _ _ (by omega), z_u2_same]
                · rw [z_ur_n _ _ (by omega), z_u2_same]
                · rw [z_ur_n _ _ (by omega), z_u2_n _ _ (by omega), z_u2_n _ _ (by omega), z_u2_n _ _ (by omega), z_u2_n _ _ (by omega), z_ur_same, z_fil_in0 (by omega), z_ur_same, z_fil_in (by omega)]
              · have f : ∀ a k, a ≠ 159 → a ≠ 119 + s' → ¬ (a = 123 ∧ k = s') → ¬ (a = 124 ∧ k = s') → ¬ (a = 157 ∧ k = s') → ¬ (a = 158 ∧ k = s') → z_ur (z_u2 (z_u2 (z_u2 (z_u2 (z_ur I (119 + s') (z_fil (I (119 + s')) 0 40 (fun _ => 0))) 123 s' 2) 124 s' (nI n')) 157 s' 2) 158 s' (nI n')) 159 (z_fil ((z_u2 (z_u2 (z_ur I (119 + s') (z_fil (I (119 + s')) 0 40 (fun _ => 0))) 123 s' 2) 124 s' (nI n')) 159) (40 * s') 40 (fun _ => 0)) a k = I a k := fun a k q1 q2 q3 q4 q5 q6 => by rw [z_ur_n _ _ q1, z_u2_n _ _ q6, z_u2_n _ _ q5, z_u2_n _ _ q4, z_u2_n _ _ q3, z_ur_n _ _ q2]
                rcases hsh u hu with ⟨y1, y2⟩ | ⟨k, m, y1, y2, y3, y4, y5, y6, y7⟩
                · exact .inl ⟨(f _ _ (by omega) (by omega) (by omega) (by omega) (by omega) (by omega)).trans y1, (f _ _ (by omega) (by omega) (by omega) (by omega) (by omega) (by omega)).trans y2⟩
                · refine .inr ⟨k, m, y1, y2, (f _ _ (by omega) (by omega) (by omega) (by omega) (by omega) (by omega)).trans y3, (f _ _ (by omega) (by omega) (by omega) (by omega) (by omega) (by omega)).trans y4, (f _ _ (by omega) (by omega) (by omega) (by omega) (by omega) (by omega)).trans y5, (f _ _ (by omega) (by omega) (by omega) (by omega) (by omega) (by omega)).trans y6, fun j hj => ?_⟩
                  rw [f _ _ (by omega) (by omega) (by omega) (by omega) (by omega) (by omega), y7 j hj, z_ur_same, z_fil_ge (by omega), z_u2_n _ _ (by omega), z_u2_n _ _ (by omega), z_ur_n _ _ (by omega)]⟩
      · by_cases h4 : c < 0
        · refine ⟨-2, I, J, w, I, J, w, x_sheet_badB E 96 I J w s' c n hs h1 (fun q => q.1.1 h4), m_sheet_badC E 96 I J w s' c n hs (fun q => h1 ?_), N, H9⟩
          have a1 := q.1
          rw [Int32.lt_iff_toInt_lt, show ((-1) : Int32).toInt = -1 from rfl] at a1
          rw [Int32.lt_iff_toInt_lt, show (0 : Int32).toInt = 0 from rfl] at h4
          apply Int32.toInt_inj.1
          rw [show ((-1) : Int32).toInt = -1 from rfl]
          omega
        · exact ⟨-2, I, J, w, I, J, w, x_sheet_badB E 96 I J w s' c n hs h1 (fun q => h2 ⟨(z_hsK (m := 2) (n := 2) rfl (by decide)).mp q.1, q.2⟩), m_sheet_badB E 96 I J w s' c n hs h4 (fun q => h2 ⟨(z_hsK (m := 2) (n := 2) rfl (by decide)).mp ⟨h4, q.1.2⟩, q.2⟩), N, H9⟩
  · exact ⟨-2, I, J, w, I, J, w, x_sheet_badA E 96 I J w s c n (fun q => hs4 ((z_hsX (m := 4) (n := 4) rfl (by decide)).mp q)), m_sheet_badA E 96 I J w s c n (fun q => hs4 ((z_hsK (m := 3) (n := 3) rfl (by decide)).mp q)), N, H9⟩
theorem g_cell (E : zE) (N : Nat → Nat) (I : Nat → Nat → Int32) (J : Nat → Nat → Int64) (w : Nat) (H : v_Inv N I J) (s : Int32) (i : Int32) (v : Int32) : v_GoI E 162 249 [.int s, .int i, .int v] I J w := by
  have H0 := H
  have H9 := H
  obtain ⟨⟨o1, o2, o3⟩, ⟨r1, r2, r3, r4⟩, ⟨t1, t2, t3, t4⟩, ⟨l1, l2, l3, l4⟩, ⟨e1, e2, e3, e4⟩, ⟨x1, x2, x3, x4, x5, x6, x7⟩, ⟨k1, k2, k3, k4⟩, ⟨p1, p2, p3, p4⟩, ⟨a1, a2, a3, a4⟩, ⟨f1, f2, f3, f4⟩, hsh⟩ := H
  obtain ⟨hK0, hK1, hK2, hK3, hK4, hK5, hK6, hK7, hK8, hK9, hK10⟩ := H0
  by_cases hs4 : z_hs s 4
  · obtain ⟨s', hs, rfl⟩ := z_hs_of hs4
    rcases v_sheet H9 hs with ⟨y1, y2⟩ | ⟨k, m, y1, y2, y3, y4, y5, y6, y7⟩
    · exact ⟨-11, I, J, w, I, J, w, x_cell_miss E 97 I J w s' i v hs y1, m_cell_miss E 96 I J w s' i v hs y2, N, H9⟩
    · by_cases him : z_hs i m
      · obtain ⟨i', hi, rfl⟩ := z_hs_of him
        have cfin : ∀ (x : Int32) (j : Nat), j < m → v_Inv N (z_u2 (z_u2 I (119 + s') j x) 159 (40 * s' + j) x) J := fun x j hj => by
          exact ⟨v_hour_eq hK0 (fun a k q => by unfold p_hour at q; rw [z_u2_n _ _ (by omega), z_u2_n _ _ (by omega)]), v_rows_eq hK1 (fun a k q => by unfold p_rows at q; rw [z_u2_n _ _ (by omega), z_u2_n _ _ (by omega)]), v_things_eq hK2 (Nat.le_refl _) (Nat.le_refl _) (fun a k q => by unfold p_things at q; rw [z_u2_n _ _ (by omega), z_u2_n _ _ (by omega)]), v_lights_eq hK3 (fun a k q => by unfold p_lights at q; rw [z_u2_n _ _ (by omega), z_u2_n _ _ (by omega)]), v_eyes_eq hK4 (Nat.le_refl _) (fun a k q => by unfold p_eyes at q; rw [z_u2_n _ _ (by omega), z_u2_n _ _ (by omega)]), v_texts_eq hK5 (fun a k q => by unfold p_texts at q; rw [z_u2_n _ _ (by omega), z_u2_n _ _ (by omega)]), v_tape_eq hK6 (fun a k q => by unfold p_tape at q; rw [z_u2_n _ _ (by omega), z_u2_n _ _ (by omega)]), v_plates_eq hK7 (Nat.le_refl _) (fun a k q => by unfold p_plates at q; rw [z_u2_n _ _ (by omega), z_u2_n _ _ (by omega)]), v_ages_eq hK8 (fun a k q => by unfold p_ages at q; rw [z_u2_n _ _ (by omega), z_u2_n _ _ (by omega)]), v_filters_eq hK9 (Nat.le_refl _) (fun k _ => by rw [z_u2_n _ _ (by omega), z_u2_n _ _ (by omega)]) (fun a k q => by unfold p_filters at q; rw [z_u2_n _ _ (by omega), z_u2_n _ _ (by omega)]) (fun _ _ _ => rfl), fun u hu => by
            have f : ∀ a k, a ≠ 159 → a ≠ 119 + s' → z_u2 (z_u2 I (119 + s') j x) 159 (40 * s' + j) x a k = I a k := fun a k q1 q2 => by rw [z_u2_n _ _ (by omega), z_u2_n _ _ (by omega)]
            rcases hsh u hu with ⟨y1, y2⟩ | ⟨k, m, y1, y2, y3, y4, y5, y6, y7⟩
            · exact .inl ⟨(f _ _ (by omega) (by omega)).trans y1, (f _ _ (by omega) (by omega)).trans y2⟩
            · refine .inr ⟨k, m, y1, y2, (f _ _ (by omega) (by omega)).trans y3, (f _ _ (by omega) (by omega)).trans y4, (f _ _ (by omega) (by omega)).trans y5, (f _ _ (by omega) (by omega)).trans y6, fun i hi => ?_⟩
              by_cases e : u = s' ∧ i = j
              · obtain ⟨e1, e2⟩ := e
                subst e1 e2
                rw [z_u2_n _ _ (by omega), z_u2_same, z_u2_same]
              · rw [z_u2_n _ _ (by omega), z_u2_n _ _ (by omega), z_u2_n _ _ (by omega), z_u2_n _ _ (by omega)]
                exact y7 i hi⟩
        rcases (by omega : k = 0 ∨ k = 1 ∨ k = 2) with e | e | e <;> subst e
        · refine ⟨1, _, J, w, _, J, w, x_cell_0 E 97 I J w s' i' m v hs y5 y2 hi y3, m_cell_0 E 96 _ J w s' i' m v hs ((z_u2_n _ _ (by omega)).trans y6) y2 hi ((z_u2_n _ _ (by omega)).trans y4), N, ?_⟩
          exact cfin (v.toInt8.toInt32) i' hi
        · refine ⟨1, _, J, w, _, J, w, x_cell_1 E 97 I J w s' i' m v hs y5 y2 hi y3, m_cell_1 E 96 _ J w s' i' m v hs ((z_u2_n _ _ (by omega)).trans y6) y2 hi ((z_u2_n _ _ (by omega)).trans y4), N, ?_⟩
          exact cfin (v.toInt16.toInt32) i' hi
        · refine ⟨1, _, J, w, _, J, w, x_cell_2 E 97 I J w s' i' m v hs y5 y2 hi y3, m_cell_2 E 96 _ J w s' i' m v hs ((z_u2_n _ _ (by omega)).trans y6) y2 hi ((z_u2_n _ _ (by omega)).trans y4), N, ?_⟩
          exact cfin v i' hi
      · have bx : ¬ (¬ i < 0 ∧ ¬ (1 : Int32) < 0 ∧ ¬ I 124 s' < i ∧ ¬ I 124 s' - i < 1) := fun q => him (by
          rw [y5] at q
          obtain ⟨x, y, x1, x2, x3⟩ := (z_holdsX y2).mp q
          have : y = 1 := by
            have hy : y < 2 ^ 31 := by omega
            exact ((z_eqN (a := 1) (b := y) rfl rfl (by decide) hy).mp x2).symm
          subst x1
          exact ⟨by rw [nI_toInt (by omega)]; omega, by rw [nI_toInt (by omega)]; omega⟩)
        have bm : ¬ (¬ i < 0 ∧ ¬ I 158 s' - 1 < i) := fun q => him ((z_hsM y6 (by omega)).mp q)
        rcases (by omega : k = 0 ∨ k = 1 ∨ k = 2) with e | e | e <;> subst e
        · exact ⟨-12, I, J, w, I, J, w, x_cell_out_0 E 97 I J w s' i v hs y3 bx, m_cell_out_0 E 96 I J w s' i v hs y4 bm, N, H9⟩
        · exact ⟨-12, I, J, w, I, J, w, x_cell_out_1 E 97 I J w s' i v hs y3 bx, m_cell_out_1 E 96 I J w s' i v hs y4 bm, N, H9⟩
        · exact ⟨-12, I, J, w, I, J, w, x_cell_out_2 E 97 I J w s' i v hs y3 bx, m_cell_out_2 E 96 I J w s' i v hs y4 bm, N, H9⟩
  · exact ⟨-2, I, J, w, I, J, w, x_cell_badA E 97 I J w s i v (fun q => hs4 ((z_hsX (m := 4) (n := 4) rfl (by decide)).mp q)), m_cell_badA E 96 I J w s i v (fun q => hs4 ((z_hsK (m := 3) (n := 3) rfl (by decide)).mp q)), N, H9⟩
theorem g_copy (E : zE) (N : Nat → Nat) (I : Nat → Nat → Int32) (J : Nat → Nat → Int64) (w : Nat) (H : v_Inv N I J) (s : Int32) (i : Int32) (c : Int32) (j : Int32) (n : Int32) : v_GoI E 163 250 [.int s, .int i, .int c, .int j, .int n] I J w := by
  have H0 := H
  have H9 := H
  obtain ⟨⟨o1, o2, o3⟩, ⟨r1, r2, r3, r4⟩, ⟨t1, t2, t3, t4⟩, ⟨l1, l2, l3, l4⟩, ⟨e1, e2, e3, e4⟩, ⟨x1, x2, x3, x4, x5, x6, x7⟩, ⟨k1, k2, k3, k4⟩, ⟨p1, p2, p3, p4⟩, ⟨a1, a2, a3, a4⟩, ⟨f1, f2, f3, f4⟩, hsh⟩ := H
  obtain ⟨hK0, hK1, hK2, hK3, hK4, hK5, hK6, hK7, hK8, hK9, hK10⟩ := H0
  by_cases hc : z_hs s 4 ∧ z_hs c 4
  · obtain ⟨s', hs, rfl⟩ := z_hs_of hc.1
    obtain ⟨o', ho, rfl⟩ := z_hs_of hc.2
    rcases v_sheet H9 hs with ⟨y1, y2⟩ | ⟨k, a, y1, y2, y3, y4, y5, y6, y7⟩
    · exact ⟨-11, I, J, w, I, J, w, x_copy_badB E 97 I J w s' o' i j n hs ho (fun q => q.1 y1), m_copy_badB E 96 I J w s' o' i j n hs ho (fun q => q.1 (by rw [y2]; decide)), N, H9⟩
    · rcases v_sheet H9 ho with ⟨z1, z2⟩ | ⟨k2, b, z1, z2, z3, z4, z5, z6, z7⟩
      · exact ⟨-11, I, J, w, I, J, w, x_copy_badB E 97 I J w s' o' i j n hs ho (fun q => q.2 z1), m_copy_badB E 96 I J w s' o' i j n hs ho (fun q => q.2 (by rw [z2]; decide)), N, H9⟩
      · obtain ⟨n1, n2⟩ := z_kd3 y1 y3
        obtain ⟨n3, n4⟩ := z_kd3 y1 y4
        obtain ⟨m1, m2⟩ := z_kd3 z1 z3
        obtain ⟨m3, m4⟩ := z_kd3 z1 z4
        by_cases he : k = k2
        · have e1' : I 123 s' = I 123 o' := by rw [y3, z3, he]
          have e2' : I 157 s' = I 157 o' := by rw [y4, z4, he]
          by_cases hh : ∃ i' j' n', i = nI i' ∧ j = nI j' ∧ n = nI n' ∧ i' + n' ≤ a ∧ j' + n' ≤ b
          · obtain ⟨i', j', n', rfl, rfl, rfl, h1, h2⟩ := hh
            refine ⟨nI n', _, J, w, _, J, w, x_copy_ok E 97 I J w s' i' o' j' n' a b hs ho n1 m1 e1' y5 z5 y2 z2 h1 h2, m_copy_ok E 96 _ J w s' i' o' j' n' a b hs ho ?_ ?_ ?_ ?_ ?_ y2 z2 h1 h2, N, ?_⟩
            · rw [z_ur_n _ _ (by omega)]; exact n4
            · rw [z_ur_n _ _ (by omega)]; exact m4
            · rw [z_ur_n _ _ (by omega)]; exact e2'
            · rw [z_ur_n _ _ (by omega)]; exact y6
            · rw [z_ur_n _ _ (by omega)]; exact z6
            exact ⟨v_hour_eq hK0 (fun a k q => by unfold p_hour at q; rw [z_ur_n _ _ (by omega), z_ur_n _ _ (by omega), z_ur_n _ _ (by omega)]), v_rows_eq hK1 (fun a k q => by unfold p_rows at q; rw [z_ur_n _ _ (by omega), z_ur_n _ _ (by omega), z_ur_n _ _ (by omega)]), v_things_eq hK2 (Nat.le_refl _) (Nat.le_refl _) (fun a k q => by unfold p_things at q; rw [z_ur_n _ _ (by omega), z_ur_n _ _ (by omega), z_ur_n _ _ (by omega)]), v_lights_eq hK3 (fun a k q => by unfold p_lights at q; rw [z_ur_n _ _ (by omega), z_ur_n _ _ (by omega), z_ur_n _ _ (by omega)]), v_eyes_eq hK4 (Nat.le_refl _) (fun a k q => by unfold p_eyes at q; rw [z_ur_n _ _ (by omega), z_ur_n _ _ (by omega), z_ur_n _ _ (by omega)]), v_texts_eq hK5 (fun a k q => by unfold p_texts at q; rw [z_ur_n _ _ (by omega), z_ur_n _ _ (by omega), z_ur_n _ _ (by omega)]), v_tape_eq hK6 (fun a k q => by unfold p_tape at q; rw [z_ur_n _ _ (by omega), z_ur_n _ _ (by omega), z_ur_n _ _ (by omega)]), v_plates_eq hK7 (Nat.le_refl _) (fun a k q => by unfold p_plates at q; rw [z_ur_n _ _ (by omega), z_ur_n _ _ (by omega), z_ur_n _ _ (by omega)]), v_ages_eq hK8 (fun a k q => by unfold p_ages at q; rw [z_ur_n _ _ (by omega), z_ur_n _ _ (by omega), z_ur_n _ _ (by omega)]), v_filters_eq hK9 (Nat.le_refl _) (fun k _ => by rw [z_ur_n _ _ (by omega), z_ur_n _ _ (by omega), z_ur_n _ _ (by omega)]) (fun a k q => by unfold p_filters at q; rw [z_ur_n _ _ (by omega), z_ur_n _ _ (by omega), z_ur_n _ _ (by omega)]) (fun _ _ _ => rfl), fun u hu => by
              have f : ∀ a k, a ≠ 159 → a ≠ 160 → a ≠ 119 + o' → (z_ur (z_ur (z_ur I (119 + o') (va_cpy (I (119 + s')) (I (119 + o')) i' j' n')) 160 (z_fil ((z_ur I (119 + o') (va_cpy (I (119 + s')) (I (119 + o')) i' j' n')) 160) 0 n' (fun c => (z_ur I (119 + o') (va_cpy (I (119 + s')) (I (119 + o')) i' j' n')) 159 (40 * s' + i' + c)))) 159 (z_fil ((z_ur I (119 + o') (va_cpy (I (119 + s')) (I (119 + o')) i' j' n')) 159) (40 * o' + j') n' (fun c => (z_ur I (119 + o') (va_cpy (I (119 + s')) (I (119 + o')) i' j' n')) 159 (40 * s' + i' + c)))) a k = I a k := fun a k q1 q2 q3 => by rw [z_ur_n _ _ q1, z_ur_n _ _ q2, z_ur_n _ _ q3]
              rcases hsh u hu with ⟨x1', x2'⟩ | ⟨p, m, b1, b2, b3, b4, b5, b6, b7⟩
              · exact .inl ⟨(f _ _ (by omega) (by omega) (by omega)).trans x1', (f _ _ (by omega) (by omega) (by omega)).trans x2'⟩
              · refine .inr ⟨p, m, b1, b2, (f _ _ (by omega) (by omega) (by omega)).trans b3, (f _ _ (by omega) (by omega) (by omega)).trans b4, (f _ _ (by omega) (by omega) (by omega)).trans b5, (f _ _ (by omega) (by omega) (by omega)).trans b6, fun t ht => ?_⟩
                by_cases e : u = o'
                · subst e
                  by_cases r : j' ≤ t ∧ t < j' + n'
                  · rw [z_ur_n _ _ (by omega), z_ur_n _ _ (by omega), z_ur_same, z_ur_same, z_fil_in (by omega), z_ur_n _ _ (by omega)]
                    unfold va_cpy
                    rw [if_pos r, y7 _ (by omega), show 40 * s' + i' + (40 * u + t - (40 * u + j')) = 40 * s' + (i' + (t - j')) by omega]
                  · rw [z_ur_n _ _ (by omega), z_ur_n _ _ (by omega), z_ur_same, z_ur_same, z_fil_ge (by omega), z_ur_n _ _ (by omega)]
                    unfold va_cpy
                    rw [if_neg r]
                    exact b7 t ht
                · rw [z_ur_n _ _ (by omega), z_ur_n _ _ (by omega), z_ur_n _ _ (by omega), z_ur_same, z_fil_ge (by omega), z_ur_n _ _ (by omega)]
                  exact b7 t ht⟩
          · have back : ∀ x y y' z : Nat, i = nI x → n = nI y → j = nI z → n = nI y' → x + y ≤ a → z + y' ≤ b → False := fun x y y' z q1 q2 q3 q4 q5 q6 => by
              have : y = y' := (z_eqN (a := y) (b := y') rfl rfl (by omega) (by omega)).mp (q2.symm.trans q4)
              exact hh ⟨x, z, y, q1, q3, q2, q5, by omega⟩
            refine ⟨-12, I, J, w, I, J, w, x_copy_badD E 97 I J w s' o' i j n hs ho n1 m1 e1' (fun q => ?_), m_copy_badD E 96 I J w s' o' i j n hs ho n4 m4 e2' (fun q => ?_), N, H9⟩
            · rw [y5, z5] at q
              obtain ⟨x, y, q1, q2, q5⟩ := (z_holdsX y2).mp q.1
              obtain ⟨z, y', q3, q4, q6⟩ := (z_holdsX z2).mp q.2
              exact back x y y' z q1 q2 q3 q4 q5 q6
            · rw [y6, z6] at q
              obtain ⟨x, y, q1, q2, q5⟩ := (z_holdsM y2 q.2.1 q.1).mp q.2.2.2.1
              obtain ⟨z, y', q3, q4, q6⟩ := (z_holdsM z2 q.2.2.1 q.1).mp q.2.2.2.2
              exact back x y y' z q1 q2 q3 q4 q5 q6
        · have hk : ∀ x y : Int32, x = nI k → y = nI k2 → ¬ x = y := fun x y q1 q2 q3 => he ((z_eqN (a := k) (b := k2) rfl rfl (by omega) (by omega)).mp (q1.symm.trans (q3.trans q2)))
          exact ⟨-13, I, J, w, I, J, w, x_copy_badC E 97 I J w s' o' i j n hs ho n1 m1 (hk _ _ y3 z3), m_copy_badC E 96 I J w s' o' i j n hs ho n4 m4 (hk _ _ y4 z4), N, H9⟩
  · exact ⟨(-2), I, J, w, I, J, w, x_copy_badA E 97 I J w s i c j n (fun q => hc ⟨(z_hsX (m := 4) (n := 4) rfl (by decide)).mp q.1, (z_hsX (m := 4) (n := 4) rfl (by decide)).mp q.2⟩), m_copy_badA E 96 I J w s i c j n (fun q => hc ⟨(z_hsK (m := 3) (n := 3) rfl (by decide)).mp q.1, (z_hsK (m := 3) (n := 3) rfl (by decide)).mp q.2⟩), N, H9⟩
theorem g_rowOf (E : zE) (N : Nat → Nat) (I : Nat → Nat → Int32) (J : Nat → Nat → Int64) (w : Nat) (H : v_Inv N I J) (s : Int32) (c : Int32) (f : Int32) : v_GoI E 164 251 [.int s, .int c, .int f] I J w := by
  have H0 := H
  have H9 := H
  obtain ⟨⟨o1, o2, o3⟩, ⟨r1, r2, r3, r4⟩, ⟨t1, t2, t3, t4⟩, ⟨l1, l2, l3, l4⟩, ⟨e1, e2, e3, e4⟩, ⟨x1, x2, x3, x4, x5, x6, x7⟩, ⟨k1, k2, k3, k4⟩, ⟨p1, p2, p3, p4⟩, ⟨a1, a2, a3, a4⟩, ⟨f1, f2, f3, f4⟩, hsh⟩ := H
  obtain ⟨hK0, hK1, hK2, hK3, hK4, hK5, hK6, hK7, hK8, hK9, hK10⟩ := H0
  by_cases hc : z_hs s 4 ∧ z_hs c 3
  · obtain ⟨s', hs, rfl⟩ := z_hs_of hc.1
    obtain ⟨o', ho, rfl⟩ := z_hs_of hc.2
    rcases v_sheet H9 hs with ⟨y1, y2⟩ | ⟨k, a, y1, y2, y3, y4, y5, y6, y7⟩
    · exact ⟨-11, I, J, w, I, J, w, x_rowOf_miss E 97 I J w s' o' f hs ho y1, m_rowOf_miss E 96 I J w s' o' f hs ho y2, N, H9⟩
    · obtain ⟨n1, n2⟩ := z_kd3 y1 y3
      obtain ⟨n3, n4⟩ := z_kd3 y1 y4
      by_cases he : k = o'
      · subst he
        by_cases hh : ∃ f', f = nI f' ∧ f' + 8 ≤ a
        · obtain ⟨f', rfl, h1⟩ := hh
          have cpy : ∀ t, t < 8 → va_cpy (I (119 + s')) (I 125) f' 0 8 t = I 159 (40 * s' + f' + t) := fun t ht => by
            unfold va_cpy
            rw [if_pos (by omega), y7 _ (by omega), show 40 * s' + (f' + (t - 0)) = 40 * s' + f' + t by omega]
          have eqS : (∀ t, t < 8 → (¬ va_cpy (I (119 + s')) (I 125) f' 0 8 t < 0 ∧ ¬ 999 < va_cpy (I (119 + s')) (I 125) f' 0 8 t)) ↔ ∀ t, t < 8 → (¬ I 159 (40 * s' + f' + t) < 0 ∧ ¬ 999 < I 159 (40 * s' + f' + t)) := forall_congr' fun t => forall_congr' fun ht => by rw [cpy t ht]
          obtain ⟨A, eA⟩ : ∃ A, A = (z_ur I 125 (va_cpy (I (119 + s')) (I 125) f' 0 8)) := ⟨_, rfl⟩
          have fA : ∀ a k, a ≠ 125 → A a k = I a k := fun a k q => by rw [eA, z_ur_n _ _ q]
          have eqSA : (∀ t, t < 8 → (¬ A 159 (40 * s' + f' + t) < 0 ∧ ¬ 999 < A 159 (40 * s' + f' + t))) ↔ ∀ t, t < 8 → (¬ I 159 (40 * s' + f' + t) < 0 ∧ ¬ 999 < I 159 (40 * s' + f' + t)) := forall_congr' fun t => forall_congr' fun ht => by rw [fA _ _ (by omega)]
          have AInv : v_Inv N A J := v_Inv_eq H9 (fun a k q => fA a k (by unfold p_any p_hour p_rows p_things p_lights p_eyes p_texts p_tape p_plates p_ages p_filters p_sheets at q; omega)) (fun _ _ _ => rfl)
          by_cases hS : ∀ t, t < 8 → (¬ I 159 (40 * s' + f' + t) < 0 ∧ ¬ 999 < I 159 (40 * s' + f' + t))
          · by_cases hf : N 1 < 30
            · have cx := x_rowOf_ok E 97 I J w s' k f' a 8 (N 1) hs ho n1 y3 y5 y2 h1 rfl (eqS.mpr hS) r1 r3 hf
              rw [← eA] at cx
              obtain ⟨S1, eS⟩ : ∃ S, S = z_u2 (z_ur A (3 + N 1) (va_cpy (A 125) (A (3 + N 1)) 0 0 8)) 1 1 (nI (N 1 + 1)) := ⟨_, rfl⟩
              rw [← eS] at cx
              have fS : ∀ a k, a ≠ 125 → a ≠ 3 + N 1 → ¬ (a = 1 ∧ k = 1) → S1 a k = I a k := fun a k q1 q2 q3 => by rw [eS, z_u2_n _ _ q3, z_ur_n _ _ q2]; exact fA a k q1
              refine ⟨nI (N 1), S1, J, w, _, J, w, cx, m_rowOf_ok E 96 S1 J w s' k f' a 8 (N 1) hs ho ?_ ?_ ?_ y2 h1 rfl ?_ ?_ r3 hf, ?_⟩
              · rw [fS _ _ (by omega) (by omega) (by omega)]; exact n4
              · rw [fS _ _ (by omega) (by omega) (by omega)]; exact y4
              · rw [fS _ _ (by omega) (by omega) (by omega)]; exact y6
              · intro t ht; rw [fS _ _ (by omega) (by omega) (by omega)]; exact hS t ht
              · rw [fS _ _ (by omega) (by omega) (by omega)]; exact r2
              refine v_row_new H9 hf ?_ ?_ (fun c hcc => ?_) (fun a k q1 q3 q4 q5 q6 => ?_)
              · rw [z_u2_n _ _ (by omega), z_ur_n _ _ (by omega), eS, z_u2_same]
              · rw [z_u2_same]
              · obtain ⟨v, v1, v2⟩ := z_hs_of ((z_hsK (m := 999) (n := 999) rfl (by decide)).mp (hS c hcc))
                refine ⟨v, by omega, ?_, ?_⟩
                · rw [z_u2_n _ _ (by omega), z_ur_n _ _ (by omega), eS, z_u2_n _ _ (by omega), z_ur_same, v_cpy_in hcc, eA, z_ur_same, cpy c hcc]; exact v2
                · rw [z_u2_n _ _ (by omega), z_ur_same, z_fil_in (by omega), show 8 * N 1 + c - 8 * N 1 = c by omega, fS _ _ (by omega) (by omega) (by omega)]; exact v2
              · rw [z_u2_n _ _ q5]
                by_cases ea : a = 128
                · subst ea; rw [z_ur_same, z_fil_ge (by omega)]; exact fS _ _ (by omega) (by omega) (by omega)
                · rw [z_ur_n _ _ ea]; exact fS _ _ (by omega) (by omega) (by omega)
            · have cx := x_rowOf_full E 97 I J w s' k f' a 8 (N 1) hs ho n1 y3 y5 y2 h1 rfl (eqS.mpr hS) r1 r3 (by omega)
              rw [← eA] at cx
              exact ⟨-4, A, J, w, A, J, w, cx, m_rowOf_full E 96 A J w s' k f' a 8 (N 1) hs ho (by rw [fA _ _ (by omega)]; exact n4) ((fA _ _ (by omega)).trans y4) ((fA _ _ (by omega)).trans y6) y2 h1 rfl (eqSA.mpr hS) ((fA _ _ (by omega)).trans r2) r3 (by omega), N, AInv⟩
          · have cx := x_rowOf_state E 97 I J w s' k f' a 8 hs ho n1 y3 y5 y2 h1 rfl (fun q => hS (eqS.mp q))
            rw [← eA] at cx
            exact ⟨-3, A, J, w, A, J, w, cx, m_rowOf_state E 96 A J w s' k f' a 8 hs ho (by rw [fA _ _ (by omega)]; exact n4) ((fA _ _ (by omega)).trans y4) ((fA _ _ (by omega)).trans y6) y2 h1 rfl (fun q => hS (eqSA.mp q)), N, AInv⟩
        · have back : (∃ x y, f = nI x ∧ (8 : Int32) = nI y ∧ x + y ≤ a) → False := fun ⟨x, y, q1, q2, q3⟩ => by
            have : 8 = y := (z_eqN (a := 8) (b := y) rfl rfl (by decide) (by omega)).mp q2
            exact hh ⟨x, q1, by omega⟩
          refine ⟨-12, I, J, w, I, J, w, x_rowOf_badC E 97 I J w s' k f hs ho n1 y3 (fun q => ?_), m_rowOf_badC E 96 I J w s' k f hs ho n4 y4 (fun q => ?_), N, H9⟩
          · rw [y5] at q
            exact back ((z_holdsX y2).mp q)
          · rw [y6] at q
            exact back ((z_holdsM y2 q.1 (by decide)).mp q.2)
      · have hk : ∀ x : Int32, x = nI k → ¬ x = nI o' := fun x q1 q3 => he ((z_eqN (a := k) (b := o') rfl rfl (by omega) (by omega)).mp (q1.symm.trans q3))
        exact ⟨-13, I, J, w, I, J, w, x_rowOf_badB E 97 I J w s' o' f hs ho n1 (hk _ y3), m_rowOf_badB E 96 I J w s' o' f hs ho n4 (hk _ y4), N, H9⟩
  · exact ⟨(-2), I, J, w, I, J, w, x_rowOf_badA E 97 I J w s c f (fun q => hc ⟨(z_hsX (m := 4) (n := 4) rfl (by decide)).mp q.1, (z_hsK (m := 2) (n := 2) rfl (by decide)).mp q.2⟩), m_rowOf_badA E 96 I J w s c f (fun q => hc ⟨(z_hsK (m := 3) (n := 3) rfl (by decide)).mp q.1, (z_hsK (m := 2) (n := 2) rfl (by decide)).mp q.2⟩), N, H9⟩
