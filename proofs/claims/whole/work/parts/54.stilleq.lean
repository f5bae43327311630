-- STILL: class and reference alike
theorem s_okX2 {k : Nat} {x : Int32} (h : s_ok k x) (hk : k < 2 ^ 31) : (x = (-1)) ↔ x < 0 := by
  rcases h with h | ⟨j, hj, h⟩
  · subst h; decide
  · subst h
    refine ⟨fun e => absurd e (z_nneg rfl (by omega) (by decide)), fun e => absurd e (nI_pos (by omega))⟩
theorem s_XM (T H : Nat → Int32) (t h : Int32) : ∀ k, k < 2 ^ 31 → (s_SX T H t h k).1 = (s_SM T H t h k).1 ∧ ((s_SX T H t h k).2 = (s_SM T H t h k).2 ∨ ∃ j, j < k ∧ (s_SM T H t h k).1 = nI j ∧ H j = h)
  | 0, _ => ⟨rfl, .inl rfl⟩
  | k + 1, hk => by
    obtain ⟨e1, e2⟩ := s_XM T H t h k (by omega)
    have o := s_okX T H t h k
    have q1 := s_okX2 o.1 (by omega)
    have q2 := s_okX2 o.2 (by omega)
    have om := (s_okM T H t h k).1
    show (s_stX T H t h k (s_SX T H t h k)).1 = (s_stM T H t h k (s_SM T H t h k)).1 ∧ ((s_stX T H t h k (s_SX T H t h k)).2 = (s_stM T H t h k (s_SM T H t h k)).2 ∨ ∃ j, j < k + 1 ∧ (s_stM T H t h k (s_SM T H t h k)).1 = nI j ∧ H j = h)
    generalize hx : s_SX T H t h k = x at *
    generalize hm : s_SM T H t h k = m at *
    obtain ⟨x1, x2⟩ := x
    obtain ⟨m1, m2⟩ := m
    dsimp only at e1 e2 o q1 q2 om ⊢
    subst e1
    unfold s_stX s_stM
    by_cases hT : T k = t
    · rw [if_pos hT, if_pos hT]
      by_cases hH : h < H k
      · rw [if_pos hH]
        dsimp only
        rw [if_pos hH]
        have hK : ¬ H k < h := by rw [Int32.lt_iff_toInt_lt] at hH ⊢; omega
        refine ⟨rfl, ?_⟩
        rcases e2 with e2 | ⟨j, hj, e, c⟩
        · left
          subst e2
          rw [if_neg hK]
          by_cases z : x2 = (-1)
          · rw [if_pos z, if_pos (q2.mp z)]
          · rw [if_neg z, if_neg (fun y => z (q2.mpr y))]
        · exact .inr ⟨j, by omega, e, c⟩
      · rw [if_neg hH]
        dsimp only
        rw [if_neg hH]
        have first : (if x1 = (-1) then nI k else if H k < H x1.toNatClampNeg then x1 else nI k) = (if x1 < 0 then nI k else if H k < H x1.toNatClampNeg then x1 else nI k) := by
          by_cases z : x1 = (-1)
          · rw [if_pos z, if_pos (q1.mp z)]
          · rw [if_neg z, if_neg (fun y => z (q1.mpr y))]
        refine ⟨first, ?_⟩
        by_cases hK : H k < h
        · rw [if_pos hK]
          rcases e2 with e2 | ⟨j, hj, e, c⟩
          · exact .inl e2
          · right
            subst e
            refine ⟨j, by omega, ?_, c⟩
            rw [if_neg (nI_pos (by omega)), nI_clamp (by omega), c, if_pos hK]
        · right
          have he : H k = h := by
            rw [Int32.lt_iff_toInt_lt] at hH hK
            exact Int32.toInt_inj.mp (by omega)
          refine ⟨k, by omega, ?_, he⟩
          by_cases z : x1 < 0
          · rw [if_pos z]
          · rw [if_neg z, if_neg]
            have := (s_at om z (by omega)).2
            rw [he]
            exact this
    · rw [if_neg hT, if_neg hT]
      refine ⟨rfl, ?_⟩
      rcases e2 with e2 | ⟨j, hj, e, c⟩
      · exact .inl e2
      · exact .inr ⟨j, by omega, e, c⟩
theorem s_btw_h {H P : Nat → Int32} {b e : Nat} {h : Int32} (hb : H b = h) : s_btw H P b e h = P b := by
  unfold s_btw
  split
  · rw [hb, Int32.sub_self, Int32.mul_zero, Int32.zero_div, Int32.add_zero]
  · rfl
theorem s_still {T H P : Nat → Int32} {t h : Int32} {n : Nat} (hn : n < 2 ^ 31) (hh : ∀ j, j < n → ∃ v, v ≤ 9999 ∧ H j = nI v) : s_anX H P h (s_SX T H t h n) = s_anM H P h (s_SM T H t h n) := by
  obtain ⟨e1, e2⟩ := s_XM T H t h n hn
  have o := s_okX T H t h n
  have q1 := s_okX2 o.1 hn
  have q2 := s_okX2 o.2 hn
  have om := s_okM T H t h n
  generalize s_SX T H t h n = x at *
  generalize s_SM T H t h n = m at *
  obtain ⟨x1, x2⟩ := x
  obtain ⟨m1, m2⟩ := m
  dsimp only at e1 e2 o q1 q2 om ⊢
  subst e1
  unfold s_anX s_anM
  dsimp only
  by_cases z : x1 < 0
  · rw [if_pos (q1.mpr z), if_pos z]
    rcases e2 with e2 | ⟨j, hj, e, _⟩
    · subst e2
      by_cases y : x2 < 0
      · rw [if_pos (q2.mpr y), if_pos y]
      · rw [if_neg (fun w => y (q2.mp w)), if_neg y]
    · rw [e] at z; exact absurd z (nI_pos (by omega))
  · rw [if_neg (fun w => z (q1.mp w)), if_neg z]
    rcases e2 with e2 | ⟨j, hj, e, c⟩
    · subst e2
      by_cases y : x2 < 0
      · rw [if_pos (q2.mpr y), if_pos y]
      · rw [if_neg (fun w => y (q2.mp w)), if_neg y]
        by_cases c : H x1.toNatClampNeg = h
        · rw [if_pos c, s_btw_h c]
        · rw [if_neg c]
          have a := (s_at om.1 z hn).2
          have b := (s_at om.2 y hn).2
          rcases om.1 with w | ⟨i, hi, wi, _⟩
          · rw [w] at z; exact absurd (by decide) z
          rcases om.2 with w | ⟨j, hj, wj, _⟩
          · rw [w] at y; exact absurd (by decide) y
          subst wi wj
          rw [nI_clamp (by omega)] at a b c ⊢
          rw [nI_clamp (by omega)]
          obtain ⟨vi, hvi, ei⟩ := hh i hi
          obtain ⟨vj, hvj, ej⟩ := hh j hj
          unfold s_btw
          rw [if_pos]
          rw [Int32.lt_iff_toInt_lt] at a b
          have c' : ¬ (H i).toInt = h.toInt := fun w => c (Int32.toInt_inj.mp w)
          rw [ei, nI_toInt (by omega)] at a c'
          rw [ej, nI_toInt (by omega)] at b
          rw [ei, ej, z_sub (by omega)]
          exact (z_ltN (a := 0) rfl rfl (by omega) (by omega)).mpr (by omega)
    · subst e
      have c2 : H (nI j).toNatClampNeg = h := by rw [nI_clamp (by omega)]; exact c
      have lhs : (if x2 = (-1) then P (nI j).toNatClampNeg else s_btw H P (nI j).toNatClampNeg x2.toNatClampNeg h) = P (nI j).toNatClampNeg := by
        split
        · rfl
        · exact s_btw_h c2
      rw [lhs]
      rw [if_pos c2, ite_self]
