-- THE INVARIANT, by components
def p_hour (a k : Nat) : Prop := (a = 0 ∧ k = 13) ∨ (a = 127 ∧ k = 0)
def p_rows (a k : Nat) : Prop := (a = 1 ∧ k = 1) ∨ (a = 127 ∧ k = 1) ∨ (3 ≤ a ∧ a < 33) ∨ a = 128
def p_things (a k : Nat) : Prop := (a = 37 ∧ k = 7) ∨ (a = 127 ∧ k = 3) ∨ (38 ≤ a ∧ a ≤ 42) ∨ (129 ≤ a ∧ a ≤ 133)
def p_lights (a k : Nat) : Prop := (a = 43 ∧ k = 1) ∨ (a = 127 ∧ k = 9) ∨ (45 ≤ a ∧ a < 65) ∨ (a = 134 ∧ k < 160)
def p_eyes (a k : Nat) : Prop := (a = 65 ∧ k = 3) ∨ (a = 127 ∧ k = 11) ∨ (67 ≤ a ∧ a ≤ 75) ∨ a = 135 ∨ a = 136
def p_texts (a k : Nat) : Prop := (a = 79 ∧ (k = 6 ∨ k = 7)) ∨ (a = 127 ∧ (k = 16 ∨ k = 20)) ∨ (81 ≤ a ∧ a ≤ 88) ∨ (138 ≤ a ∧ a ≤ 140)
def p_tape (a k : Nat) : Prop := (a = 76 ∧ k = 1) ∨ (a = 127 ∧ k = 15) ∨ a = 77 ∨ a = 137
def p_plates (a k : Nat) : Prop := (a = 106 ∧ k = 6) ∨ (a = 127 ∧ k = 43) ∨ a = 107 ∨ a = 108 ∨ a = 149 ∨ a = 150
def p_ages (a k : Nat) : Prop := (a = 33 ∧ k = 3) ∨ (a = 127 ∧ k = 47) ∨ (34 ≤ a ∧ a ≤ 36) ∨ (152 ≤ a ∧ a ≤ 154)
def p_filters (a k : Nat) : Prop := (a = 110 ∧ (k = 2 ∨ k = 8 ∨ k = 9)) ∨ (a = 127 ∧ k = 51) ∨ a = 115 ∨ a = 116 ∨ a = 155 ∨ a = 156
def p_sheets (a k : Nat) : Prop := (119 ≤ a ∧ a ≤ 124) ∨ (157 ≤ a ∧ a ≤ 159)
def p_J (a k : Nat) : Prop := a = 111 ∨ (a = 110 ∧ k = 1)
def p_any (a k : Nat) : Prop := p_hour a k ∨ p_rows a k ∨ p_things a k ∨ p_lights a k ∨ p_eyes a k ∨ p_texts a k ∨ p_tape a k ∨ p_plates a k ∨ p_ages a k ∨ p_filters a k ∨ p_sheets a k
def v_hour (h : Nat) (I : Nat → Nat → Int32) : Prop := I 0 13 = nI h ∧ I 127 0 = nI h ∧ h ≤ 9999
def v_rows (n : Nat) (I : Nat → Nat → Int32) : Prop := I 1 1 = nI n ∧ I 127 1 = nI n ∧ n ≤ 30 ∧ ∀ r c, r < n → c < 8 → ∃ v, v ≤ 999 ∧ I (3 + r) c = nI v ∧ I 128 (8 * r + c) = nI v
def v_things (n nR h : Nat) (I : Nat → Nat → Int32) : Prop := I 37 7 = nI n ∧ I 127 3 = nI n ∧ n ≤ 20 ∧ ∀ t, t < n → ∃ K r p o s, K < 6 ∧ r < nR ∧ p < 100 ∧ o ≤ h ∧ s ≤ 65535 ∧ (I 38 t = nI K ∧ I 129 t = nI K) ∧ (I 39 t = nI r ∧ I 130 t = nI r) ∧ (I 40 t = nI p ∧ I 131 t = nI p) ∧ (I 41 t = nI o ∧ I 132 t = nI o) ∧ (I 42 t = nI s ∧ I 133 t = nI s)
def v_lights (n : Nat) (I : Nat → Nat → Int32) : Prop := I 43 1 = nI n ∧ I 127 9 = nI n ∧ n ≤ 20 ∧ ∀ l c, l < n → c < 8 → ∃ v, v ≤ 1000000000 ∧ I (45 + l) c = nI v ∧ I 134 (8 * l + c) = nI v
def v_eyes (n nR : Nat) (I : Nat → Nat → Int32) : Prop := I 65 3 = nI n ∧ I 127 11 = nI n ∧ n ≤ 8 ∧ ∀ e, e < n → ∃ q, q ≤ 3 ∧ I 75 e = nI q ∧ I 136 e = nI q ∧ ∀ t, t < q → ∃ r, r < nR ∧ I (67 + e) t = nI r ∧ I 135 (3 * e + t) = nI r
def v_text (u : Nat) (I : Nat → Nat → Int32) : Prop := ∃ b n c1 c2, s_txt I b n u ∧ I 87 u = nI c1.length ∧ I 88 u = nI (c1.length + c2.length) ∧ c1.length + c2.length ≤ 160 ∧ (∀ j, j < c1.length → I (81 + u) j = c1.getD j 0) ∧ (∀ j, j < c2.length → I (81 + u) (c1.length + j) = c2.getD j 0) ∧ ∀ fa, ∃ v1 v2, s_mtx b n fa = some (.inr (v1, v2)) ∧ s_ex fa c1 [] = some [v1] ∧ s_ex fa c2 [] = some [v2]
def v_texts (n u : Nat) (I : Nat → Nat → Int32) : Prop := I 79 6 = nI n ∧ I 127 16 = nI n ∧ n ≤ 6 ∧ I 79 7 = nI u ∧ I 127 20 = nI u ∧ u < n ∧ ∀ t, t < n → v_text t I
def v_tape (n : Nat) (I : Nat → Nat → Int32) : Prop := I 76 1 = nI n ∧ I 127 15 = nI n ∧ n ≤ 160 ∧ ∀ j, j < n → ∃ b, b < 256 ∧ I 77 j = nI b ∧ I 137 j = nI b
def v_plates (n nL : Nat) (I : Nat → Nat → Int32) : Prop := I 106 6 = nI n ∧ I 127 43 = nI n ∧ n ≤ 10 ∧ ∀ p, p < n → ∃ a b, a < nL ∧ b < nL ∧ (I 107 p = nI a ∧ I 149 p = nI a) ∧ (I 108 p = nI b ∧ I 150 p = nI b)
def v_ages (n : Nat) (I : Nat → Nat → Int32) : Prop := I 33 3 = nI n ∧ I 127 47 = nI n ∧ n ≤ 40 ∧ ∀ j, j < n → ∃ t h v, t < 20 ∧ h ≤ 9999 ∧ v ≤ 100 ∧ (I 34 j = nI t ∧ I 152 j = nI t) ∧ (I 35 j = nI h ∧ I 153 j = nI h) ∧ (I 36 j = nI v ∧ I 154 j = nI v)
def v_W (I : Nat → Nat → Int32) (r : Nat → Nat) (f c : Nat) : Nat := (I 128 (8 * r f + c)).toNatClampNeg % 10
def v_filters (n nR : Nat) (I : Nat → Nat → Int32) (J : Nat → Nat → Int64) : Prop := I 110 2 = nI n ∧ I 127 51 = nI n ∧ n ≤ 4 ∧ ∃ r rd : Nat → Nat, (∀ f, f < n → r f < nR ∧ rd f ≤ 999 ∧ I 155 f = nI (r f) ∧ I 156 f = nI (rd f)) ∧ (∀ c, c < 8 → J 111 c = Int64.ofNat (s_pk (fun f => v_W I r f c) n)) ∧ J 110 1 = Int64.ofNat (s_pk rd n) ∧ (I 110 9 = 0 ∨ (I 110 9 = 1 ∧ ∃ F, (∀ a b, a < 256 → b < 256 → F a b = s_FJ J a b) ∧ s_HR F I))
def v_sheets (I : Nat → Nat → Int32) : Prop := ∀ s, s < 4 → (I 123 s = (-1) ∧ I 157 s = (-1)) ∨ ∃ k n, k < 3 ∧ n ≤ 40 ∧ I 123 s = nI k ∧ I 157 s = nI k ∧ I 124 s = nI n ∧ I 158 s = nI n ∧ ∀ j, j < n → I (119 + s) j = I 159 (40 * s + j)
def v_Inv (N : Nat → Nat) (I : Nat → Nat → Int32) (J : Nat → Nat → Int64) : Prop := v_hour (N 0) I ∧ v_rows (N 1) I ∧ v_things (N 2) (N 1) (N 0) I ∧ v_lights (N 3) I ∧ v_eyes (N 4) (N 1) I ∧ v_texts (N 5) (N 7) I ∧ v_tape (N 6) I ∧ v_plates (N 8) (N 3) I ∧ v_ages (N 9) I ∧ v_filters (N 10) (N 1) I J ∧ v_sheets I
section VI
variable {N : Nat → Nat} {I I' : Nat → Nat → Int32} {J J' : Nat → Nat → Int64} {n m h nR nL nT u : Nat}
theorem v_hour_eq (H : v_hour h I) (e : ∀ a k, p_hour a k → I' a k = I a k) : v_hour h I' := ⟨(e _ _ (.inl ⟨rfl, rfl⟩)).trans H.1, (e _ _ (.inr ⟨rfl, rfl⟩)).trans H.2.1, H.2.2⟩
theorem v_rows_eq (H : v_rows n I) (e : ∀ a k, p_rows a k → I' a k = I a k) : v_rows n I' := by
  obtain ⟨h1, h2, h3, h4⟩ := H
  refine ⟨(e _ _ (by unfold p_rows; omega)).trans h1, (e _ _ (by unfold p_rows; omega)).trans h2, h3, fun r c hr hc => ?_⟩
  obtain ⟨v, v1, v2, v3⟩ := h4 r c hr hc
  exact ⟨v, v1, (e _ _ (by unfold p_rows; omega)).trans v2, (e _ _ (by unfold p_rows; omega)).trans v3⟩
theorem v_things_eq {nR' h' : Nat} (H : v_things n nR h I) (hR : nR ≤ nR') (hh : h ≤ h') (e : ∀ a k, p_things a k → I' a k = I a k) : v_things n nR' h' I' := by
  obtain ⟨h1, h2, h3, h4⟩ := H
  refine ⟨(e _ _ (by unfold p_things; omega)).trans h1, (e _ _ (by unfold p_things; omega)).trans h2, h3, fun t ht => ?_⟩
  obtain ⟨K, r, p, o, s, a1, a2, a3, a4, a5, b1, b2, b3, b4, b5⟩ := h4 t ht
  have f : ∀ a x, (38 ≤ a ∧ a ≤ 42) ∨ (129 ≤ a ∧ a ≤ 133) → I a t = x → I' a t = x := fun a x q r => (e _ _ (by unfold p_things; omega)).trans r
  exact ⟨K, r, p, o, s, a1, by omega, a3, by omega, a5, ⟨f _ _ (by omega) b1.1, f _ _ (by omega) b1.2⟩, ⟨f _ _ (by omega) b2.1, f _ _ (by omega) b2.2⟩, ⟨f _ _ (by omega) b3.1, f _ _ (by omega) b3.2⟩, ⟨f _ _ (by omega) b4.1, f _ _ (by omega) b4.2⟩, ⟨f _ _ (by omega) b5.1, f _ _ (by omega) b5.2⟩⟩
theorem v_lights_eq (H : v_lights n I) (e : ∀ a k, p_lights a k → I' a k = I a k) : v_lights n I' := by
  obtain ⟨h1, h2, h3, h4⟩ := H
  refine ⟨(e _ _ (by unfold p_lights; omega)).trans h1, (e _ _ (by unfold p_lights; omega)).trans h2, h3, fun r c hr hc => ?_⟩
  obtain ⟨v, v1, v2, v3⟩ := h4 r c hr hc
  exact ⟨v, v1, (e _ _ (by unfold p_lights; omega)).trans v2, (e _ _ (by unfold p_lights; omega)).trans v3⟩
theorem v_eyes_eq {nR' : Nat} (H : v_eyes n nR I) (hR : nR ≤ nR') (e : ∀ a k, p_eyes a k → I' a k = I a k) : v_eyes n nR' I' := by
  obtain ⟨h1, h2, h3, h4⟩ := H
  refine ⟨(e _ _ (by unfold p_eyes; omega)).trans h1, (e _ _ (by unfold p_eyes; omega)).trans h2, h3, fun y hy => ?_⟩
  obtain ⟨q, q1, q2, q3, q4⟩ := h4 y hy
  refine ⟨q, q1, (e _ _ (by unfold p_eyes; omega)).trans q2, (e _ _ (by unfold p_eyes; omega)).trans q3, fun t ht => ?_⟩
  obtain ⟨r, r1, r2, r3⟩ := q4 t ht
  exact ⟨r, by omega, (e _ _ (by unfold p_eyes; omega)).trans r2, (e _ _ (by unfold p_eyes; omega)).trans r3⟩
theorem v_text_eq (hu : u < 6) (H : v_text u I) (e : ∀ a k, p_texts a k → I' a k = I a k) : v_text u I' := by
  obtain ⟨b, n, c1, c2, ⟨t1, t2, t3, t4⟩, h2, h3, h4, h5, h6, h7⟩ := H
  refine ⟨b, n, c1, c2, ⟨(e _ _ (by unfold p_texts; omega)).trans t1, t2, t3, ?_⟩, (e _ _ (by unfold p_texts; omega)).trans h2, (e _ _ (by unfold p_texts; omega)).trans h3, h4, fun j hj => (e _ _ (by unfold p_texts; omega)).trans (h5 j hj), fun j hj => (e _ _ (by unfold p_texts; omega)).trans (h6 j hj), h7⟩
  rcases t4 with ⟨a, b', c⟩ | ⟨a, b', c⟩
  · exact .inl ⟨a, b', fun k hk => (e _ _ (by unfold p_texts; omega)).trans (c k hk)⟩
  · exact .inr ⟨a, b', fun k hk => (e _ _ (by unfold p_texts; omega)).trans (c k hk)⟩
theorem v_texts_eq (H : v_texts n u I) (e : ∀ a k, p_texts a k → I' a k = I a k) : v_texts n u I' := by
  obtain ⟨h1, h2, h3, h4, h5, h6, h7⟩ := H
  exact ⟨(e _ _ (by unfold p_texts; omega)).trans h1, (e _ _ (by unfold p_texts; omega)).trans h2, h3, (e _ _ (by unfold p_texts; omega)).trans h4, (e _ _ (by unfold p_texts; omega)).trans h5, h6, fun t ht => v_text_eq (by omega) (h7 t ht) e⟩
theorem v_tape_eq (H : v_tape n I) (e : ∀ a k, p_tape a k → I' a k = I a k) : v_tape n I' := by
  obtain ⟨h1, h2, h3, h4⟩ := H
  refine ⟨(e _ _ (by unfold p_tape; omega)).trans h1, (e _ _ (by unfold p_tape; omega)).trans h2, h3, fun j hj => ?_⟩
  obtain ⟨b, b1, b2, b3⟩ := h4 j hj
  exact ⟨b, b1, (e _ _ (by unfold p_tape; omega)).trans b2, (e _ _ (by unfold p_tape; omega)).trans b3⟩
theorem v_plates_eq {nL' : Nat} (H : v_plates n nL I) (hL : nL ≤ nL') (e : ∀ a k, p_plates a k → I' a k = I a k) : v_plates n nL' I' := by
  obtain ⟨h1, h2, h3, h4⟩ := H
  refine ⟨(e _ _ (by unfold p_plates; omega)).trans h1, (e _ _ (by unfold p_plates; omega)).trans h2, h3, fun p hp => ?_⟩
  obtain ⟨a, b, a1, a2, a3, a4⟩ := h4 p hp
  exact ⟨a, b, by omega, by omega, ⟨(e _ _ (by unfold p_plates; omega)).trans a3.1, (e _ _ (by unfold p_plates; omega)).trans a3.2⟩, ⟨(e _ _ (by unfold p_plates; omega)).trans a4.1, (e _ _ (by unfold p_plates; omega)).trans a4.2⟩⟩
theorem v_ages_eq (H : v_ages n I) (e : ∀ a k, p_ages a k → I' a k = I a k) : v_ages n I' := by
  obtain ⟨h1, h2, h3, h4⟩ := H
  refine ⟨(e _ _ (by unfold p_ages; omega)).trans h1, (e _ _ (by unfold p_ages; omega)).trans h2, h3, fun j hj => ?_⟩
  obtain ⟨t, hh, v, a1, a2, a3, b1, b2, b3⟩ := h4 j hj
  have f : ∀ a x, (34 ≤ a ∧ a ≤ 36) ∨ (152 ≤ a ∧ a ≤ 154) → I a j = x → I' a j = x := fun a x q r => (e _ _ (by unfold p_ages; omega)).trans r
  exact ⟨t, hh, v, a1, a2, a3, ⟨f _ _ (by omega) b1.1, f _ _ (by omega) b1.2⟩, ⟨f _ _ (by omega) b2.1, f _ _ (by omega) b2.2⟩, ⟨f _ _ (by omega) b3.1, f _ _ (by omega) b3.2⟩⟩
theorem s_HR_eq {F : Nat → Nat → Bool} (H : s_HR F I) (e : ∀ a k, p_filters a k → I' a k = I a k) : s_HR F I' := by
  obtain ⟨h1, h2, h3⟩ := H
  exact ⟨(e _ _ (by unfold p_filters; omega)).trans h1, fun j hj => ⟨(e _ _ (by unfold p_filters; omega)).trans (h2 j hj).1, (e _ _ (by unfold p_filters; omega)).trans (h2 j hj).2⟩, fun j hj => ⟨(e _ _ (by unfold p_filters; omega)).trans (h3 j hj).1, (e _ _ (by unfold p_filters; omega)).trans (h3 j hj).2⟩⟩
theorem s_pk_congr {g h : Nat → Nat} {n : Nat} (e : ∀ f, f < n → g f = h f) : s_pk g n = s_pk h n := s_sm_congr (fun j hj => by rw [e j hj])
theorem s_FJ_eq {a b : Nat} (e : ∀ a k, p_J a k → J' a k = J a k) : s_FJ J' a b = s_FJ J a b := by
  have w1 : ∀ f h, s_wf J' f h = s_wf J f h := fun f h => by unfold s_wf; rw [e 111 f (.inl rfl), e 111 (f + 1) (.inl rfl), e 111 (f + 2) (.inl rfl), e 111 (f + 3) (.inl rfl)]
  unfold s_FJ
  rw [w1, w1, e 110 1 (.inr ⟨rfl, rfl⟩)]
/-- the rows that are there stay, what filters have stays -/
theorem v_filters_eq {nR' : Nat} (H : v_filters n nR I J) (hR : nR ≤ nR') (er : ∀ k, k < 8 * nR → I' 128 k = I 128 k) (e : ∀ a k, p_filters a k → I' a k = I a k) (eJ : ∀ a k, p_J a k → J' a k = J a k) : v_filters n nR' I' J' := by
  obtain ⟨h1, h2, h3, r, rd, h4, h5, h6, h7⟩ := H
  refine ⟨(e _ _ (by unfold p_filters; omega)).trans h1, (e _ _ (by unfold p_filters; omega)).trans h2, h3, r, rd, fun f hf => ?_, fun c hc => ?_, (eJ _ _ (.inr ⟨rfl, rfl⟩)).trans h6, ?_⟩
  · obtain ⟨a1, a2, a3, a4⟩ := h4 f hf
    exact ⟨by omega, a2, (e _ _ (by unfold p_filters; omega)).trans a3, (e _ _ (by unfold p_filters; omega)).trans a4⟩
  · rw [eJ _ _ (.inl rfl), h5 c hc]
    refine congrArg Int64.ofNat (s_pk_congr (fun f hf => ?_))
    unfold v_W
    rw [er _ (by have := (h4 f hf).1; omega)]
  · rcases h7 with h7 | ⟨h7, F, f1, f2⟩
    · exact .inl ((e _ _ (by unfold p_filters; omega)).trans h7)
    · exact .inr ⟨(e _ _ (by unfold p_filters; omega)).trans h7, F, fun a b ha hb => (f1 a b ha hb).trans (s_FJ_eq eJ).symm, s_HR_eq f2 e⟩
theorem v_sheets_eq (H : v_sheets I) (e : ∀ a k, p_sheets a k → I' a k = I a k) : v_sheets I' := by
  intro s hs
  rcases H s hs with ⟨h1, h2⟩ | ⟨k, n, a1, a2, a3, a4, a5, a6, a7⟩
  · exact .inl ⟨(e _ _ (by unfold p_sheets; omega)).trans h1, (e _ _ (by unfold p_sheets; omega)).trans h2⟩
  · exact .inr ⟨k, n, a1, a2, (e _ _ (by unfold p_sheets; omega)).trans a3, (e _ _ (by unfold p_sheets; omega)).trans a4, (e _ _ (by unfold p_sheets; omega)).trans a5, (e _ _ (by unfold p_sheets; omega)).trans a6, fun j hj => by rw [e _ _ (by unfold p_sheets; omega), e 159 _ (by unfold p_sheets; omega)]; exact a7 j hj⟩
theorem v_Inv_eq (H : v_Inv N I J) (e : ∀ a k, p_any a k → I' a k = I a k) (eJ : ∀ a k, p_J a k → J' a k = J a k) : v_Inv N I' J' := by
  obtain ⟨h0, h1, h2, h3, h4, h5, h6, h7, h8, h9, h10⟩ := H
  exact ⟨v_hour_eq h0 (fun a k q => e a k (.inl q)), v_rows_eq h1 (fun a k q => e a k (.inr (.inl q))), v_things_eq h2 (Nat.le_refl _) (Nat.le_refl _) (fun a k q => e a k (.inr (.inr (.inl q)))), v_lights_eq h3 (fun a k q => e a k (.inr (.inr (.inr (.inl q))))), v_eyes_eq h4 (Nat.le_refl _) (fun a k q => e a k (.inr (.inr (.inr (.inr (.inl q)))))), v_texts_eq h5 (fun a k q => e a k (.inr (.inr (.inr (.inr (.inr (.inl q))))))), v_tape_eq h6 (fun a k q => e a k (.inr (.inr (.inr (.inr (.inr (.inr (.inl q)))))))), v_plates_eq h7 (Nat.le_refl _) (fun a k q => e a k (.inr (.inr (.inr (.inr (.inr (.inr (.inr (.inl q))))))))), v_ages_eq h8 (fun a k q => e a k (.inr (.inr (.inr (.inr (.inr (.inr (.inr (.inr (.inl q)))))))))), v_filters_eq h9 (Nat.le_refl _) (fun k _ => e 128 k (.inr (.inl (by unfold p_rows; omega)))) (fun a k q => e a k (.inr (.inr (.inr (.inr (.inr (.inr (.inr (.inr (.inr (.inl q))))))))))) eJ, v_sheets_eq h10 (fun a k q => e a k (.inr (.inr (.inr (.inr (.inr (.inr (.inr (.inr (.inr (.inr q)))))))))))⟩
end VI
/-- both answer alike, and all that is told stays right -/
def v_GoI (E : zE) (mx mm : Nat) (as : List Value) (I : Nat → Nat → Int32) (J : Nat → Nat → Int64) (w : Nat) : Prop := ∃ (x : Int32) (I1 : Nat → Nat → Int32) (J1 : Nat → Nat → Int64) (w1 : Nat) (I2 : Nat → Nat → Int32) (J2 : Nat → Nat → Int64) (w2 : Nat), z_cl E 99 mx (.ref 0 :: as) (161, I, J, RF w) = some (some (.int x), 161, I1, J1, RF w1) ∧ z_cl E 99 mm (.ref 127 :: as) (161, I1, J1, RF w1) = some (some (.int x), 161, I2, J2, RF w2) ∧ ∃ N, v_Inv N I2 J2
def v_GoJ (E : zE) (mx mm : Nat) (as : List Value) (I : Nat → Nat → Int32) (J : Nat → Nat → Int64) (w : Nat) : Prop := ∃ (x : Int64) (I1 : Nat → Nat → Int32) (J1 : Nat → Nat → Int64) (w1 : Nat) (I2 : Nat → Nat → Int32) (J2 : Nat → Nat → Int64) (w2 : Nat), z_cl E 99 mx (.ref 0 :: as) (161, I, J, RF w) = some (some (.long x), 161, I1, J1, RF w1) ∧ z_cl E 99 mm (.ref 127 :: as) (161, I1, J1, RF w1) = some (some (.long x), 161, I2, J2, RF w2) ∧ ∃ N, v_Inv N I2 J2
