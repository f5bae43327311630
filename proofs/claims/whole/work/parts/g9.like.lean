-- PAIRS: like, trueOf, worst
def s_v (c : List Int32) (fa : Nat → Int32) : Int32 := match s_ex fa c [] with
  | some [v] => v
  | _ => 0
theorem s_v_eq {c : List Int32} {fa : Nat → Int32} {v : Int32} (h : s_ex fa c [] = some [v]) : s_v c fa = v := by unfold s_v; rw [h]
def v_cx (N : Nat → Nat) (I : Nat → Nat → Int32) (e q : Nat) (r : Nat → Nat) (b : Nat → Nat) (n : Nat) (c1 c2 : List Int32) : Prop := (e < 8 ∧ q ≤ 3 ∧ I 75 e = nI q ∧ I 136 e = nI q) ∧ (∀ t, t < q → I (67 + e) t = nI (r t) ∧ I 135 (3 * e + t) = nI (r t) ∧ r t < 30 ∧ ∀ c, c < 8 → ∃ y, y ≤ 999 ∧ I (3 + r t) c = nI y ∧ I 128 (8 * r t + c) = nI y) ∧ (I 0 13 = nI (N 0) ∧ I 127 0 = nI (N 0)) ∧ (I 79 7 = nI (N 7) ∧ I 127 20 = nI (N 7) ∧ N 7 < 6) ∧ s_txt I b n (N 7) ∧ I 87 (N 7) = nI c1.length ∧ I 88 (N 7) = nI (c1.length + c2.length) ∧ c1.length + c2.length ≤ 160 ∧ (∀ j, j < c1.length → I (81 + N 7) j = c1.getD j 0) ∧ (∀ j, j < c2.length → I (81 + N 7) (c1.length + j) = c2.getD j 0) ∧ (∀ fa, s_ex fa c1 [] = some [s_v c1 fa]) ∧ (∀ fa, s_ex fa c2 [] = some [s_v c2 fa]) ∧ ∀ fa fb, (∀ j, j < 6 → fb j = fa j) → s_mtx b n fb = some (.inr (s_v c1 fa, s_v c2 fa))
theorem v_cx_of {N : Nat → Nat} {I : Nat → Nat → Int32} {J : Nat → Nat → Int64} (H : v_Inv N I J) {e : Nat} (he : e < N 4) : ∃ q r b n c1 c2, v_cx N I e q r b n c1 c2 := by
  obtain ⟨q, r, q3, q1, q2, qr, qm, qn⟩ := v_eye_r H he
  have H9 := H
  obtain ⟨⟨o1, o2, o3⟩, ⟨r1, r2, r3, r4⟩, -, -, ⟨-, -, e3, -⟩, ⟨x1, x2, x3, x4, x5, x6, x7⟩, -⟩ := H
  obtain ⟨b, n, c1, c2, t1, g2, g3, g4, g5, g6, g7⟩ := x7 (N 7) x6
  have k1 : ∀ fa, s_ex fa c1 [] = some [s_v c1 fa] := fun fa => by
    obtain ⟨v1, v2, _, m2, _⟩ := g7 fa
    rw [s_v_eq m2]; exact m2
  have k2 : ∀ fa, s_ex fa c2 [] = some [s_v c2 fa] := fun fa => by
    obtain ⟨v1, v2, _, _, m3⟩ := g7 fa
    rw [s_v_eq m3]; exact m3
  refine ⟨q, r, b, n, c1, c2, ⟨by omega, q3, q1, q2⟩, fun t ht => ⟨(qr t ht).1, (qm t ht).1, (qr t ht).2, v_row_x H9 (qn t ht)⟩, ⟨o1, o2⟩, ⟨x4, x5, by omega⟩, t1, g2, g3, g4, g5, g6, k1, k2, fun fa fb hf => ?_⟩
  obtain ⟨v1, v2, m1, m2, m3⟩ := g7 fb
  have e1 : v1 = s_v c1 fa := (s_v_eq ((s_ex_congr hf c1 []).symm.trans m2)).symm
  have e2 : v2 = s_v c2 fa := (s_v_eq ((s_ex_congr hf c2 []).symm.trans m3)).symm
  rw [m1, e1, e2]
def v_fN (I : Nat → Nat → Int32) (r : Nat → Nat) (q h : Nat) (A B : Nat → Nat) (kd : Int32) : Nat → Int32 := s_fa (s_fx (fun c => nI (A c)) (fun c => nI (B c)) (fun t => I (3 + r t)) q) kd (nI h)
section LK
variable {N : Nat → Nat} {I S : Nat → Nat → Int32} {e q n : Nat} {r b : Nat → Nat} {c1 c2 : List Int32} {A B : Nat → Nat}
theorem v_fX (hS : ∀ a k, p_any a k → S a k = I a k) (C : v_cx N I e q r b n c1 c2) {x y : Nat} {kd : Int32} (hA : ∀ c, c < 8 → S x c = nI (A c)) (hB : ∀ c, c < 8 → S y c = nI (B c)) : s_fa (s_fx (S x) (S y) (fun t => S (3 + r t)) q) kd (nI (N 0)) = v_fN I r q (N 0) A B kd := by
  unfold v_fN
  refine s_fa_congr (fun t _ => s_fx_congr hA hB (fun ht c hc => hS _ _ (.inr (.inl ?_))))
  have := (C.2.1 t ht).2.2.1
  unfold p_rows
  omega
theorem v_fM (hS : ∀ a k, p_any a k → S a k = I a k) (C : v_cx N I e q r b n c1 c2) {x y : Nat} {kd : Int32} (hA : ∀ c, c < 8 → S 134 (8 * x + c) = nI (A c) ∧ A c ≤ 1000000000) (hB : ∀ c, c < 8 → S 134 (8 * y + c) = nI (B c) ∧ B c ≤ 1000000000) : s_fa (s_fm (fun c => S 134 (8 * x + c)) (fun c => S 134 (8 * y + c)) (fun t c => S 128 (8 * r t + c)) q) kd (nI (N 0)) = v_fN I r q (N 0) A B kd := by
  unfold v_fN
  refine s_fa_congr (fun t _ => (s_fx_fm (fun c hc => ⟨A c, (hA c hc).2, rfl, (hA c hc).1⟩) (fun c hc => ⟨B c, (hB c hc).2, rfl, (hB c hc).1⟩) (fun ht c hc => ?_)).symm)
  obtain ⟨v, v1, v2, v3⟩ := (C.2.1 t ht).2.2.2 c hc
  exact ⟨v, v1, v2, (hS _ _ (.inr (.inl (by unfold p_rows; omega)))).trans v3⟩
theorem v_anyT {a k : Nat} (h : p_texts a k) : p_any a k := .inr (.inr (.inr (.inr (.inr (.inl h)))))
theorem v_anyE {a k : Nat} (h : p_eyes a k) : p_any a k := .inr (.inr (.inr (.inr (.inl h))))
theorem v_likeX (E : zE) (d : Nat) (J : Nat → Nat → Int64) (w : Nat) (hS : ∀ a k, p_any a k → S a k = I a k) (C : v_cx N I e q r b n c1 c2) {x y : Nat} (hx : z_A x 8) (hy : z_A y 8) (nx : x ≠ 89) (ny : y ≠ 89) (hA : ∀ c, c < 8 → S x c = nI (A c)) (hB : ∀ c, c < 8 → S y c = nI (B c)) : ∃ I', z_cl E (d + 4) 87 [.ref 79, .int (nI e), .ref x, .ref y, .int (nI (N 0))] (161, S, J, RF w) = some (some (.int (s_v c1 (v_fN I r q (N 0) A B (nI q)))), 161, I', J, RF w) ∧ ∀ a k, a ≠ 89 → a ≠ 90 → I' a k = S a k := by
  obtain ⟨⟨C1, C2, C3, C4⟩, C5, ⟨C6, C7⟩, ⟨C8, C9, C10⟩, C11, C12, C13, C14, C15, C16, C17, C18, C19⟩ := C
  refine x_likenessQ E d S J w e x y q r (N 7) c1.length (nI (N 0)) C1 ((hS _ _ (v_anyE (by unfold p_eyes; omega))).trans C3) C2 (fun t ht => ⟨(hS _ _ (v_anyE (by unfold p_eyes; omega))).trans (C5 t ht).1, (C5 t ht).2.2.1⟩) hx hy nx ny ((hS _ _ (v_anyT (by unfold p_texts; omega))).trans C8) C10 ((hS _ _ (v_anyT (by unfold p_texts; omega))).trans C12) (by omega) rfl (fun j hj => (hS _ _ (v_anyT (by unfold p_texts; omega))).trans (C15 j hj)) ?_
  rw [(hS 75 e (v_anyE (by unfold p_eyes; omega))).trans C3, v_fX hS ⟨⟨C1, C2, C3, C4⟩, C5, ⟨C6, C7⟩, ⟨C8, C9, C10⟩, C11, C12, C13, C14, C15, C16, C17, C18, C19⟩ hA hB]
  exact C17 _
theorem v_likeM (E : zE) (d : Nat) (J : Nat → Nat → Int64) (w : Nat) (hS : ∀ a k, p_any a k → S a k = I a k) (C : v_cx N I e q r b n c1 c2) {x y : Nat} (hx : x < 24) (hy : y < 24) (hA : ∀ c, c < 8 → S 134 (8 * x + c) = nI (A c) ∧ A c ≤ 1000000000) (hB : ∀ c, c < 8 → S 134 (8 * y + c) = nI (B c) ∧ B c ≤ 1000000000) : ∃ I', z_cl E (d + 7) 219 [.ref 127, .int (nI e), .int (nI x), .int (nI y)] (161, S, J, RF w) = some (some (.int (s_v c1 (v_fN I r q (N 0) A B (nI q)))), 161, I', J, RF w) ∧ ∀ a k, ¬ s_scT a k → a ≠ 141 → I' a k = S a k := by
  have C0 := C
  obtain ⟨⟨C1, C2, C3, C4⟩, C5, ⟨C6, C7⟩, ⟨C8, C9, C10⟩, C11, C12, C13, C14, C15, C16, C17, C18, C19⟩ := C
  have T : s_txt S b n (N 7) := by
    obtain ⟨y1, y2, y3, y4⟩ := C11
    refine ⟨(hS _ _ (v_anyT (by unfold p_texts; omega))).trans y1, y2, y3, ?_⟩
    rcases y4 with ⟨y5, y6, y7⟩ | ⟨y5, y6, y7⟩
    · exact .inl ⟨y5, y6, fun k hk => (hS _ _ (v_anyT (by unfold p_texts; omega))).trans (y7 k hk)⟩
    · exact .inr ⟨y5, y6, fun k hk => (hS _ _ (v_anyT (by unfold p_texts; omega))).trans (y7 k hk)⟩
  refine m_likeOfQ E d J w e x y q r (v2 := s_v c2 (v_fN I r q (N 0) A B (nI q))) C1 ((hS _ _ (v_anyE (by unfold p_eyes; omega))).trans C4) C2 (fun t ht => ⟨(hS _ _ (v_anyE (by unfold p_eyes; omega))).trans (C5 t ht).2.1, (C5 t ht).2.2.1⟩) hx hy ((hS _ _ (v_anyT (by unfold p_texts; omega))).trans C9) C10 T (fun fa hf => C19 _ _ (fun j hj => ?_))
  rw [hf j hj, (hS 136 e (v_anyE (by unfold p_eyes; omega))).trans C4, (hS 127 0 (.inl (.inr ⟨rfl, rfl⟩))).trans C7, v_fM hS C0 hA hB]
theorem v_trueX (E : zE) (d : Nat) (J : Nat → Nat → Int64) (w : Nat) (hS : ∀ a k, p_any a k → S a k = I a k) (C : v_cx N I e q r b n c1 c2) {x y : Nat} {kd : Int32} (hx : z_A x 8) (hy : z_A y 8) (nx : x ≠ 89) (ny : y ≠ 89) (hA : ∀ c, c < 8 → S x c = nI (A c)) (hB : ∀ c, c < 8 → S y c = nI (B c)) : ∃ I', z_cl E (d + 4) 88 [.ref 79, .int (nI e), .ref x, .ref y, .int kd, .int (nI (N 0))] (161, S, J, RF w) = some (some (.int (s_v c2 (v_fN I r q (N 0) A B kd))), 161, I', J, RF w) ∧ ∀ a k, a ≠ 89 → a ≠ 90 → I' a k = S a k := by
  have C0 := C
  obtain ⟨⟨C1, C2, C3, C4⟩, C5, ⟨C6, C7⟩, ⟨C8, C9, C10⟩, C11, C12, C13, C14, C15, C16, C17, C18, C19⟩ := C
  refine x_truenessQ E d S J w e x y q r (N 7) c1.length (c1.length + c2.length) kd (nI (N 0)) C1 ((hS _ _ (v_anyE (by unfold p_eyes; omega))).trans C3) C2 (fun t ht => ⟨(hS _ _ (v_anyE (by unfold p_eyes; omega))).trans (C5 t ht).1, (C5 t ht).2.2.1⟩) hx hy nx ny ((hS _ _ (v_anyT (by unfold p_texts; omega))).trans C8) C10 ((hS _ _ (v_anyT (by unfold p_texts; omega))).trans C12) ((hS _ _ (v_anyT (by unfold p_texts; omega))).trans C13) C14 rfl (fun j hj => (hS _ _ (v_anyT (by unfold p_texts; omega))).trans (C16 j hj)) ?_
  rw [v_fX hS C0 hA hB]
  exact C18 _
end LK
theorem g_like (E : zE) (N : Nat → Nat) (I : Nat → Nat → Int32) (J : Nat → Nat → Int64) (w : Nat) (H : v_Inv N I J) (e : Int32) (a : Int32) (b : Int32) : v_GoJ E 144 220 [.int e, .int a, .int b] I J w := by
  have H0 := H
  have H9 := H
  obtain ⟨⟨o1, o2, o3⟩, ⟨r1, r2, r3, r4⟩, ⟨t1, t2, t3, t4⟩, ⟨l1, l2, l3, l4⟩, ⟨e1, e2, e3, e4⟩, ⟨x1, x2, x3, x4, x5, x6, x7⟩, ⟨k1, k2, k3, k4⟩, ⟨p1, p2, p3, p4⟩, ⟨a1, a2, a3, a4⟩, ⟨f1, f2, f3, f4⟩, hsh⟩ := H
  obtain ⟨hK0, hK1, hK2, hK3, hK4, hK5, hK6, hK7, hK8, hK9, hK10⟩ := H0
  by_cases hc : z_hs e (N 4) ∧ z_hs a (N 3) ∧ z_hs b (N 3)
  · obtain ⟨e', he, rfl⟩ := z_hs_of hc.1
    obtain ⟨a', ha, rfl⟩ := z_hs_of hc.2.1
    obtain ⟨b', hb, rfl⟩ := z_hs_of hc.2.2
    obtain ⟨q, r, bb, n, c1, c2, C⟩ := v_cx_of H9 he
    obtain ⟨I1, u1, u2⟩ := v_likeX (A := v_LN I a') (B := v_LN I b') E 94 J w (fun _ _ _ => rfl) C (z_A_lights a' (by omega)) (z_A_lights b' (by omega)) (by omega) (by omega) (fun c hc => (v_LN_eq H9 ha hc).1) (fun c hc => (v_LN_eq H9 hb hc).1)
    have s1 : ∀ a k, p_any a k → I1 a k = I a k := fun a k q => u2 a k (by unfold p_any p_hour p_rows p_things p_lights p_eyes p_texts p_tape p_plates p_ages p_filters p_sheets at q; omega) (by unfold p_any p_hour p_rows p_things p_lights p_eyes p_texts p_tape p_plates p_ages p_filters p_sheets at q; omega)
    have s2 : ∀ k, I1 134 k = I 134 k := fun k => u2 _ _ (by omega) (by omega)
    obtain ⟨I2, w1, w2⟩ := v_likeM (A := v_LN I a') (B := v_LN I b') E 91 J w s1 C (x := a') (y := b') (by omega) (by omega) (fun c hc => ⟨(s2 _).trans (v_LN_eq H9 ha hc).2.2, (v_LN_eq H9 ha hc).2.1⟩) (fun c hc => ⟨(s2 _).trans (v_LN_eq H9 hb hc).2.2, (v_LN_eq H9 hb hc).2.1⟩)
    have cx := z_call (E := E) (d := 98) (M := z_m144) (mid := 144) (as := [.ref 0, .int (nI e'), .int (nI a'), .int (nI b')]) (z := 161) (σ := (I, J, RF w)) rfl rfl (x_like_s E 94 I J w e' a' b' (N 4) (N 3) _ I1 e1 e3 l1 l3 he ha hb (by rw [o1]; exact u1))
    have cm := z_call (E := E) (d := 98) (M := z_m220) (mid := 220) (as := [.ref 127, .int (nI e'), .int (nI a'), .int (nI b')]) (z := 161) (σ := (I1, J, RF w)) rfl rfl (m_like_s E 91 I1 J w e' a' b' (N 4) (N 3) _ I2 ((u2 _ _ (by omega) (by omega)).trans e2) e3 ((u2 _ _ (by omega) (by omega)).trans l2) l3 he ha hb w1)
    exact ⟨_, I1, J, w, I2, J, w, cx, cm, N, v_Inv_eq H9 (fun a k q => (w2 a k (by unfold p_any p_hour p_rows p_things p_lights p_eyes p_texts p_tape p_plates p_ages p_filters p_sheets at q; unfold s_scT; omega) (by unfold p_any p_hour p_rows p_things p_lights p_eyes p_texts p_tape p_plates p_ages p_filters p_sheets at q; omega)).trans (s1 a k q)) (fun _ _ _ => rfl)⟩
  · exact ⟨(-4611686018427387904), I, J, w, I, J, w, x_like_bad E 94 I J w e a b (fun q => hc ⟨(z_hsX e1 (by omega)).mp q.1, (z_hsX l1 (by omega)).mp q.2.1, (z_hsX l1 (by omega)).mp q.2.2⟩), m_like_bad E 91 I J w e a b (fun q => hc ⟨(z_hsM e2 (by omega)).mp q.1, (z_hsM l2 (by omega)).mp q.2.1, (z_hsM l2 (by omega)).mp q.2.2⟩), N, H9⟩
theorem v_tnX {N : Nat → Nat} {I S : Nat → Nat → Int32} {J : Nat → Nat → Int64} (H : v_Inv N I J) (hS : ∀ a k, p_any a k → S a k = I a k) (E : zE) (d : Nat) (w : Nat) {e q n t x y K r0 p : Nat} {r b : Nat → Nat} {c1 c2 : List Int32} (C : v_cx N I e q r b n c1 c2) (ht : t < N 2) (hx : x < N 3) (hy : y < N 3) (q1 : K < 6) (q2 : r0 < N 1) (q3 : p < 100) (b1 : I 38 t = nI K) (b2 : I 39 t = nI r0) (b3 : I 40 t = nI p) : ∃ I', z_cl E (d + 5) 166 [.ref 0, .int (nI e), .int (nI t), .int (nI x), .int (nI y)] (161, S, J, RF w) = some (some (.int (s_v c2 (v_fN I r q (N 0) (fun c => s_tn K (v_LN I x) (v_RN I r0) p c) (fun c => s_tn K (v_LN I y) (v_RN I r0) p c) (nI K)))), 161, I', J, RF w) ∧ ∀ a k, a ≠ 89 → a ≠ 90 → a ≠ 125 → a ≠ 126 → I' a k = S a k := by
  have r3 : N 1 ≤ 30 := H.2.1.2.2.1
  have t3 : N 2 ≤ 20 := H.2.2.1.2.2.1
  have l3 : N 3 ≤ 20 := H.2.2.2.1.2.2.1
  have pT : ∀ a k, p_things a k → S a k = I a k := fun a k h => hS a k (.inr (.inr (.inl h)))
  have pR : ∀ a k, p_rows a k → S a k = I a k := fun a k h => hS a k (.inr (.inl h))
  have pL : ∀ a k, p_lights a k → S a k = I a k := fun a k h => hS a k (.inr (.inr (.inr (.inl h))))
  obtain ⟨I1, u1, u2, u3⟩ := x_turnQ E d S J w t (45 + x) 125 r0 K p (v_LN I x) (v_RN I r0) (by omega) ((pT _ _ (by unfold p_things; omega)).trans b2) (by omega) (z_A_lights x (by omega)) z_A_125 (by decide) (by omega) ((pT _ _ (by unfold p_things; omega)).trans b1) q1 ((pT _ _ (by unfold p_things; omega)).trans b3) q3 (fun c hc => ⟨(pL _ _ (by unfold p_lights; omega)).trans (v_LN_eq H hx hc).1, (v_LN_eq H hx hc).2.1⟩) (fun c hc => ⟨(pR _ _ (by unfold p_rows; omega)).trans (v_RN_eq H q2 hc).1, (v_RN_eq H q2 hc).2.1⟩)
  obtain ⟨I2, y1, y2, y3⟩ := x_turnQ E d I1 J w t (45 + y) 126 r0 K p (v_LN I y) (v_RN I r0) (by omega) ((u3 _ _ (by omega)).trans ((pT _ _ (by unfold p_things; omega)).trans b2)) (by omega) (z_A_lights y (by omega)) z_A_126 (by decide) (by omega) ((u3 _ _ (by omega)).trans ((pT _ _ (by unfold p_things; omega)).trans b1)) q1 ((u3 _ _ (by omega)).trans ((pT _ _ (by unfold p_things; omega)).trans b3)) q3 (fun c hc => ⟨(u3 _ _ (by omega)).trans ((pL _ _ (by unfold p_lights; omega)).trans (v_LN_eq H hy hc).1), (v_LN_eq H hy hc).2.1⟩) (fun c hc => ⟨(u3 _ _ (by omega)).trans ((pR _ _ (by unfold p_rows; omega)).trans (v_RN_eq H q2 hc).1), (v_RN_eq H q2 hc).2.1⟩)
  have s2 : ∀ a k, a ≠ 125 → a ≠ 126 → I2 a k = S a k := fun a k h1 h2 => (y3 a k h2).trans (u3 a k h1)
  have hS2 : ∀ a k, p_any a k → I2 a k = I a k := fun a k q => (s2 a k (by unfold p_any p_hour p_rows p_things p_lights p_eyes p_texts p_tape p_plates p_ages p_filters p_sheets at q; omega) (by unfold p_any p_hour p_rows p_things p_lights p_eyes p_texts p_tape p_plates p_ages p_filters p_sheets at q; omega)).trans (hS a k q)
  obtain ⟨I3, z1, z2⟩ := v_trueX (A := fun c => s_tn K (v_LN I x) (v_RN I r0) p c) (B := fun c => s_tn K (v_LN I y) (v_RN I r0) p c) (kd := nI K) E d J w hS2 C z_A_125 z_A_126 (by decide) (by decide) (fun c hc => (y3 _ _ (by decide)).trans (u2 c hc)) (fun c hc => y2 c hc)
  refine ⟨I3, z_call (E := E) (d := d + 4) (M := z_m166) rfl rfl (x_tru_s E d S J w e t x y _ I1 I2 I3 (by omega) (by omega) (by omega) u1 y1 ?_), fun a k h1 h2 h3 h4 => (z2 a k h1 h2).trans (s2 a k h3 h4)⟩
  rw [hS2 38 t (.inr (.inr (.inl (by unfold p_things; omega)))), hS2 0 13 (.inl (.inl ⟨rfl, rfl⟩)), b1, C.2.2.1.1]
  exact z1
theorem v_tnM {N : Nat → Nat} {I S : Nat → Nat → Int32} {J : Nat → Nat → Int64} (H : v_Inv N I J) (hS : ∀ a k, p_any a k → S a k = I a k) (E : zE) (d : Nat) (w : Nat) {e q n t x y K r0 p : Nat} {r b : Nat → Nat} {c1 c2 : List Int32} (C : v_cx N I e q r b n c1 c2) (ht : t < N 2) (hx : x < N 3) (hy : y < N 3) (q1 : K < 6) (q2 : r0 < N 1) (q3 : p < 100) (b1 : I 129 t = nI K) (b2 : I 130 t = nI r0) (b3 : I 131 t = nI p) : ∃ I', z_cl E (d + 7) 221 [.ref 127, .int (nI e), .int (nI t), .int (nI x), .int (nI y)] (161, S, J, RF w) = some (some (.int (s_v c2 (v_fN I r q (N 0) (fun c => s_tn K (v_LN I x) (v_RN I r0) p c) (fun c => s_tn K (v_LN I y) (v_RN I r0) p c) (nI K)))), 161, I', J, RF w) ∧ ∀ a k, ¬ s_scT a k → a ≠ 141 → ¬ (a = 134 ∧ 160 ≤ k) → I' a k = S a k := by
  have r3 : N 1 ≤ 30 := H.2.1.2.2.1
  have t3 : N 2 ≤ 20 := H.2.2.1.2.2.1
  have l3 : N 3 ≤ 20 := H.2.2.2.1.2.2.1
  have C0 := C
  obtain ⟨⟨C1, C2, C3, C4⟩, C5, ⟨C6, C7⟩, ⟨C8, C9, C10⟩, C11, C12, C13, C14, C15, C16, C17, C18, C19⟩ := C
  have pT : ∀ a k, p_things a k → S a k = I a k := fun a k h => hS a k (.inr (.inr (.inl h)))
  have pR : ∀ a k, p_rows a k → S a k = I a k := fun a k h => hS a k (.inr (.inl h))
  have pL : ∀ a k, p_lights a k → S a k = I a k := fun a k h => hS a k (.inr (.inr (.inr (.inl h))))
  obtain ⟨I1, u1, u2, u3⟩ := m_turnQ E (d + 5) S J w x t 20 r0 K p (v_LN I x) (v_RN I r0) (by omega) (by omega) (by decide) (by omega) ((pT _ _ (by unfold p_things; omega)).trans b2) (by omega) ((pT _ _ (by unfold p_things; omega)).trans b1) q1 ((pT _ _ (by unfold p_things; omega)).trans b3) q3 (fun c hc => ⟨(pL _ _ (by unfold p_lights; omega)).trans (v_LN_eq H hx hc).2.2, (v_LN_eq H hx hc).2.1⟩) (fun c hc => ⟨(pR _ _ (by unfold p_rows; omega)).trans (v_RN_eq H q2 hc).2.2, (v_RN_eq H q2 hc).2.1⟩)
  obtain ⟨I2, y1, y2, y3⟩ := m_turnQ E (d + 5) I1 J w y t 21 r0 K p (v_LN I y) (v_RN I r0) (by omega) (by omega) (by decide) (by omega) ((u3 _ _ (by omega)).trans ((pT _ _ (by unfold p_things; omega)).trans b2)) (by omega) ((u3 _ _ (by omega)).trans ((pT _ _ (by unfold p_things; omega)).trans b1)) q1 ((u3 _ _ (by omega)).trans ((pT _ _ (by unfold p_things; omega)).trans b3)) q3 (fun c hc => ⟨(u3 _ _ (by omega)).trans ((pL _ _ (by unfold p_lights; omega)).trans (v_LN_eq H hy hc).2.2), (v_LN_eq H hy hc).2.1⟩) (fun c hc => ⟨(u3 _ _ (by omega)).trans ((pR _ _ (by unfold p_rows; omega)).trans (v_RN_eq H q2 hc).2.2), (v_RN_eq H q2 hc).2.1⟩)
  have s2 : ∀ a k, ¬ (a = 134 ∧ 160 ≤ k) → I2 a k = S a k := fun a k h => (y3 a k (by omega)).trans (u3 a k (by omega))
  have hS2 : ∀ a k, p_any a k → I2 a k = I a k := fun a k q => (s2 a k (by unfold p_any p_hour p_rows p_things p_lights p_eyes p_texts p_tape p_plates p_ages p_filters p_sheets at q; omega)).trans (hS a k q)
  have pE : ∀ a k, p_eyes a k → I2 a k = I a k := fun a k h => hS2 a k (v_anyE h)
  have z3 := m_findFacts E (d + 4) I2 J w e 20 21 (nI K) q r C1 ((pE _ _ (by unfold p_eyes; omega)).trans C4) C2 (fun t ht => ⟨(pE _ _ (by unfold p_eyes; omega)).trans (C5 t ht).2.1, (C5 t ht).2.2.1⟩) (by decide) (by decide)
  obtain ⟨I3, eI3⟩ : ∃ I3, I3 = z_u2 (z_u2 (z_u2 (z_ur I2 141 (z_fil (I2 141) 0 3 (s_fm (fun c => I2 134 (8 * 20 + c)) (fun c => I2 134 (8 * 21 + c)) (fun t c => I2 128 (8 * r t + c)) q))) 141 3 (s_fs (s_fm (fun c => I2 134 (8 * 20 + c)) (fun c => I2 134 (8 * 21 + c)) (fun t c => I2 128 (8 * r t + c)) q) 3)) 141 4 (nI K)) 141 5 (I2 127 0) := ⟨_, rfl⟩
  rw [← eI3] at z3
  have f3 : ∀ a k, a ≠ 141 → I3 a k = I2 a k := fun a k h => by rw [eI3]; exact s_fa_o h
  have T : s_txt I3 b n (N 7) := by
    have g : ∀ a k, p_texts a k → I3 a k = I a k := fun a k h => (f3 a k (by unfold p_texts at h; omega)).trans (hS2 a k (v_anyT h))
    obtain ⟨h1, h2, h3, h4⟩ := C11
    refine ⟨(g _ _ (by unfold p_texts; omega)).trans h1, h2, h3, ?_⟩
    rcases h4 with ⟨h5, h6, h7⟩ | ⟨h5, h6, h7⟩
    · exact .inl ⟨h5, h6, fun k hk => (g _ _ (by unfold p_texts; omega)).trans (h7 k hk)⟩
    · exact .inr ⟨h5, h6, fun k hk => (g _ _ (by unfold p_texts; omega)).trans (h7 k hk)⟩
  have fa : ∀ j, j < 6 → I3 141 j = v_fN I r q (N 0) (fun c => s_tn K (v_LN I x) (v_RN I r0) p c) (fun c => s_tn K (v_LN I y) (v_RN I r0) p c) (nI K) j := fun j hj => by
    rw [eI3, s_fa_89 hj, (hS2 127 0 (.inl (.inr ⟨rfl, rfl⟩))).trans C7]
    rw [v_fM (A := fun c => s_tn K (v_LN I x) (v_RN I r0) p c) (B := fun c => s_tn K (v_LN I y) (v_RN I r0) p c) hS2 C0 (fun c hc => ⟨(y3 _ _ (by omega)).trans (u2 c hc), s_tn_le _ _ _ _ _⟩) (fun c hc => ⟨y2 c hc, s_tn_le _ _ _ _ _⟩)]
  obtain ⟨I4, v, z4, s4, g4, g5, g6⟩ := m_readTextQ E d J w C10 T (C19 _ (I3 141) fa)
  have e20 : I3 127 20 = nI (N 7) := (f3 _ _ (by decide)).trans ((hS2 _ _ (v_anyT (by unfold p_texts; omega))).trans C9)
  have e12 : I2 129 t = nI K := (hS2 129 t (.inr (.inr (.inl (by unfold p_things; omega))))).trans b1
  have m := m_tru_s E d S J w e t x y v I1 I2 I3 I4 (by omega) u1 y1 (by rw [e12]; exact z3) (by rw [e20]; exact z4)
  rw [g6] at m
  exact ⟨I4, z_call (E := E) (d := d + 6) (M := z_m221) rfl rfl m, fun a k h1 h2 h3 => (s4 a k h1).trans ((f3 a k h2).trans (s2 a k h3))⟩
theorem g_trueOf (E : zE) (N : Nat → Nat) (I : Nat → Nat → Int32) (J : Nat → Nat → Int64) (w : Nat) (H : v_Inv N I J) (e : Int32) (t : Int32) (x : Int32) (y : Int32) : v_GoJ E 146 222 [.int e, .int t, .int x, .int y] I J w := by
  have H0 := H
  have H9 := H
  obtain ⟨⟨o1, o2, o3⟩, ⟨r1, r2, r3, r4⟩, ⟨t1, t2, t3, t4⟩, ⟨l1, l2, l3, l4⟩, ⟨e1, e2, e3, e4⟩, ⟨x1, x2, x3, x4, x5, x6, x7⟩, ⟨k1, k2, k3, k4⟩, ⟨p1, p2, p3, p4⟩, ⟨a1, a2, a3, a4⟩, ⟨f1, f2, f3, f4⟩, hsh⟩ := H
  obtain ⟨hK0, hK1, hK2, hK3, hK4, hK5, hK6, hK7, hK8, hK9, hK10⟩ := H0
  by_cases hc : z_hs e (N 4) ∧ z_hs t (N 2) ∧ z_hs x (N 3) ∧ z_hs y (N 3)
  · obtain ⟨e', he, rfl⟩ := z_hs_of hc.1
    obtain ⟨t', ht, rfl⟩ := z_hs_of hc.2.1
    obtain ⟨x', hx, rfl⟩ := z_hs_of hc.2.2.1
    obtain ⟨y', hy, rfl⟩ := z_hs_of hc.2.2.2
    obtain ⟨q, r, bb, n, c1, c2, C⟩ := v_cx_of H9 he
    obtain ⟨K, r0, p, o, s, q1, q2, q3, q4, q5, ⟨b1, c1'⟩, ⟨b2, c2'⟩, ⟨b3, c3'⟩, b4, b5⟩ := v_thing H9 ht
    obtain ⟨I1, u1, u2⟩ := v_tnX H9 (fun _ _ _ => rfl) E 93 w C ht hx hy q1 q2 q3 b1 b2 b3
    have s1 : ∀ a k, p_any a k → I1 a k = I a k := fun a k q => u2 a k (by unfold p_any p_hour p_rows p_things p_lights p_eyes p_texts p_tape p_plates p_ages p_filters p_sheets at q; omega) (by unfold p_any p_hour p_rows p_things p_lights p_eyes p_texts p_tape p_plates p_ages p_filters p_sheets at q; omega) (by unfold p_any p_hour p_rows p_things p_lights p_eyes p_texts p_tape p_plates p_ages p_filters p_sheets at q; omega) (by unfold p_any p_hour p_rows p_things p_lights p_eyes p_texts p_tape p_plates p_ages p_filters p_sheets at q; omega)
    obtain ⟨I2, w1, w2⟩ := v_tnM H9 s1 E 91 w C ht hx hy q1 q2 q3 c1' c2' c3'
    have cx := z_call (E := E) (d := 98) (M := z_m146) (mid := 146) (as := [.ref 0, .int (nI e'), .int (nI t'), .int (nI x'), .int (nI y')]) (z := 161) (σ := (I, J, RF w)) rfl rfl (x_trueOf_s E 93 I J w e' t' x' y' (N 4) (N 3) (N 2) _ I1 e1 e3 l1 l3 t1 t3 he ht hx hy u1)
    have cm := z_call (E := E) (d := 98) (M := z_m222) (mid := 222) (as := [.ref 127, .int (nI e'), .int (nI t'), .int (nI x'), .int (nI y')]) (z := 161) (σ := (I1, J, RF w)) rfl rfl (m_trueOf_s E 91 I1 J w e' t' x' y' (N 4) (N 3) (N 2) _ I2 ((u2 _ _ (by omega) (by omega) (by omega) (by omega)).trans e2) e3 ((u2 _ _ (by omega) (by omega) (by omega) (by omega)).trans l2) l3 ((u2 _ _ (by omega) (by omega) (by omega) (by omega)).trans t2) t3 he ht hx hy w1)
    exact ⟨_, I1, J, w, I2, J, w, cx, cm, N, v_Inv_eq H9 (fun a k q => (w2 a k (by unfold p_any p_hour p_rows p_things p_lights p_eyes p_texts p_tape p_plates p_ages p_filters p_sheets at q; unfold s_scT; omega) (by unfold p_any p_hour p_rows p_things p_lights p_eyes p_texts p_tape p_plates p_ages p_filters p_sheets at q; omega) (by unfold p_any p_hour p_rows p_things p_lights p_eyes p_texts p_tape p_plates p_ages p_filters p_sheets at q; omega)).trans (s1 a k q)) (fun _ _ _ => rfl)⟩
  · exact ⟨(-4611686018427387904), I, J, w, I, J, w, x_trueOf_bad E 93 I J w e t x y (fun q => hc ⟨(z_hsX e1 (by omega)).mp q.1, (z_hsX t1 (by omega)).mp q.2.1, (z_hsX l1 (by omega)).mp q.2.2.1, (z_hsX l1 (by omega)).mp q.2.2.2⟩), m_trueOf_bad E 91 I J w e t x y (fun q => hc ⟨(z_hsM e2 (by omega)).mp q.1, (z_hsM t2 (by omega)).mp q.2.1, (z_hsM l2 (by omega)).mp q.2.2.1, (z_hsM l2 (by omega)).mp q.2.2.2⟩), N, H9⟩
theorem g_worst (E : zE) (N : Nat → Nat) (I : Nat → Nat → Int32) (J : Nat → Nat → Int64) (w : Nat) (H : v_Inv N I J) (e : Int32) (b : Int32) (x : Int32) (y : Int32) : v_GoI E 147 224 [.int e, .int b, .int x, .int y] I J w := by
  have H0 := H
  have H9 := H
  obtain ⟨⟨o1, o2, o3⟩, ⟨r1, r2, r3, r4⟩, ⟨t1, t2, t3, t4⟩, ⟨l1, l2, l3, l4⟩, ⟨e1, e2, e3, e4⟩, ⟨x1, x2, x3, x4, x5, x6, x7⟩, ⟨k1, k2, k3, k4⟩, ⟨p1, p2, p3, p4⟩, ⟨a1, a2, a3, a4⟩, ⟨f1, f2, f3, f4⟩, hsh⟩ := H
  obtain ⟨hK0, hK1, hK2, hK3, hK4, hK5, hK6, hK7, hK8, hK9, hK10⟩ := H0
  by_cases hc : z_hs e (N 4) ∧ (∃ z, z < 2 ^ N 2 ∧ b = nI z ∧ z ≠ 0) ∧ z_hs x (N 3) ∧ z_hs y (N 3)
  · obtain ⟨e', he, rfl⟩ := z_hs_of hc.1
    obtain ⟨x', hx, rfl⟩ := z_hs_of hc.2.2.1
    obtain ⟨y', hy, rfl⟩ := z_hs_of hc.2.2.2
    obtain ⟨q, r, bb, n, c1, c2, C⟩ := v_cx_of H9 he
    obtain ⟨U, hU⟩ : ∃ U : Nat → Int32, U = fun t => s_v c2 (v_fN I r q (N 0) (fun c => s_tn (I 38 t).toNatClampNeg (v_LN I x') (v_RN I (I 39 t).toNatClampNeg) (I 40 t).toNatClampNeg c) (fun c => s_tn (I 38 t).toNatClampNeg (v_LN I y') (v_RN I (I 39 t).toNatClampNeg) (I 40 t).toNatClampNeg c) (nI (I 38 t).toNatClampNeg)) := ⟨_, rfl⟩
    have thn : ∀ t, t < N 2 → (I 38 t).toNatClampNeg < 6 ∧ (I 39 t).toNatClampNeg < N 1 ∧ (I 40 t).toNatClampNeg < 100 ∧ (I 38 t = nI (I 38 t).toNatClampNeg ∧ I 129 t = nI (I 38 t).toNatClampNeg) ∧ (I 39 t = nI (I 39 t).toNatClampNeg ∧ I 130 t = nI (I 39 t).toNatClampNeg) ∧ (I 40 t = nI (I 40 t).toNatClampNeg ∧ I 131 t = nI (I 40 t).toNatClampNeg) := fun t ht => by
      obtain ⟨K, r0, p, o, s, q1, q2, q3, q4, q5, b1, b2, b3, b4, b5⟩ := v_thing H9 ht
      rw [z_natE b1.1 (by omega), z_natE b2.1 (by omega), z_natE b3.1 (by omega)]
      exact ⟨q1, q2, q3, b1, b2, b3⟩
    obtain ⟨I1, u1, u2⟩ := x_woQ E 93 J w e' x' y' (N 2) b U (fun a _ => a = 89 ∨ a = 90 ∨ a = 125 ∨ a = 126) I t3 t1 (by omega) (fun S k hS hk _ => by
      obtain ⟨g1, g2, g3, g4, g5, g6⟩ := thn k hk
      obtain ⟨S', v1, v2⟩ := v_tnX H9 (fun a j q => hS a j (by unfold p_any p_hour p_rows p_things p_lights p_eyes p_texts p_tape p_plates p_ages p_filters p_sheets at q; omega)) E 93 w C hk hx hy g1 g2 g3 g4.1 g5.1 g6.1
      refine ⟨S', by rw [hU]; exact v1, fun a j h => (v2 a j (by omega) (by omega) (by omega) (by omega)).trans (hS a j h)⟩) (N 2) 0 none I (by omega) (fun _ _ _ => rfl)
    have f1 : ∀ a k, ¬ (a = 89 ∨ a = 90 ∨ a = 125 ∨ a = 126) → I1 a k = I a k := u2
    have s1 : ∀ a k, p_any a k → I1 a k = I a k := fun a k q => f1 a k (by unfold p_any p_hour p_rows p_things p_lights p_eyes p_texts p_tape p_plates p_ages p_filters p_sheets at q; omega)
    obtain ⟨I2, w1, w2⟩ := m_woQ E 91 J w e' x' y' (N 2) b U (fun a k => s_scT a k ∨ a = 141 ∨ (a = 134 ∧ 160 ≤ k)) I1 t3 ((f1 _ _ (by omega)).trans t2) (by unfold s_scT; omega) (fun S k hS hk _ => by
      obtain ⟨g1, g2, g3, g4, g5, g6⟩ := thn k hk
      obtain ⟨S', v1, v2⟩ := v_tnM H9 (fun a j q => (hS a j (by unfold p_any p_hour p_rows p_things p_lights p_eyes p_texts p_tape p_plates p_ages p_filters p_sheets at q; unfold s_scT; omega)).trans (s1 a j q)) E 91 w C hk hx hy g1 g2 g3 g4.2 g5.2 g6.2
      refine ⟨S', by rw [hU]; exact v1, fun a j h => (v2 a j (fun z => h (.inl z)) (fun z => h (.inr (.inl z))) (fun z => h (.inr (.inr z)))).trans (hS a j h)⟩) (N 2) 0 none I1 (by omega) (fun _ _ _ => rfl)
    have cx := z_call (E := E) (d := 98) (M := z_m147) (mid := 147) (as := [.ref 0, .int (nI e'), .int b, .int (nI x'), .int (nI y')]) (z := 161) (σ := (I, J, RF w)) rfl rfl (x_wo_st E 93 I J w (nI e') b (nI x') (nI y') ((z_hsX e1 (by omega)).mpr hc.1) (by rw [t1]; exact (z_someX t3).mpr hc.2.1) ((z_hsX l1 (by omega)).mpr hc.2.2.1) ((z_hsX l1 (by omega)).mpr hc.2.2.2) u1)
    have cm := z_call (E := E) (d := 98) (M := z_m224) (mid := 224) (as := [.ref 127, .int (nI e'), .int b, .int (nI x'), .int (nI y')]) (z := 161) (σ := (I1, J, RF w)) rfl rfl (m_wo_st E 91 I1 J w (nI e') b (nI x') (nI y') ((z_hsM ((f1 _ _ (by omega)).trans e2) (by omega)).mpr hc.1) (by rw [(f1 127 3 (by omega)).trans t2]; exact (z_someM t3).mpr hc.2.1) ((z_hsM ((f1 _ _ (by omega)).trans l2) (by omega)).mpr hc.2.2.1) ((z_hsM ((f1 _ _ (by omega)).trans l2) (by omega)).mpr hc.2.2.2) w1)
    exact ⟨_, I1, J, w, I2, J, w, cx, cm, N, v_Inv_eq H9 (fun a k q => (w2 a k (by unfold p_any p_hour p_rows p_things p_lights p_eyes p_texts p_tape p_plates p_ages p_filters p_sheets at q; unfold s_scT; omega)).trans (s1 a k q)) (fun _ _ _ => rfl)⟩
  · exact ⟨(-2), I, J, w, I, J, w, x_worst_bad E 93 I J w e b x y (fun q => hc ⟨(z_hsX e1 (by omega)).mp q.1, (z_someX t3).mp (by rw [← t1]; exact q.2.1), (z_hsX l1 (by omega)).mp q.2.2.1, (z_hsX l1 (by omega)).mp q.2.2.2⟩), m_worst_bad E 91 I J w e b x y (fun q => hc ⟨(z_hsM e2 (by omega)).mp q.1, (z_someM t3).mp (by rw [← t2]; exact q.2.1), (z_hsM l2 (by omega)).mp q.2.2.1, (z_hsM l2 (by omega)).mp q.2.2.2⟩), N, H9⟩
