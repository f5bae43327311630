-- PAIRS: chart, filter
theorem z_xor {x y s : Int32} : ((x ^^^ y) &&& s) = 0 ↔ (x &&& s) = (y &&& s) := by
  rw [← Int32.toBitVec_inj, ← Int32.toBitVec_inj]
  show ((x.toBitVec ^^^ y.toBitVec) &&& s.toBitVec) = 0#32 ↔ (x.toBitVec &&& s.toBitVec) = (y.toBitVec &&& s.toBitVec)
  constructor
  · intro h
    apply BitVec.eq_of_getLsbD_eq
    intro i hi
    have t := congrArg (fun z => BitVec.getLsbD z i) h
    simp only [BitVec.getLsbD_and, BitVec.getLsbD_xor, BitVec.getLsbD_zero] at t ⊢
    revert t
    cases x.toBitVec.getLsbD i <;> cases y.toBitVec.getLsbD i <;> cases s.toBitVec.getLsbD i <;> decide
  · intro h
    apply BitVec.eq_of_getLsbD_eq
    intro i hi
    have t := congrArg (fun z => BitVec.getLsbD z i) h
    simp only [BitVec.getLsbD_and, BitVec.getLsbD_xor, BitVec.getLsbD_zero] at t ⊢
    revert t
    cases x.toBitVec.getLsbD i <;> cases y.toBitVec.getLsbD i <;> cases s.toBitVec.getLsbD i <;> decide
def v_qN (I : Nat → Nat → Int32) (e : Nat) : Nat := (I 75 e).toNatClampNeg
def v_rN (I : Nat → Nat → Int32) (e t : Nat) : Nat := (I (67 + e) t).toNatClampNeg
theorem v_eyeN {N : Nat → Nat} {I : Nat → Nat → Int32} {J : Nat → Nat → Int64} (H : v_Inv N I J) {e : Nat} (he : e < N 4) : v_qN I e ≤ 3 ∧ I 75 e = nI (v_qN I e) ∧ I 136 e = nI (v_qN I e) ∧ ∀ t, t < v_qN I e → I (67 + e) t = nI (v_rN I e t) ∧ I 135 (3 * e + t) = nI (v_rN I e t) ∧ v_rN I e t < N 1 := by
  obtain ⟨-, ⟨-, -, r3, -⟩, -, -, ⟨-, -, -, e4⟩, -⟩ := H
  obtain ⟨q, q1, q2, q3, q4⟩ := e4 e he
  have eq : v_qN I e = q := z_natE q2 (by omega)
  rw [eq]
  refine ⟨q1, q2, q3, fun t ht => ?_⟩
  obtain ⟨r, s1, s2, s3⟩ := q4 t ht
  have er : v_rN I e t = r := z_natE s2 (by omega)
  rw [er]
  exact ⟨s2, s3, s1⟩
def v_rb (I0 I : Nat → Nat → Int32) (f g : Nat → Nat) (n e : Nat) : Int32 := s_rb (fun k => decide (∀ t, t < v_qN I0 e → z_apa (I (45 + f k)) (I (45 + g k)) (I (3 + v_rN I0 e t)) = 0)) n
theorem v_rb_eq {I S : Nat → Nat → Int32} (hS : ∀ a k, p_any a k → S a k = I a k) {f g : Nat → Nat} {n e : Nat} (hf : ∀ k, k < n → f k < 20 ∧ g k < 20) (hr : ∀ t, t < v_qN I e → v_rN I e t < 30) : v_rb I S f g n e = v_rb I I f g n e := by
  have row : ∀ x, (45 ≤ x ∧ x < 65) ∨ (3 ≤ x ∧ x < 33) → S x = I x := fun x hx => by
    funext k
    rcases hx with h | h
    · exact hS x k (.inr (.inr (.inr (.inl (by unfold p_lights; omega)))))
    · exact hS x k (.inr (.inl (by unfold p_rows; omega)))
  exact s_rb_congr (fun k hk => decide_eq_decide.mpr (forall_congr' fun t => forall_congr' fun ht => by
    have := hf k hk
    have := hr t ht
    rw [row (45 + f k) (by omega), row (45 + g k) (by omega), row (3 + v_rN I e t) (by omega)]))
theorem g_chart (E : zE) (N : Nat → Nat) (I : Nat → Nat → Int32) (J : Nat → Nat → Int64) (w : Nat) (H : v_Inv N I J) (b : Int32) : v_GoI E 151 232 [.int b] I J w := by
  have H0 := H
  have H9 := H
  obtain ⟨⟨o1, o2, o3⟩, ⟨r1, r2, r3, r4⟩, ⟨t1, t2, t3, t4⟩, ⟨l1, l2, l3, l4⟩, ⟨e1, e2, e3, e4⟩, ⟨x1, x2, x3, x4, x5, x6, x7⟩, ⟨k1, k2, k3, k4⟩, ⟨p1, p2, p3, p4⟩, ⟨a1, a2, a3, a4⟩, ⟨f1, f2, f3, f4⟩, hsh⟩ := H
  obtain ⟨hK0, hK1, hK2, hK3, hK4, hK5, hK6, hK7, hK8, hK9, hK10⟩ := H0
  have p20 : ∀ m, m ≤ 20 → 2 ^ m ≤ 2 ^ 20 := fun m hm => Nat.pow_le_pow_right (by decide) hm
  have setM : (¬ b < 0 ∧ b < 1 <<< (nI (N 4) &&& 31) ∧ ¬ s_pi b 31 < 0 ∧ ¬ 8 < s_pi b 31) ↔ ∃ x, x < 2 ^ N 4 ∧ b = nI x := by
    rw [z_setM (show N 4 < 31 by omega)]
    constructor
    · rintro ⟨x, z1, z2, _⟩; exact ⟨x, z1, z2⟩
    · rintro ⟨x, z1, z2⟩
      have := s_pn_le x (N 4)
      exact ⟨x, z1, z2, mt (z_ltN (b := 0) rfl rfl (by omega) (by decide)).mp (by omega), mt (z_ltN (a := 8) rfl rfl (by decide) (by omega)).mp (by omega)⟩
  by_cases hc : ∃ x, x < 2 ^ N 4 ∧ b = nI x
  · obtain ⟨f, g, g1, g2, g3⟩ := v_plates_f H9
    have g20 : ∀ k, k < N 8 → f k < 20 ∧ g k < 20 := fun k hk => ⟨(g1 k hk).2.2.1, (g1 k hk).2.2.2⟩
    obtain ⟨rb, hrb⟩ : ∃ rb : Nat → Int32, rb = fun e => v_rb I I f g (N 8) e := ⟨_, rfl⟩
    obtain ⟨Td, hTd⟩ : ∃ Td : Nat → Bool, Td = fun v => @decide (∀ a c, (a < c ∧ c < N 4) → s_td b a → s_td b c → ¬ ((rb a ^^^ rb c) &&& nI v) = 0) (Classical.propDecidable _) := ⟨_, rfl⟩
    have hT : ∀ v, Td v = true ↔ ∀ a c, (a < c ∧ c < N 4) → s_td b a → s_td b c → ¬ ((rb a ^^^ rb c) &&& nI v) = 0 := fun v => by rw [hTd]; exact @decide_eq_true_iff _ (Classical.propDecidable _)
    have hT2 : ∀ v, Td v = true ↔ ∀ a c, a < N 4 → c < a → s_ne b (nI v) rb a c := fun v => by
      rw [hT v]
      constructor
      · intro h a c h1 h2 ta tc e
        exact h c a ⟨h2, h1⟩ tc ta (z_xor.mpr e.symm)
      · intro h a c h1 ta tc e
        exact h c a h1.2 h1.1 tc ta (z_xor.mp e).symm
    have eyeX : ∀ S, (∀ a k, p_any a k → S a k = I a k) → ∀ d e, e < N 4 → z_cl E (d + 4) 50 [.ref 106, .int (nI e)] (161, S, J, RF w) = some (some (.int (rb e)), 161, S, J, RF w) := fun S hS d e he => by
      obtain ⟨u1, u2, u3, u4⟩ := v_eyeN H9 he
      have pE : ∀ a k, p_eyes a k → S a k = I a k := fun a k h => hS a k (v_anyE h)
      have pP : ∀ a k, p_plates a k → S a k = I a k := fun a k h => hS a k (.inr (.inr (.inr (.inr (.inr (.inr (.inr (.inl h))))))))
      have t := x_readBy E d S J w e (N 8) (v_qN I e) (v_rN I e) f g ((pP _ _ (by unfold p_plates; omega)).trans p1) p3 (by omega) ((pE _ _ (by unfold p_eyes; omega)).trans u2) u1 (fun t ht => ⟨(pE _ _ (by unfold p_eyes; omega)).trans (u4 t ht).1, Nat.lt_of_lt_of_le (u4 t ht).2.2 r3⟩) (fun k hk => ⟨(pP _ _ (by unfold p_plates; omega)).trans (g1 k hk).1, (pP _ _ (by unfold p_plates; omega)).trans (g1 k hk).2.1, (g1 k hk).2.2⟩)
      rw [hrb]
      show _ = some (some (Value.int (v_rb I I f g (N 8) e)), 161, S, J, RF w)
      rw [← v_rb_eq hS g20 (fun t ht => Nat.lt_of_lt_of_le (u4 t ht).2.2 r3)]
      exact t
    have eyeM : ∀ S, (∀ a k, p_any a k → S a k = I a k) → ∀ d e, e < N 4 → z_cl E (d + 3) 229 [.ref 127, .int (nI e)] (161, S, J, RF w) = some (some (.int (rb e)), 161, S, J, RF w) := fun S hS d e he => by
      obtain ⟨u1, u2, u3, u4⟩ := v_eyeN H9 he
      have HS : v_Inv N S J := v_Inv_eq H9 hS (fun _ _ _ => rfl)
      have pE : ∀ a k, p_eyes a k → S a k = I a k := fun a k h => hS a k (v_anyE h)
      have pP : ∀ a k, p_plates a k → S a k = I a k := fun a k h => hS a k (.inr (.inr (.inr (.inr (.inr (.inr (.inr (.inl h))))))))
      have t := m_readBy E d S J w e (N 8) (v_qN I e) (v_rN I e) f g ((pP _ _ (by unfold p_plates; omega)).trans p2) p3 (by omega) ((pE _ _ (by unfold p_eyes; omega)).trans u3) u1 (fun t ht => ⟨(pE _ _ (by unfold p_eyes; omega)).trans (u4 t ht).2.1, Nat.lt_of_lt_of_le (u4 t ht).2.2 r3⟩) (fun k hk => ⟨(pP _ _ (by unfold p_plates; omega)).trans (g2 k hk).1, (pP _ _ (by unfold p_plates; omega)).trans (g2 k hk).2.1, (g2 k hk).2.2⟩)
      rw [hrb]
      show _ = some (some (Value.int (v_rb I I f g (N 8) e)), 161, S, J, RF w)
      rw [← v_rb_eq hS g20 (fun t ht => Nat.lt_of_lt_of_le (u4 t ht).2.2 r3)]
      unfold v_rb
      rw [s_rb_congr (fun k hk => decide_eq_decide.mpr (v_sameA HS (g3 k hk).1 (g3 k hk).2 (fun t ht => (u4 t ht).2.2)))]
      exact t
    obtain ⟨I1, cx, u⟩ := x_chartQ E 92 I J w b (N 4) (N 8) rb Td e3 e1 p1 p3 (by rw [e1]; exact (z_belowX (by omega)).mpr hc) (fun I' hI => eyeX I' (fun a k q => hI a k (by unfold p_any p_hour p_rows p_things p_lights p_eyes p_texts p_tape p_plates p_ages p_filters p_sheets at q; omega)) 92) hT
    have s1 : ∀ a k, p_any a k → I1 a k = I a k := fun a k q => u a k (by unfold p_any p_hour p_rows p_things p_lights p_eyes p_texts p_tape p_plates p_ages p_filters p_sheets at q; omega)
    obtain ⟨I2, cm, u2⟩ := m_chartQ E 95 I1 J w b (N 4) (N 8) rb Td e3 ((u _ _ (by omega)).trans e2) ((u _ _ (by omega)).trans p2) p3 (by rw [(u 127 11 (by omega)).trans e2]; exact setM.mpr hc) (fun I' hI => eyeM I' (fun a k q => (hI a k (by unfold p_any p_hour p_rows p_things p_lights p_eyes p_texts p_tape p_plates p_ages p_filters p_sheets at q; omega)).trans (s1 a k q)) 95) hT2
    exact ⟨_, I1, J, w, I2, J, w, cx, cm, N, v_Inv_eq H9 (fun a k q => (u2 a k (by unfold p_any p_hour p_rows p_things p_lights p_eyes p_texts p_tape p_plates p_ages p_filters p_sheets at q; omega)).trans (s1 a k q)) (fun _ _ _ => rfl)⟩
  · exact ⟨-2, I, J, w, I, J, w, x_chart_bad E 92 I J w b (fun q => hc ((z_belowX (show N 4 < 31 by omega)).mp (by rw [← e1]; exact q))), m_chart_bad E 95 I J w b (fun q => hc (setM.mp (by rw [← e2]; exact q))), N, H9⟩
theorem z_shl16 : ∀ m, m < 4 → ((16 * nI m).toInt64 &&& 63) = Int64.ofNat (16 * m) := by decide
theorem z_pack {p x m : Nat} (hm : m < 4) (hp : p < 65536 ^ m) (hx : x ≤ 2000) : Int64.ofNat p ||| ((nI x).toInt64 <<< ((16 * nI m).toInt64 &&& 63)) = Int64.ofNat (p + x * 65536 ^ m) := by
  rw [z_shl16 m hm, z_i64 (by omega)]
  have e16 : 65536 ^ m = 2 ^ (16 * m) := by rw [Nat.pow_mul]
  rw [e16] at hp ⊢
  have sm : ((Int64.ofNat (16 * m)).toBitVec.smod 64).toNat = 16 * m := by
    rcases (by omega : m = 0 ∨ m = 1 ∨ m = 2 ∨ m = 3) with e | e | e | e <;> subst e <;> decide
  have b1 : 2 ^ (16 * m) ≤ 2 ^ 48 := Nat.pow_le_pow_right (by decide) (by omega)
  have b2 : x * 2 ^ (16 * m) ≤ 2000 * 2 ^ 48 := Nat.mul_le_mul hx b1
  apply Int64.toBitVec_inj.1
  apply BitVec.eq_of_toNat_eq
  show (BitVec.ofNat 64 p ||| (BitVec.ofNat 64 x <<< ((Int64.ofNat (16 * m)).toBitVec.smod 64).toNat)).toNat = (BitVec.ofNat 64 (p + x * 2 ^ (16 * m))).toNat
  rw [sm, BitVec.toNat_or, BitVec.toNat_shiftLeft, BitVec.toNat_ofNat, BitVec.toNat_ofNat, BitVec.toNat_ofNat, Nat.mod_eq_of_lt (show p < 2 ^ 64 by omega), Nat.mod_eq_of_lt (show x < 2 ^ 64 by omega), Nat.shiftLeft_eq, Nat.mod_eq_of_lt (show x * 2 ^ (16 * m) < 2 ^ 64 by omega), Nat.mod_eq_of_lt (show p + x * 2 ^ (16 * m) < 2 ^ 64 by omega)]
  rw [Nat.or_comm, Nat.mul_comm, ← Nat.two_pow_add_eq_or_of_lt hp, Nat.add_comm]
theorem g_filter (E : zE) (N : Nat → Nat) (I : Nat → Nat → Int32) (J : Nat → Nat → Int64) (w : Nat) (H : v_Inv N I J) (i : Int32) (v : Int32) : v_GoI E 158 243 [.int i, .int v] I J w := by
  have H0 := H
  have H9 := H
  obtain ⟨⟨o1, o2, o3⟩, ⟨r1, r2, r3, r4⟩, ⟨t1, t2, t3, t4⟩, ⟨l1, l2, l3, l4⟩, ⟨e1, e2, e3, e4⟩, ⟨x1, x2, x3, x4, x5, x6, x7⟩, ⟨k1, k2, k3, k4⟩, ⟨p1, p2, p3, p4⟩, ⟨a1, a2, a3, a4⟩, ⟨f1, f2, f3, f4⟩, hsh⟩ := H
  obtain ⟨hK0, hK1, hK2, hK3, hK4, hK5, hK6, hK7, hK8, hK9, hK10⟩ := H0
  by_cases hc : z_hs i (N 1) ∧ z_hs v 1000
  · obtain ⟨i', hi, rfl⟩ := z_hs_of hc.1
    obtain ⟨v', hv, rfl⟩ := z_hs_of hc.2
    by_cases hf : N 10 < 4
    · obtain ⟨rr, rd, y4, y5, y6, y7⟩ := f4
      refine ⟨nI (N 10), _, _, w, _, _, w, x_filter_ok E 97 I J w i' v' (N 1) (N 10) r1 r3 f1 f3 hi hv hf, m_filter_ok E 96 _ _ w i' v' (N 1) (N 10) r2 r3 f2 f3 hi hv hf, (fun i => if i = 10 then N 10 + 1 else N i), ?_⟩
      have Wb : ∀ f c, f < N 10 → c < 8 → v_W I rr f c ≤ 9 := fun f c _ _ => by unfold v_W; omega
      have hW : ∀ c, s_pk (fun f => v_W I rr f c) (N 10) < 65536 ^ N 10 := fun c => s_pk_lt (fun f hf => by show v_W I rr f c < 65536; unfold v_W; omega)
      exact ⟨v_hour_eq hK0 (fun a k q => by unfold p_hour at q; rw [z_u2_n _ _ (by omega), z_u2_n _ _ (by omega), z_u2_n _ _ (by omega), z_u2_n _ _ (by omega), z_u2_n _ _ (by omega)]), v_rows_eq hK1 (fun a k q => by unfold p_rows at q; rw [z_u2_n _ _ (by omega), z_u2_n _ _ (by omega), z_u2_n _ _ (by omega), z_u2_n _ _ (by omega), z_u2_n _ _ (by omega)]), v_things_eq hK2 (Nat.le_refl _) (Nat.le_refl _) (fun a k q => by unfold p_things at q; rw [z_u2_n _ _ (by omega), z_u2_n _ _ (by omega), z_u2_n _ _ (by omega), z_u2_n _ _ (by omega), z_u2_n _ _ (by omega)]), v_lights_eq hK3 (fun a k q => by unfold p_lights at q; rw [z_u2_n _ _ (by omega), z_u2_n _ _ (by omega), z_u2_n _ _ (by omega), z_u2_n _ _ (by omega), z_u2_n _ _ (by omega)]), v_eyes_eq hK4 (Nat.le_refl _) (fun a k q => by unfold p_eyes at q; rw [z_u2_n _ _ (by omega), z_u2_n _ _ (by omega), z_u2_n _ _ (by omega), z_u2_n _ _ (by omega), z_u2_n _ _ (by omega)]), v_texts_eq hK5 (fun a k q => by unfold p_texts at q; rw [z_u2_n _ _ (by omega), z_u2_n _ _ (by omega), z_u2_n _ _ (by omega), z_u2_n _ _ (by omega), z_u2_n _ _ (by omega)]), v_tape_eq hK6 (fun a k q => by unfold p_tape at q; rw [z_u2_n _ _ (by omega), z_u2_n _ _ (by omega), z_u2_n _ _ (by omega), z_u2_n _ _ (by omega), z_u2_n _ _ (by omega)]), v_plates_eq hK7 (Nat.le_refl _) (fun a k q => by unfold p_plates at q; rw [z_u2_n _ _ (by omega), z_u2_n _ _ (by omega), z_u2_n _ _ (by omega), z_u2_n _ _ (by omega), z_u2_n _ _ (by omega)]), v_ages_eq hK8 (fun a k q => by unfold p_ages at q; rw [z_u2_n _ _ (by omega), z_u2_n _ _ (by omega), z_u2_n _ _ (by omega), z_u2_n _ _ (by omega), z_u2_n _ _ (by omega)]), ⟨rfl, rfl, hf, fun f => if f = N 10 then i' else rr f, fun f => if f = N 10 then v' else rd f, fun f hf1 => by
        have hf1 : f < N 10 + 1 := hf1
        by_cases e : f = N 10
        · subst e
          dsimp only
          rw [if_pos rfl, if_pos rfl]
          refine ⟨hi, by omega, ?_, ?_⟩
          · rw [z_u2_n _ _ (by omega), z_u2_n _ _ (by omega), z_u2_same]
          · rw [z_u2_n _ _ (by omega), z_u2_same]
        · dsimp only
          rw [if_neg e, if_neg e]
          obtain ⟨b1, b2, b3, b4⟩ := y4 f (by omega)
          refine ⟨b1, b2, ?_, ?_⟩
          · rw [z_u2_n _ _ (by omega), z_u2_n _ _ (by omega), z_u2_n _ _ (by omega), z_u2_n _ _ (by omega), z_u2_n _ _ (by omega)]; exact b3
          · rw [z_u2_n _ _ (by omega), z_u2_n _ _ (by omega), z_u2_n _ _ (by omega), z_u2_n _ _ (by omega), z_u2_n _ _ (by omega)]; exact b4, fun c hc => by
        obtain ⟨x, x1', x2', x3'⟩ := r4 i' c hi hc
        rw [z_u2_n _ _ (by omega), z_ur_same, z_fil_in0 hc, y5 c hc, x2', show nI x - nI x / 10 * 10 = nI (x % 10) from z_remE (m := 10) rfl (by omega) (by decide) (by decide), f1, z_pack hf (hW c) (by omega)]
        show _ = Int64.ofNat (s_pk _ (N 10 + 1))
        rw [s_pk_s]
        have ex : (I 128 (8 * i' + c)).toNatClampNeg = x := z_natE x3' (by omega)
        congr 1
        congr 1
        · refine s_pk_congr (fun f hf2 => ?_)
          show v_W I rr f c = (I 128 (8 * (if f = N 10 then i' else rr f) + c)).toNatClampNeg % 10
          rw [if_neg (by omega)]; rfl
        · show x % 10 * 65536 ^ N 10 = (I 128 (8 * (if N 10 = N 10 then i' else rr (N 10)) + c)).toNatClampNeg % 10 * 65536 ^ N 10
          rw [if_pos rfl, ex], by
        rw [z_u2_same, y6, f1, z_pack hf (s_pk_lt (fun f hf2 => by have := (y4 f hf2).2.1; omega)) (by omega)]
        show _ = Int64.ofNat (s_pk _ (N 10 + 1))
        rw [s_pk_s]
        congr 1
        congr 1
        · refine s_pk_congr (fun f hf2 => ?_)
          show rd f = if f = N 10 then v' else rd f
          rw [if_neg (by omega)]
        · show v' * 65536 ^ N 10 = (if N 10 = N 10 then v' else rd (N 10)) * 65536 ^ N 10
          rw [if_pos rfl], .inl rfl⟩, v_sheets_eq hK10 (fun a k q => by unfold p_sheets at q; rw [z_u2_n _ _ (by omega), z_u2_n _ _ (by omega), z_u2_n _ _ (by omega), z_u2_n _ _ (by omega), z_u2_n _ _ (by omega)])⟩
    · exact ⟨-4, I, J, w, I, J, w, x_filter_full E 97 I J w i' v' (N 1) (N 10) r1 r3 f1 f3 hi hv (by omega), m_filter_full E 96 I J w i' v' (N 1) (N 10) r2 r3 f2 f3 hi hv (by omega), N, H9⟩
  · exact ⟨(-2), I, J, w, I, J, w, x_filter_bad E 97 I J w i v (fun q => hc ⟨(z_hsX r1 (by omega)).mp q.1, (z_hsK (m := 999) (n := 999) rfl (by decide)).mp ⟨q.2.1, q.2.2⟩⟩), m_filter_bad E 96 I J w i v (fun q => hc ⟨(z_hsM r2 (by omega)).mp q.1, (z_hsK (m := 999) (n := 999) rfl (by decide)).mp q.2⟩), N, H9⟩
