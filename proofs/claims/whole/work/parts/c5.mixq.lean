-- MIXED by the class: one trial
abbrev s_t3 : Type := Nat × Nat × Nat
def s_sto (V : s_t3 → Int32) (o : Option (Int32 × s_t3)) (t : s_t3) : Option (Int32 × s_t3) := match o with
  | none => some (V t, t)
  | some (v, u) => if V t < v then some (V t, t) else some (v, u)
def s_best (V : s_t3 → Int32) (l : List s_t3) : Option (Int32 × s_t3) := l.foldl (s_sto V) none
theorem s_best_s (V : s_t3 → Int32) (l : List s_t3) (t : s_t3) : s_best V (l ++ [t]) = s_sto V (s_best V l) t := by unfold s_best; rw [List.foldl_append]; rfl
def s_mxX (I : Nat → Nat → Int32) (o : Option (Int32 × s_t3)) : Prop := match o with
  | none => I 91 6 = 0
  | some (v, u0, u1, u2) => I 91 6 = 1 ∧ I 91 7 = v ∧ I 94 0 = nI u0 ∧ I 94 1 = nI u1 ∧ I 94 2 = nI u2
def s_scX (a j : Nat) : Prop := a = 89 ∨ a = 90 ∨ a = 94 ∨ a = 95 ∨ a = 96 ∨ (a = 91 ∧ (j = 6 ∨ j = 7))
def s_mv (n : Nat) (T : Nat → Nat → Nat) (u0 u1 u2 c : Nat) : Nat := match n with
  | 1 => u0 * T 0 c / 10
  | 2 => (u0 * T 0 c + u1 * T 1 c) / 10
  | _ => (u0 * T 0 c + u1 * T 1 c + u2 * T 2 c) / 10
theorem s_mv_1 {x u : Nat} {z : Int32} (hz : z = nI x) (hx : x ≤ 1000000000) (hu : u ≤ 10) : ((0 + (nI u).toInt64 * z.toInt64) / 10).toInt32 = nI (u * x / 10) := by
  have b : u * x ≤ 10 * 1000000000 := Nat.mul_le_mul hu hx
  rw [hz, z_i64 (by omega), z_i64 (by omega), ← Int64.ofNat_mul, show (0 : Int64) + Int64.ofNat (u * x) = Int64.ofNat (u * x) from Int64.zero_add _, show (10 : Int64) = Int64.ofNat 10 from rfl, z_dv64 (by omega) (by decide) (by decide), z_to32 (by omega)]
theorem s_mv_2 {x u x1 u1 : Nat} {z z1 : Int32} (hz : z = nI x) (hx : x ≤ 1000000000) (hu : u ≤ 10) (hz1 : z1 = nI x1) (hx1 : x1 ≤ 1000000000) (hu1 : u + u1 ≤ 10) : (((0 + (nI u).toInt64 * z.toInt64) + (nI u1).toInt64 * z1.toInt64) / 10).toInt32 = nI ((u * x + u1 * x1) / 10) := by
  have b : u * x ≤ u * 1000000000 := Nat.mul_le_mul (Nat.le_refl _) hx
  have b1 : u1 * x1 ≤ u1 * 1000000000 := Nat.mul_le_mul (Nat.le_refl _) hx1
  rw [hz, hz1, z_i64 (by omega), z_i64 (by omega), z_i64 (by omega), z_i64 (by omega), ← Int64.ofNat_mul, ← Int64.ofNat_mul, show (0 : Int64) + Int64.ofNat (u * x) = Int64.ofNat (u * x) from Int64.zero_add _, ← Int64.ofNat_add, show (10 : Int64) = Int64.ofNat 10 from rfl, z_dv64 (by omega) (by decide) (by decide), z_to32 (by omega)]
theorem s_mv_3 {x u x1 u1 x2 u2 : Nat} {z z1 z2 : Int32} (hz : z = nI x) (hx : x ≤ 1000000000) (hu : u ≤ 10) (hz1 : z1 = nI x1) (hx1 : x1 ≤ 1000000000) (hz2 : z2 = nI x2) (hx2 : x2 ≤ 1000000000) (hu1 : u + u1 + u2 ≤ 10) : ((((0 + (nI u).toInt64 * z.toInt64) + (nI u1).toInt64 * z1.toInt64) + (nI u2).toInt64 * z2.toInt64) / 10).toInt32 = nI ((u * x + u1 * x1 + u2 * x2) / 10) := by
  have b : u * x ≤ u * 1000000000 := Nat.mul_le_mul (Nat.le_refl _) hx
  have b1 : u1 * x1 ≤ u1 * 1000000000 := Nat.mul_le_mul (Nat.le_refl _) hx1
  have b2 : u2 * x2 ≤ u2 * 1000000000 := Nat.mul_le_mul (Nat.le_refl _) hx2
  rw [hz, hz1, hz2, z_i64 (by omega), z_i64 (by omega), z_i64 (by omega), z_i64 (by omega), z_i64 (by omega), z_i64 (by omega), ← Int64.ofNat_mul, ← Int64.ofNat_mul, ← Int64.ofNat_mul, show (0 : Int64) + Int64.ofNat (u * x) = Int64.ofNat (u * x) from Int64.zero_add _, ← Int64.ofNat_add, ← Int64.ofNat_add, show (10 : Int64) = Int64.ofNat 10 from rfl, z_dv64 (by omega) (by decide) (by decide), z_to32 (by omega)]
theorem s_mv_le {n u0 u1 u2 c : Nat} {T : Nat → Nat → Nat} (hn : 1 ≤ n) (hn3 : n ≤ 3) (hu : u0 + u1 + u2 = 10) (hT : ∀ i, i < n → T i c ≤ 1000000000) : s_mv n T u0 u1 u2 c ≤ 1000000000 := by
  unfold s_mv
  rcases (by omega : n = 1 ∨ n = 2 ∨ n = 3) with e | e | e <;> subst e
  · have b : u0 * T 0 c ≤ u0 * 1000000000 := Nat.mul_le_mul (Nat.le_refl _) (hT 0 (by decide))
    show u0 * T 0 c / 10 ≤ _
    omega
  · have b : u0 * T 0 c ≤ u0 * 1000000000 := Nat.mul_le_mul (Nat.le_refl _) (hT 0 (by decide))
    have b1 : u1 * T 1 c ≤ u1 * 1000000000 := Nat.mul_le_mul (Nat.le_refl _) (hT 1 (by decide))
    show (u0 * T 0 c + u1 * T 1 c) / 10 ≤ _
    omega
  · have b : u0 * T 0 c ≤ u0 * 1000000000 := Nat.mul_le_mul (Nat.le_refl _) (hT 0 (by decide))
    have b1 : u1 * T 1 c ≤ u1 * 1000000000 := Nat.mul_le_mul (Nat.le_refl _) (hT 1 (by decide))
    have b2 : u2 * T 2 c ≤ u2 * 1000000000 := Nat.mul_le_mul (Nat.le_refl _) (hT 2 (by decide))
    show (u0 * T 0 c + u1 * T 1 c + u2 * T 2 c) / 10 ≤ _
    omega
set_option maxRecDepth 20000 in
theorem x_tp_first (E : zE) (d : Nat) (I : Nat → Nat → Int32) (J : Nat → Nat → Int64) (w : Nat) (n y0 y1 y2 y5 v : Int32) (x6 x7 x8 x9 : Option Value) (I1 : Nat → Nat → Int32) (hv : z_cl E (d + 4) 87 [.ref 79, .int (I 91 3), .ref 96, .ref w, .int (I 91 4)] (161, I, J, RF w) = some (some (.int v), 161, I1, J, RF w)) (hf : I1 91 6 = 0) : z_Ev E (d + 4) z_m43 134 [some (.ref 91), some (.int n), some (.int y0), some (.int y1), some (.int y2), some (.int y5), x6, x7, x8, x9] [] 161 (I, J, RF w) (none, 161, (z_ur (z_u2 (z_u2 I1 91 6 1) 91 7 v) 94 (va_cpy ((z_u2 (z_u2 I1 91 6 1) 91 7 v) 95) ((z_u2 (z_u2 I1 91 6 1) 91 7 v) 94) 0 0 3)), J, RF w) := by
  refine z_evG 11 (y := z_ret (z_cl E (d + 4) 87 [.ref 79, .int (I 91 3), .ref 96, .ref w, .int (I 91 4)] (161, (I, J, RF w))) 157 [some (.ref 91), some (.int n), some (.int y0), some (.int y1), some (.int y2), some (.int y5), x6, x7, x8, x9] []) (fun _ => rfl) ?_
  refine z_evK (v := .int v) (z' := 161) (σ' := (I1, J, RF w)) hv ?_
  refine z_evG 4 (y := if (I1 91 6) = 0 then z_go 175 [some (.ref 91), some (.int n), some (.int y0), some (.int y1), some (.int y2), some (.int y5), some (.int v), x7, x8, x9] [] 161 (I1, J, RF w) else z_go 166 [some (.ref 91), some (.int n), some (.int y0), some (.int y1), some (.int y2), some (.int y5), some (.int v), x7, x8, x9] [] 161 (I1, J, RF w)) (fun _ => rfl) ?_
  refine z_evT hf ?_
  refine z_evL ?_
  refine z_evG 14 (y := z_copy E 161 ((z_u2 (z_u2 I1 91 6 1) 91 7 v), J, RF w) 95 94 0 0 3 fun z σ => z_go 200 [some (.ref 91), some (.int n), some (.int y0), some (.int y1), some (.int y2), some (.int y5), some (.int v), x7, x8, x9] [] z σ) (fun _ => rfl) ?_
  refine z_evY (N := 3) (f := ((z_u2 (z_u2 I1 91 6 1) 91 7 v) 95)) rfl rfl ?_
  refine z_evL ?_
  refine z_evG 1 (y := some (.inr (none, 161, (z_ur (z_u2 (z_u2 I1 91 6 1) 91 7 v) 94 (va_cpy ((z_u2 (z_u2 I1 91 6 1) 91 7 v) 95) ((z_u2 (z_u2 I1 91 6 1) 91 7 v) 94) 0 0 3)), J, RF w))) (fun _ => rfl) ?_
  exact z_evR rfl
set_option maxRecDepth 20000 in
theorem x_tp_new (E : zE) (d : Nat) (I : Nat → Nat → Int32) (J : Nat → Nat → Int64) (w : Nat) (n y0 y1 y2 y5 v : Int32) (x6 x7 x8 x9 : Option Value) (I1 : Nat → Nat → Int32) (hv : z_cl E (d + 4) 87 [.ref 79, .int (I 91 3), .ref 96, .ref w, .int (I 91 4)] (161, I, J, RF w) = some (some (.int v), 161, I1, J, RF w)) (hf : ¬ I1 91 6 = 0) (hg : v < I1 91 7) : z_Ev E (d + 4) z_m43 134 [some (.ref 91), some (.int n), some (.int y0), some (.int y1), some (.int y2), some (.int y5), x6, x7, x8, x9] [] 161 (I, J, RF w) (none, 161, (z_ur (z_u2 (z_u2 I1 91 6 1) 91 7 v) 94 (va_cpy ((z_u2 (z_u2 I1 91 6 1) 91 7 v) 95) ((z_u2 (z_u2 I1 91 6 1) 91 7 v) 94) 0 0 3)), J, RF w) := by
  refine z_evG 11 (y := z_ret (z_cl E (d + 4) 87 [.ref 79, .int (I 91 3), .ref 96, .ref w, .int (I 91 4)] (161, (I, J, RF w))) 157 [some (.ref 91), some (.int n), some (.int y0), some (.int y1), some (.int y2), some (.int y5), x6, x7, x8, x9] []) (fun _ => rfl) ?_
  refine z_evK (v := .int v) (z' := 161) (σ' := (I1, J, RF w)) hv ?_
  refine z_evG 4 (y := if (I1 91 6) = 0 then z_go 175 [some (.ref 91), some (.int n), some (.int y0), some (.int y1), some (.int y2), some (.int y5), some (.int v), x7, x8, x9] [] 161 (I1, J, RF w) else z_go 166 [some (.ref 91), some (.int n), some (.int y0), some (.int y1), some (.int y2), some (.int y5), some (.int v), x7, x8, x9] [] 161 (I1, J, RF w)) (fun _ => rfl) ?_
  refine z_evF hf ?_
  refine z_evL ?_
  refine z_evG 4 (y := if v < (I1 91 7) then z_go 175 [some (.ref 91), some (.int n), some (.int y0), some (.int y1), some (.int y2), some (.int y5), some (.int v), x7, x8, x9] [] 161 (I1, J, RF w) else z_go 200 [some (.ref 91), some (.int n), some (.int y0), some (.int y1), some (.int y2), some (.int y5), some (.int v), x7, x8, x9] [] 161 (I1, J, RF w)) (fun _ => rfl) ?_
  refine z_evT hg ?_
  refine z_evL ?_
  refine z_evG 14 (y := z_copy E 161 ((z_u2 (z_u2 I1 91 6 1) 91 7 v), J, RF w) 95 94 0 0 3 fun z σ => z_go 200 [some (.ref 91), some (.int n), some (.int y0), some (.int y1), some (.int y2), some (.int y5), some (.int v), x7, x8, x9] [] z σ) (fun _ => rfl) ?_
  refine z_evY (N := 3) (f := ((z_u2 (z_u2 I1 91 6 1) 91 7 v) 95)) rfl rfl ?_
  refine z_evL ?_
  refine z_evG 1 (y := some (.inr (none, 161, (z_ur (z_u2 (z_u2 I1 91 6 1) 91 7 v) 94 (va_cpy ((z_u2 (z_u2 I1 91 6 1) 91 7 v) 95) ((z_u2 (z_u2 I1 91 6 1) 91 7 v) 94) 0 0 3)), J, RF w))) (fun _ => rfl) ?_
  exact z_evR rfl
set_option maxRecDepth 20000 in
theorem x_tp_old (E : zE) (d : Nat) (I : Nat → Nat → Int32) (J : Nat → Nat → Int64) (w : Nat) (n y0 y1 y2 y5 v : Int32) (x6 x7 x8 x9 : Option Value) (I1 : Nat → Nat → Int32) (hv : z_cl E (d + 4) 87 [.ref 79, .int (I 91 3), .ref 96, .ref w, .int (I 91 4)] (161, I, J, RF w) = some (some (.int v), 161, I1, J, RF w)) (hf : ¬ I1 91 6 = 0) (hg : ¬ v < I1 91 7) : z_Ev E (d + 4) z_m43 134 [some (.ref 91), some (.int n), some (.int y0), some (.int y1), some (.int y2), some (.int y5), x6, x7, x8, x9] [] 161 (I, J, RF w) (none, 161, I1, J, RF w) := by
  refine z_evG 11 (y := z_ret (z_cl E (d + 4) 87 [.ref 79, .int (I 91 3), .ref 96, .ref w, .int (I 91 4)] (161, (I, J, RF w))) 157 [some (.ref 91), some (.int n), some (.int y0), some (.int y1), some (.int y2), some (.int y5), x6, x7, x8, x9] []) (fun _ => rfl) ?_
  refine z_evK (v := .int v) (z' := 161) (σ' := (I1, J, RF w)) hv ?_
  refine z_evG 4 (y := if (I1 91 6) = 0 then z_go 175 [some (.ref 91), some (.int n), some (.int y0), some (.int y1), some (.int y2), some (.int y5), some (.int v), x7, x8, x9] [] 161 (I1, J, RF w) else z_go 166 [some (.ref 91), some (.int n), some (.int y0), some (.int y1), some (.int y2), some (.int y5), some (.int v), x7, x8, x9] [] 161 (I1, J, RF w)) (fun _ => rfl) ?_
  refine z_evF hf ?_
  refine z_evL ?_
  refine z_evG 4 (y := if v < (I1 91 7) then z_go 175 [some (.ref 91), some (.int n), some (.int y0), some (.int y1), some (.int y2), some (.int y5), some (.int v), x7, x8, x9] [] 161 (I1, J, RF w) else z_go 200 [some (.ref 91), some (.int n), some (.int y0), some (.int y1), some (.int y2), some (.int y5), some (.int v), x7, x8, x9] [] 161 (I1, J, RF w)) (fun _ => rfl) ?_
  refine z_evF hg ?_
  refine z_evL ?_
  refine z_evG 1 (y := some (.inr (none, 161, I1, J, RF w))) (fun _ => rfl) ?_
  exact z_evR rfl
theorem x_tp_end (E : zE) (d : Nat) (J : Nat → Nat → Int64) (w : Nat) (n y5 : Int32) (x6 x7 x8 x9 : Option Value) (V : s_t3 → Int32) (u0 u1 u2 : Nat) (o : Option (Int32 × s_t3)) (I I1 : Nat → Nat → Int32) (h0 : I 95 0 = nI u0) (h1 : I 95 1 = nI u1) (h2 : I 95 2 = nI u2) (hs : s_mxX I o) (hv : z_cl E (d + 4) 87 [.ref 79, .int (I 91 3), .ref 96, .ref w, .int (I 91 4)] (161, I, J, RF w) = some (some (.int (V (u0, u1, u2))), 161, I1, J, RF w)) (hs1 : ∀ x k, x ≠ 89 → x ≠ 90 → I1 x k = I x k) : ∃ I', z_Ev E (d + 4) z_m43 134 [some (.ref 91), some (.int n), some (.int (nI u0)), some (.int (nI u1)), some (.int (nI u2)), some (.int y5), x6, x7, x8, x9] [] 161 (I, J, RF w) (none, 161, I', J, RF w) ∧ s_mxX I' (s_sto V o (u0, u1, u2)) ∧ ∀ a j, ¬ s_scX a j → I' a j = I a j := by
  have cp : s_mxX (z_ur (z_u2 (z_u2 I1 91 6 1) 91 7 (V (u0, u1, u2))) 94 (va_cpy ((z_u2 (z_u2 I1 91 6 1) 91 7 (V (u0, u1, u2))) 95) ((z_u2 (z_u2 I1 91 6 1) 91 7 (V (u0, u1, u2))) 94) 0 0 3)) (some (V (u0, u1, u2), u0, u1, u2)) := by
    refine ⟨rfl, rfl, ?_, ?_, ?_⟩
    · exact (hs1 95 0 (by decide) (by decide)).trans h0
    · exact (hs1 95 1 (by decide) (by decide)).trans h1
    · exact (hs1 95 2 (by decide) (by decide)).trans h2
  have sc : ∀ a j, ¬ s_scX a j → z_ur (z_u2 (z_u2 I1 91 6 1) 91 7 (V (u0, u1, u2))) 94 (va_cpy ((z_u2 (z_u2 I1 91 6 1) 91 7 (V (u0, u1, u2))) 95) ((z_u2 (z_u2 I1 91 6 1) 91 7 (V (u0, u1, u2))) 94) 0 0 3) a j = I a j := by
    intro a j q
    unfold s_scX at q
    rw [z_ur_n _ _ (by omega), z_u2_n _ _ (by omega), z_u2_n _ _ (by omega)]
    exact hs1 a j (by omega) (by omega)
  have sc1 : ∀ a j, ¬ s_scX a j → I1 a j = I a j := fun a j q => by unfold s_scX at q; exact hs1 a j (by omega) (by omega)
  have e6 := hs1 91 6 (by decide) (by decide)
  have e7 := hs1 91 7 (by decide) (by decide)
  cases o with
  | none => exact ⟨_, x_tp_first E d I J w n _ _ _ y5 (V (u0, u1, u2)) x6 x7 x8 x9 I1 hv (e6.trans hs), cp, sc⟩
  | some vu =>
    obtain ⟨v, a0, a1, a2⟩ := vu
    obtain ⟨s1, s2, s3, s4, s5⟩ := hs
    have hf : ¬ I1 91 6 = 0 := by rw [e6, s1]; decide
    by_cases hg : V (u0, u1, u2) < v
    · refine ⟨_, x_tp_new E d I J w n _ _ _ y5 (V (u0, u1, u2)) x6 x7 x8 x9 I1 hv hf (by rw [e7, s2]; exact hg), ?_, sc⟩
      rw [show s_sto V (some (v, a0, a1, a2)) (u0, u1, u2) = some (V (u0, u1, u2), u0, u1, u2) from if_pos hg]
      exact cp
    · refine ⟨_, x_tp_old E d I J w n _ _ _ y5 (V (u0, u1, u2)) x6 x7 x8 x9 I1 hv hf (by rw [e7, s2]; exact hg), ?_, sc1⟩
      rw [show s_sto V (some (v, a0, a1, a2)) (u0, u1, u2) = some (v, a0, a1, a2) from if_neg hg]
      exact ⟨e6.trans s1, e7.trans s2, (hs1 94 0 (by decide) (by decide)).trans s3, (hs1 94 1 (by decide) (by decide)).trans s4, (hs1 94 2 (by decide) (by decide)).trans s5⟩
theorem x_tpQ (E : zE) (d : Nat) (J : Nat → Nat → Int64) (w : Nat) (n : Nat) (T : Nat → Nat → Nat) (tl : Nat → Nat) (V : s_t3 → Int32) (I : Nat → Nat → Int32) (u0 u1 u2 : Nat) (o : Option (Int32 × s_t3)) (hn : 1 ≤ n) (hn3 : n ≤ 3) (hu : u0 + u1 + u2 = 10) (hb : ¬ (n < 2 ∧ 0 < u1) ∧ ¬ (n < 3 ∧ 0 < u2)) (ht : ∀ i, i < n → I 93 i = nI (tl i) ∧ tl i < 20) (hT : ∀ i, i < n → ∀ c, c < 8 → I (45 + tl i) c = nI (T i c) ∧ T i c ≤ 1000000000) (hs : s_mxX I o) (hv : ∀ I1, (∀ a j, ¬ s_scX a j → I1 a j = I a j) → (∀ c, c < 8 → I1 96 c = nI (s_mv n T u0 u1 u2 c)) → ∃ I2, z_cl E (d + 4) 87 [.ref 79, .int (I1 91 3), .ref 96, .ref w, .int (I1 91 4)] (161, I1, J, RF w) = some (some (.int (V (u0, u1, u2))), 161, I2, J, RF w) ∧ ∀ x k, x ≠ 89 → x ≠ 90 → I2 x k = I1 x k) : ∃ I', z_cl E (d + 5) 43 [.ref 91, .int (nI n), .int (nI u0), .int (nI u1), .int (nI u2)] (161, I, J, RF w) = some (none, 161, I', J, RF w) ∧ s_mxX I' (s_sto V o (u0, u1, u2)) ∧ ∀ a j, ¬ s_scX a j → I' a j = I a j := by
  have main : ∀ (G : Nat → Int32) (y5 : Int32) (x6 x7 x8 x9 : Option Value), (∀ c, c < 8 → G c = nI (s_mv n T u0 u1 u2 c)) → ∃ I', z_Ev E (d + 4) z_m43 134 [some (.ref 91), some (.int (nI n)), some (.int (nI u0)), some (.int (nI u1)), some (.int (nI u2)), some (.int y5), x6, x7, x8, x9] [] 161 (z_ur (z_u2 (z_u2 (z_u2 I 95 0 (nI u0)) 95 1 (nI u1)) 95 2 (nI u2)) 96 (z_fil (I 96) 0 8 G), J, RF w) (none, 161, I', J, RF w) ∧ s_mxX I' (s_sto V o (u0, u1, u2)) ∧ ∀ a j, ¬ s_scX a j → I' a j = I a j := by
    intro G y5 x6 x7 x8 x9 hG
    have sc : ∀ a j, ¬ s_scX a j → z_ur (z_u2 (z_u2 (z_u2 I 95 0 (nI u0)) 95 1 (nI u1)) 95 2 (nI u2)) 96 (z_fil (I 96) 0 8 G) a j = I a j := by
      intro a j q
      unfold s_scX at q
      rw [z_ur_n _ _ (by omega), z_u2_n _ _ (by omega), z_u2_n _ _ (by omega), z_u2_n _ _ (by omega)]
    obtain ⟨I2, e2, s2⟩ := hv _ sc (fun c hc => by rw [z_ur_same, z_fil_in0 hc]; exact hG c hc)
    obtain ⟨I', e3, s3, s4⟩ := x_tp_end E d J w (nI n) y5 x6 x7 x8 x9 V u0 u1 u2 o _ I2 rfl rfl rfl (by
      revert hs
      cases o with
      | none => exact fun q => q
      | some v => exact fun q => q) e2 s2
    exact ⟨I', e3, s3, fun a j q => (s4 a j q).trans (sc a j q)⟩
  have u0l : u0 ≤ 10 := by omega
  have u1l : u1 ≤ 10 := by omega
  have u2l : u2 ≤ 10 := by omega
  have fin : ∀ I', z_Ev E (d + 4) z_m43 32 [some (.ref 91), some (.int (nI n)), some (.int (nI u0)), some (.int (nI u1)), some (.int (nI u2)), some (.int 0), none, none, none, none] [] 161 (I, J, RF w) (none, 161, I', J, RF w) → z_cl E (d + 5) 43 [.ref 91, .int (nI n), .int (nI u0), .int (nI u1), .int (nI u2)] (161, I, J, RF w) = some (none, 161, I', J, RF w) := fun I' h => z_call (d := d + 4) (M := z_m43) rfl rfl (x_tp_a E d I J w n u0 u1 u2 hn3 u0l u1l u2l hb h)
  rcases (by omega : n = 1 ∨ n = 2 ∨ n = 3) with e | e | e <;> subst e
  · obtain ⟨I', e3, s3⟩ := main (fun c => ((0 + (nI u0).toInt64 * (I (45 + tl 0) c).toInt64) / 10).toInt32) 0 (some (.int (nI 8))) (z_dj (fun c => 0 + (nI u0).toInt64 * (I (45 + tl 0) c).toInt64) 8) none (z_di (fun _ => 1) 8) (fun c hc => s_mv_1 (hT 0 (by decide) c hc).1 (hT 0 (by decide) c hc).2 u0l)
    exact ⟨I', fin I' (x_tp_b1 E d I J w (tl 0) (nI u0) (nI u1) (nI u2) (ht 0 (by decide)).1 (ht 0 (by decide)).2 e3), s3⟩
  · obtain ⟨I', e3, s3⟩ := main (fun c => (((0 + (nI u0).toInt64 * (I (45 + tl 0) c).toInt64) + (nI u1).toInt64 * (I (45 + tl 1) c).toInt64) / 10).toInt32) 0 (some (.int (nI 8))) (z_dj (fun c => (0 + (nI u0).toInt64 * (I (45 + tl 0) c).toInt64) + (nI u1).toInt64 * (I (45 + tl 1) c).toInt64) 8) none (z_di (fun _ => 2) 8) (fun c hc => s_mv_2 (hT 0 (by decide) c hc).1 (hT 0 (by decide) c hc).2 u0l (hT 1 (by decide) c hc).1 (hT 1 (by decide) c hc).2 (by omega))
    exact ⟨I', fin I' (x_tp_b2 E d I J w (tl 0) (tl 1) (nI u0) (nI u1) (nI u2) (ht 0 (by decide)).1 (ht 0 (by decide)).2 (ht 1 (by decide)).1 (ht 1 (by decide)).2 e3), s3⟩
  · obtain ⟨I', e3, s3⟩ := main (fun c => ((((0 + (nI u0).toInt64 * (I (45 + tl 0) c).toInt64) + (nI u1).toInt64 * (I (45 + tl 1) c).toInt64) + (nI u2).toInt64 * (I (45 + tl 2) c).toInt64) / 10).toInt32) 0 (some (.int (nI 8))) (z_dj (fun c => ((0 + (nI u0).toInt64 * (I (45 + tl 0) c).toInt64) + (nI u1).toInt64 * (I (45 + tl 1) c).toInt64) + (nI u2).toInt64 * (I (45 + tl 2) c).toInt64) 8) none (z_di (fun _ => 3) 8) (fun c hc => s_mv_3 (hT 0 (by decide) c hc).1 (hT 0 (by decide) c hc).2 u0l (hT 1 (by decide) c hc).1 (hT 1 (by decide) c hc).2 (hT 2 (by decide) c hc).1 (hT 2 (by decide) c hc).2 (by omega))
    exact ⟨I', fin I' (x_tp_b3 E d I J w (tl 0) (tl 1) (tl 2) (nI u0) (nI u1) (nI u2) (ht 0 (by decide)).1 (ht 0 (by decide)).2 (ht 1 (by decide)).1 (ht 1 (by decide)).2 (ht 2 (by decide)).1 (ht 2 (by decide)).2 e3), s3⟩
