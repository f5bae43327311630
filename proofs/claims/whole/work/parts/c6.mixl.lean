-- MIXED by the class: the loops
set_option maxRecDepth 20000 in
theorem x_mix_a (E : zE) (d : Nat) (I : Nat → Nat → Int32) (J : Nat → Nat → Int64) (w : Nat) {r : zR} (x m : Nat) (h_m : I 43 1 = nI m) (hm : m ≤ 20) (hx31 : x < 2 ^ 31) (hc : s_pn x m ≤ 3) (hz : z_Ev E (d + 5) z_m42 46 [some (.ref 91), some (.int (nI x)), some (.int (nI ((s_bs x m).length))), some (.int 0), none] [] 161 ((z_ur I 93 (s_row (I 93) (s_bs x m))), J, RF w) r) : z_Ev E (d + 5) z_m42 0 [some (.ref 91), some (.int (nI x)), none, none, none] [] 161 (I, J, RF w) r := by
  refine z_evG 4 (y := z_go 4 [some (.ref 91), some (.int (nI x)), some (.int 0), some (.int 0), none] [] 161 (I, J, RF w)) (fun _ => rfl) ?_
  refine z_evL ?_
  have st0 : ∀ m0, m0 = 0 → ∀ qz, z_Ev E (d + 5) z_m42 4 [some (.ref 91), some (.int (nI x)), some (.int (nI ((s_bs x m0).length))), some (.int (nI m0)), none] [] 161 ((z_ur I 93 (s_row (I 93) (s_bs x m0))), J, RF w) qz → z_Ev E (d + 5) z_m42 4 [some (.ref 91), some (.int (nI x)), some (.int 0), some (.int 0), none] [] 161 (I, J, RF w) qz := by intro m0 hm0 qz h; rw [hm0, show s_bs x 0 = [] from rfl, s_row_0] at h; subst hm0; exact h
  refine st0 0 rfl _ ?_
  refine z_loop (F := fun k => ([some (.ref 91), some (.int (nI x)), some (.int (nI ((s_bs x k).length))), some (.int (nI k)), none], ((z_ur I 93 (s_row (I 93) (s_bs x k))), J, RF w))) (P := fun k => True) m trivial (fun hP => ?_) (fun k hk hP next => ?_)
  · show z_Ev E (d + 5) z_m42 4 [some (.ref 91), some (.int (nI x)), some (.int (nI ((s_bs x m).length))), some (.int (nI m)), none] [] 161 ((z_ur I 93 (s_row (I 93) (s_bs x m))), J, RF w) _
    refine z_evG 4 (y := z_ret (z_cl E (d + 5) 7 [.ref 43] (161, ((z_ur I 93 (s_row (I 93) (s_bs x m))), J, RF w))) 12 [some (.ref 91), some (.int (nI x)), some (.int (nI ((s_bs x m).length))), some (.int (nI m)), none] [.int (nI m)]) (fun _ => rfl) ?_
    refine z_evK (v := .int ((z_ur I 93 (s_row (I 93) (s_bs x m))) 43 1)) (z' := 161) (σ' := ((z_ur I 93 (s_row (I 93) (s_bs x m))), J, RF w)) (x_lights_size E (d + 4) (z_ur I 93 (s_row (I 93) (s_bs x m))) J w) ?_
    refine z_evG 1 (y := if (nI m) < ((z_ur I 93 (s_row (I 93) (s_bs x m))) 43 1) then z_go 15 [some (.ref 91), some (.int (nI x)), some (.int (nI ((s_bs x m).length))), some (.int (nI m)), none] [] 161 ((z_ur I 93 (s_row (I 93) (s_bs x m))), J, RF w) else z_go 44 [some (.ref 91), some (.int (nI x)), some (.int (nI ((s_bs x m).length))), some (.int (nI m)), none] [] 161 ((z_ur I 93 (s_row (I 93) (s_bs x m))), J, RF w)) (fun _ => rfl) ?_
    refine z_evF (mt (show _ ↔ m < m from z_ltN rfl (show _ = _ from h_m) (by omega) (by omega)).mp (by omega)) ?_
    refine z_evL ?_
    refine z_evG 2 (y := z_go 46 [some (.ref 91), some (.int (nI x)), some (.int (nI ((s_bs x m).length))), some (.int 0), none] [] 161 ((z_ur I 93 (s_row (I 93) (s_bs x m))), J, RF w)) (fun _ => rfl) ?_
    refine z_evL ?_
    exact hz
  · show z_Ev E (d + 5) z_m42 4 [some (.ref 91), some (.int (nI x)), some (.int (nI ((s_bs x k).length))), some (.int (nI k)), none] [] 161 ((z_ur I 93 (s_row (I 93) (s_bs x k))), J, RF w) _
    have e8 := s_bs_len x k
    have e7 := s_pn_le x k
    have nx : (True) → z_Ev E (d + 5) z_m42 4 [some (.ref 91), some (.int (nI x)), some (.int (nI ((s_bs x (k + 1)).length))), some (.int (nI (k + 1))), none] [] 161 ((z_ur I 93 (s_row (I 93) (s_bs x (k + 1)))), J, RF w) _ := next
    refine z_evG 4 (y := z_ret (z_cl E (d + 5) 7 [.ref 43] (161, ((z_ur I 93 (s_row (I 93) (s_bs x k))), J, RF w))) 12 [some (.ref 91), some (.int (nI x)), some (.int (nI ((s_bs x k).length))), some (.int (nI k)), none] [.int (nI k)]) (fun _ => rfl) ?_
    refine z_evK (v := .int ((z_ur I 93 (s_row (I 93) (s_bs x k))) 43 1)) (z' := 161) (σ' := ((z_ur I 93 (s_row (I 93) (s_bs x k))), J, RF w)) (x_lights_size E (d + 4) (z_ur I 93 (s_row (I 93) (s_bs x k))) J w) ?_
    refine z_evG 1 (y := if (nI k) < ((z_ur I 93 (s_row (I 93) (s_bs x k))) 43 1) then z_go 15 [some (.ref 91), some (.int (nI x)), some (.int (nI ((s_bs x k).length))), some (.int (nI k)), none] [] 161 ((z_ur I 93 (s_row (I 93) (s_bs x k))), J, RF w) else z_go 44 [some (.ref 91), some (.int (nI x)), some (.int (nI ((s_bs x k).length))), some (.int (nI k)), none] [] 161 ((z_ur I 93 (s_row (I 93) (s_bs x k))), J, RF w)) (fun _ => rfl) ?_
    refine z_evT ((show _ ↔ k < m from z_ltN rfl (show _ = _ from h_m) (by omega) (by omega)).mpr (by omega)) ?_
    refine z_evL ?_
    refine z_evG 3 (y := if (nI ((s_bs x k).length)) < 3 then z_go 20 [some (.ref 91), some (.int (nI x)), some (.int (nI ((s_bs x k).length))), some (.int (nI k)), none] [] 161 ((z_ur I 93 (s_row (I 93) (s_bs x k))), J, RF w) else z_go 44 [some (.ref 91), some (.int (nI x)), some (.int (nI ((s_bs x k).length))), some (.int (nI k)), none] [] 161 ((z_ur I 93 (s_row (I 93) (s_bs x k))), J, RF w)) (fun _ => rfl) ?_
    refine z_evIN (show _ ↔ ((s_bs x k).length) < 3 from z_ltN rfl rfl (by omega) (by omega)) (fun h3 => ?_) (fun h3 => ?_)
    · refine z_evL ?_
      refine z_evG 3 (y := z_ret (z_cl E (d + 5) 175 [.int (nI x), .int (nI k)] (161, ((z_ur I 93 (s_row (I 93) (s_bs x k))), J, RF w))) 25 [some (.ref 91), some (.int (nI x)), some (.int (nI ((s_bs x k).length))), some (.int (nI k)), none] []) (fun _ => rfl) ?_
      refine z_evK (v := .int (z_bo ((((nI x) >>> ((nI k) &&& 31)) &&& 1) = 1))) (z' := 161) (σ' := ((z_ur I 93 (s_row (I 93) (s_bs x k))), J, RF w)) (x_isTold E (d + 4) (z_ur I 93 (s_row (I 93) (s_bs x k))) J w (nI x) (nI k)) ?_
      refine z_evG 1 (y := if (z_bo ((((nI x) >>> ((nI k) &&& 31)) &&& 1) = 1)) = 0 then z_go 38 [some (.ref 91), some (.int (nI x)), some (.int (nI ((s_bs x k).length))), some (.int (nI k)), none] [] 161 ((z_ur I 93 (s_row (I 93) (s_bs x k))), J, RF w) else z_go 28 [some (.ref 91), some (.int (nI x)), some (.int (nI ((s_bs x k).length))), some (.int (nI k)), none] [] 161 ((z_ur I 93 (s_row (I 93) (s_bs x k))), J, RF w)) (fun _ => rfl) ?_
      refine z_evO (fun h4 => ?_) (fun h4 => ?_)
      · refine z_evL ?_
        refine z_evG 2 (y := z_go 4 [some (.ref 91), some (.int (nI x)), some (.int (nI ((s_bs x k).length))), some (.int ((nI k) + 1)), none] [] 161 ((z_ur I 93 (s_row (I 93) (s_bs x k))), J, RF w)) (fun _ => rfl) ?_
        refine z_evL ?_
        have hb : ¬ x / 2 ^ k % 2 = 1 := mt (z_bt (by omega) (by omega)).mpr h4
        rw [s_bs_f hb] at nx
        rw [nI_1 k]
        exact nx trivial
      · refine z_evL ?_
        refine z_evG 5 (y := z_ck (z_in (nI ((s_bs x k).length)) 3) (z_go 35 [some (.ref 91), some (.int (nI x)), some (.int (nI ((s_bs x k).length))), some (.int (nI k)), none] [] 161 ((z_u2 (z_ur I 93 (s_row (I 93) (s_bs x k))) 93 ((nI ((s_bs x k).length)).toNatClampNeg) (nI k)), J, RF w))) (fun _ => rfl) ?_
        refine z_evC (z_inN (k := ((s_bs x k).length)) rfl (by omega) (by decide)) ?_
        refine z_evL ?_
        rw [show ((nI ((s_bs x k).length) : Int32)).toNatClampNeg = ((s_bs x k).length) from z_natE rfl (by omega)]
        refine z_evG 3 (y := z_go 4 [some (.ref 91), some (.int (nI x)), some (.int ((nI ((s_bs x k).length)) + 1)), some (.int ((nI k) + 1)), none] [] 161 ((z_u2 (z_ur I 93 (s_row (I 93) (s_bs x k))) 93 ((s_bs x k).length) (nI k)), J, RF w)) (fun _ => rfl) ?_
        refine z_evL ?_
        have hb : x / 2 ^ k % 2 = 1 := (z_bt (by omega) (by omega)).mp h4
        rw [nI_1 k, nI_1 ((s_bs x k).length), s_row_s]
        rw [show (s_bs x (k + 1)).length = (s_bs x k).length + 1 by rw [s_bs_t hb]; simp, s_bs_t hb] at nx
        exact nx trivial
    · refine z_evL ?_
      refine z_evG 2 (y := z_go 46 [some (.ref 91), some (.int (nI x)), some (.int (nI ((s_bs x k).length))), some (.int 0), none] [] 161 ((z_ur I 93 (s_row (I 93) (s_bs x k))), J, RF w)) (fun _ => rfl) ?_
      refine z_evL ?_
      have e9 : s_bs x m = s_bs x k := s_bs_top (by omega) (by omega)
      rw [← e9]
      exact hz
set_option maxRecDepth 20000 in
theorem x_mix_p (E : zE) (d : Nat) (I : Nat → Nat → Int32) (J : Nat → Nat → Int64) (w : Nat) {r : zR} (b n : Int32) (p : Nat) (x4 : Option Value) (hp : p ≤ 10) (hz : z_Ev E (d + 5) z_m42 55 [some (.ref 91), some (.int b), some (.int n), some (.int (nI p)), some (.int 0)] [] 161 (I, J, RF w) r) : z_Ev E (d + 5) z_m42 46 [some (.ref 91), some (.int b), some (.int n), some (.int (nI p)), x4] [] 161 (I, J, RF w) r := by
  refine z_evG 3 (y := if 10 < (nI p) then z_go 91 [some (.ref 91), some (.int b), some (.int n), some (.int (nI p)), x4] [] 161 (I, J, RF w) else z_go 52 [some (.ref 91), some (.int b), some (.int n), some (.int (nI p)), x4] [] 161 (I, J, RF w)) (fun _ => rfl) ?_
  refine z_evF (mt (show _ ↔ 10 < p from z_ltN rfl rfl (by omega) (by omega)).mp (by omega)) ?_
  refine z_evL ?_
  refine z_evG 2 (y := z_go 55 [some (.ref 91), some (.int b), some (.int n), some (.int (nI p)), some (.int 0)] [] 161 (I, J, RF w)) (fun _ => rfl) ?_
  refine z_evL ?_
  exact hz
set_option maxRecDepth 20000 in
theorem x_mix_e (E : zE) (d : Nat) (I : Nat → Nat → Int32) (J : Nat → Nat → Int64) (w : Nat) (b n : Int32) (p : Nat) (x4 : Option Value) (hp : p = 11) : z_Ev E (d + 5) z_m42 46 [some (.ref 91), some (.int b), some (.int n), some (.int (nI p)), x4] [] 161 (I, J, RF w) (none, 161, I, J, RF w) := by
  refine z_evG 3 (y := if 10 < (nI p) then z_go 91 [some (.ref 91), some (.int b), some (.int n), some (.int (nI p)), x4] [] 161 (I, J, RF w) else z_go 52 [some (.ref 91), some (.int b), some (.int n), some (.int (nI p)), x4] [] 161 (I, J, RF w)) (fun _ => rfl) ?_
  refine z_evT ((show _ ↔ 10 < p from z_ltN rfl rfl (by omega) (by omega)).mpr (by omega)) ?_
  refine z_evL ?_
  refine z_evG 1 (y := some (.inr (none, 161, I, J, RF w))) (fun _ => rfl) ?_
  exact z_evR rfl
set_option maxRecDepth 20000 in
theorem x_mix_q (E : zE) (d : Nat) (I : Nat → Nat → Int32) (J : Nat → Nat → Int64) (w : Nat) {r : zR} (b n : Int32) (p u : Nat) (I1 : Nat → Nat → Int32) (hp : p ≤ 10) (hu : u + p ≤ 10) (t1 : z_cl E (d + 5) 43 [.ref 91, .int n, .int (nI p), .int (nI u), .int (10 - nI p - nI u)] (161, I, J, RF w) = some (none, 161, I1, J, RF w)) (hz : z_Ev E (d + 5) z_m42 55 [some (.ref 91), some (.int b), some (.int n), some (.int (nI p)), some (.int (nI (u + 1)))] [] 161 (I1, J, RF w) r) : z_Ev E (d + 5) z_m42 55 [some (.ref 91), some (.int b), some (.int n), some (.int (nI p)), some (.int (nI u))] [] 161 (I, J, RF w) r := by
  refine z_evG 5 (y := if (10 - (nI p)) < (nI u) then z_go 85 [some (.ref 91), some (.int b), some (.int n), some (.int (nI p)), some (.int (nI u))] [] 161 (I, J, RF w) else z_go 64 [some (.ref 91), some (.int b), some (.int n), some (.int (nI p)), some (.int (nI u))] [] 161 (I, J, RF w)) (fun _ => rfl) ?_
  refine z_evF (mt (show _ ↔ 10 - p < u from z_ltN (z_subE (a := 10) rfl rfl (by omega)) rfl (by omega) (by omega)).mp (by omega)) ?_
  refine z_evL ?_
  refine z_evG 10 (y := z_ret (z_cl E (d + 5) 43 [.ref 91, .int n, .int (nI p), .int (nI u), .int ((10 - (nI p)) - (nI u))] (161, (I, J, RF w))) 79 [some (.ref 91), some (.int b), some (.int n), some (.int (nI p)), some (.int (nI u))] []) (fun _ => rfl) ?_
  refine z_evV (z' := 161) (σ' := (I1, J, RF w)) t1 ?_
  refine z_evG 2 (y := z_go 55 [some (.ref 91), some (.int b), some (.int n), some (.int (nI p)), some (.int ((nI u) + 1))] [] 161 (I1, J, RF w)) (fun _ => rfl) ?_
  refine z_evL ?_
  rw [nI_1 u]
  exact hz
set_option maxRecDepth 20000 in
theorem x_mix_qe (E : zE) (d : Nat) (I : Nat → Nat → Int32) (J : Nat → Nat → Int64) (w : Nat) {r : zR} (b n : Int32) (p u : Nat) (hp : p ≤ 10) (hu : u + p = 11) (hz : z_Ev E (d + 5) z_m42 46 [some (.ref 91), some (.int b), some (.int n), some (.int (nI (p + 1))), some (.int (nI u))] [] 161 (I, J, RF w) r) : z_Ev E (d + 5) z_m42 55 [some (.ref 91), some (.int b), some (.int n), some (.int (nI p)), some (.int (nI u))] [] 161 (I, J, RF w) r := by
  refine z_evG 5 (y := if (10 - (nI p)) < (nI u) then z_go 85 [some (.ref 91), some (.int b), some (.int n), some (.int (nI p)), some (.int (nI u))] [] 161 (I, J, RF w) else z_go 64 [some (.ref 91), some (.int b), some (.int n), some (.int (nI p)), some (.int (nI u))] [] 161 (I, J, RF w)) (fun _ => rfl) ?_
  refine z_evT ((show _ ↔ 10 - p < u from z_ltN (z_subE (a := 10) rfl rfl (by omega)) rfl (by omega) (by omega)).mpr (by omega)) ?_
  refine z_evL ?_
  refine z_evG 2 (y := z_go 46 [some (.ref 91), some (.int b), some (.int n), some (.int ((nI p) + 1)), some (.int (nI u))] [] 161 (I, J, RF w)) (fun _ => rfl) ?_
  refine z_evL ?_
  rw [nI_1 p]
  exact hz
def s_ok3 (n u1 u2 : Nat) : Prop := ¬ (n < 2 ∧ 0 < u1) ∧ ¬ (n < 3 ∧ 0 < u2)
def s_ok3b (n u1 u2 : Nat) : Bool := !(decide (n < 2) && decide (0 < u1)) && !(decide (n < 3) && decide (0 < u2))
theorem s_ok3_iff {n u1 u2 : Nat} : s_ok3b n u1 u2 = true ↔ s_ok3 n u1 u2 := by
  unfold s_ok3b s_ok3
  simp only [Bool.and_eq_true, Bool.not_eq_true', Bool.and_eq_false_iff, decide_eq_false_iff_not]
  omega
def s_tq (n p : Nat) (u : Nat) : List s_t3 := z_fo (fun j l => bif s_ok3b n j (10 - p - j) then l ++ [(p, j, 10 - p - j)] else l) [] u
def s_tp (n : Nat) (p : Nat) : List s_t3 := z_fo (fun i l => l ++ s_tq n i (11 - i)) [] p
theorem s_tq_t {n p u : Nat} (h : s_ok3 n u (10 - p - u)) : s_tq n p (u + 1) = s_tq n p u ++ [(p, u, 10 - p - u)] := by
  show (bif s_ok3b n u (10 - p - u) then _ else _) = _
  rw [s_ok3_iff.mpr h]; rfl
theorem s_tq_f {n p u : Nat} (h : ¬ s_ok3 n u (10 - p - u)) : s_tq n p (u + 1) = s_tq n p u := by
  show (bif s_ok3b n u (10 - p - u) then _ else _) = _
  rw [Bool.eq_false_iff.mpr (mt s_ok3_iff.mp h)]; rfl
theorem x_mixq (E : zE) (d : Nat) (J : Nat → Nat → Int64) (w : Nat) (n : Nat) (T : Nat → Nat → Nat) (tl : Nat → Nat) (V : s_t3 → Int32) (I0 : Nat → Nat → Int32) (b : Int32) (hn : 1 ≤ n) (hn3 : n ≤ 3) (ht : ∀ i, i < n → I0 93 i = nI (tl i) ∧ tl i < 20) (hT : ∀ i, i < n → ∀ c, c < 8 → I0 (45 + tl i) c = nI (T i c) ∧ T i c ≤ 1000000000) (hv : ∀ I1 u0 u1 u2, u0 + u1 + u2 = 10 → (∀ a j, ¬ s_scX a j → I1 a j = I0 a j) → (∀ c, c < 8 → I1 96 c = nI (s_mv n T u0 u1 u2 c)) → ∃ I2, z_cl E (d + 4) 87 [.ref 79, .int (I1 91 3), .ref 96, .ref w, .int (I1 91 4)] (161, I1, J, RF w) = some (some (.int (V (u0, u1, u2))), 161, I2, J, RF w) ∧ ∀ x k, x ≠ 89 → x ≠ 90 → I2 x k = I1 x k) (p : Nat) (hp : p ≤ 10) (Q : (Nat → Nat → Int32) → Prop) (L : List s_t3) (nx : ∀ I', s_mxX I' (s_best V (L ++ s_tq n p (11 - p))) → (∀ a j, ¬ s_scX a j → I' a j = I0 a j) → ∃ I2, z_Ev E (d + 5) z_m42 46 [some (.ref 91), some (.int b), some (.int (nI n)), some (.int (nI (p + 1))), some (.int (nI (11 - p)))] [] 161 (I', J, RF w) (none, 161, I2, J, RF w) ∧ Q I2) : ∀ k u I, u + k = 11 - p → s_mxX I (s_best V (L ++ s_tq n p u)) → (∀ a j, ¬ s_scX a j → I a j = I0 a j) → ∃ I2, z_Ev E (d + 5) z_m42 55 [some (.ref 91), some (.int b), some (.int (nI n)), some (.int (nI p)), some (.int (nI u))] [] 161 (I, J, RF w) (none, 161, I2, J, RF w) ∧ Q I2
  | 0, u, I, hu, hs, hI => by
    have eu : u = 11 - p := by omega
    rw [eu] at hs
    obtain ⟨I2, e2, q2⟩ := nx I hs hI
    rw [← eu] at e2
    exact ⟨I2, x_mix_qe E d I J w b (nI n) p u hp (by omega) e2, q2⟩
  | k + 1, u, I, hu, hs, hI => by
    have er : (10 : Int32) - nI p - nI u = nI (10 - p - u) := z_subE (z_subE (a := 10) rfl rfl (by omega)) rfl (by omega)
    by_cases ok : s_ok3 n u (10 - p - u)
    · obtain ⟨I1, e1, s1, g1⟩ := x_tpQ E d J w n T tl V I p u (10 - p - u) (s_best V (L ++ s_tq n p u)) hn hn3 (by omega) ok (fun i hi => ⟨(hI 93 i (by unfold s_scX; omega)).trans (ht i hi).1, (ht i hi).2⟩) (fun i hi c hc => ⟨(hI _ c (by have := (ht i hi).2; unfold s_scX; omega)).trans (hT i hi c hc).1, (hT i hi c hc).2⟩) hs (fun I1 h1 h2 => hv I1 p u (10 - p - u) (by omega) (fun a j q => (h1 a j q).trans (hI a j q)) h2)
      obtain ⟨I2, e2, q2⟩ := x_mixq E d J w n T tl V I0 b hn hn3 ht hT hv p hp Q L nx k (u + 1) I1 (by omega) (by rw [s_tq_t ok, ← List.append_assoc, s_best_s]; exact s1) (fun a j q => (g1 a j q).trans (hI a j q))
      rw [← er] at e1
      exact ⟨I2, x_mix_q E d I J w b (nI n) p u I1 hp (by omega) e1 e2, q2⟩
    · have e1 := x_tp_no E d I J w n p u (10 - p - u) hn3 (by omega) (by omega) (by omega) (by unfold s_ok3 at ok; omega)
      obtain ⟨I2, e2, q2⟩ := x_mixq E d J w n T tl V I0 b hn hn3 ht hT hv p hp Q L nx k (u + 1) I (by omega) (by rw [s_tq_f ok]; exact hs) hI
      rw [← er] at e1
      exact ⟨I2, x_mix_q E d I J w b (nI n) p u I hp (by omega) e1 e2, q2⟩
theorem x_mixp (E : zE) (d : Nat) (J : Nat → Nat → Int64) (w : Nat) (n : Nat) (T : Nat → Nat → Nat) (tl : Nat → Nat) (V : s_t3 → Int32) (I0 : Nat → Nat → Int32) (b : Int32) (hn : 1 ≤ n) (hn3 : n ≤ 3) (ht : ∀ i, i < n → I0 93 i = nI (tl i) ∧ tl i < 20) (hT : ∀ i, i < n → ∀ c, c < 8 → I0 (45 + tl i) c = nI (T i c) ∧ T i c ≤ 1000000000) (hv : ∀ I1 u0 u1 u2, u0 + u1 + u2 = 10 → (∀ a j, ¬ s_scX a j → I1 a j = I0 a j) → (∀ c, c < 8 → I1 96 c = nI (s_mv n T u0 u1 u2 c)) → ∃ I2, z_cl E (d + 4) 87 [.ref 79, .int (I1 91 3), .ref 96, .ref w, .int (I1 91 4)] (161, I1, J, RF w) = some (some (.int (V (u0, u1, u2))), 161, I2, J, RF w) ∧ ∀ x k, x ≠ 89 → x ≠ 90 → I2 x k = I1 x k) : ∀ k p x4 I, p + k = 11 → s_mxX I (s_best V (s_tp n p)) → (∀ a j, ¬ s_scX a j → I a j = I0 a j) → ∃ I2, z_Ev E (d + 5) z_m42 46 [some (.ref 91), some (.int b), some (.int (nI n)), some (.int (nI p)), x4] [] 161 (I, J, RF w) (none, 161, I2, J, RF w) ∧ s_mxX I2 (s_best V (s_tp n 11)) ∧ (∀ a j, ¬ s_scX a j → I2 a j = I0 a j)
  | 0, p, x4, I, hp, hs, hI => by
    have ep : p = 11 := hp
    rw [ep] at hs
    exact ⟨I, x_mix_e E d I J w b (nI n) p x4 ep, hs, hI⟩
  | k + 1, p, x4, I, hp, hs, hI => by
    obtain ⟨I2, e2, q2⟩ := x_mixq E d J w n T tl V I0 b hn hn3 ht hT hv p (by omega) (fun I2 => s_mxX I2 (s_best V (s_tp n 11)) ∧ (∀ a j, ¬ s_scX a j → I2 a j = I0 a j)) (s_tp n p) (fun I' h1 h2 => x_mixp E d J w n T tl V I0 b hn hn3 ht hT hv k (p + 1) _ I' (by omega) h1 h2) (11 - p) 0 I (by omega) (by rw [show s_tq n p 0 = [] from rfl, List.append_nil]; exact hs) hI
    exact ⟨I2, x_mix_p E d I J w b (nI n) p x4 (by omega) e2, q2⟩
theorem x_mixQ (E : zE) (d : Nat) (J : Nat → Nat → Int64) (w : Nat) (T : Nat → Nat → Nat) (V : s_t3 → Int32) (I : Nat → Nat → Int32) (x m : Nat) (h_m : I 43 1 = nI m) (hm : m ≤ 20) (hx : x < 2 ^ 31) (h1 : 1 ≤ (s_bs x m).length) (h3 : (s_bs x m).length ≤ 3) (hf : I 91 6 = 0) (hT : ∀ i, i < (s_bs x m).length → ∀ c, c < 8 → I (45 + (s_bs x m).getD i 0) c = nI (T i c) ∧ T i c ≤ 1000000000) (hv : ∀ I1 u0 u1 u2, u0 + u1 + u2 = 10 → (∀ a j, ¬ s_scX a j → a ≠ 93 → I1 a j = I a j) → (∀ c, c < 8 → I1 96 c = nI (s_mv (s_bs x m).length T u0 u1 u2 c)) → ∃ I2, z_cl E (d + 4) 87 [.ref 79, .int (I1 91 3), .ref 96, .ref w, .int (I1 91 4)] (161, I1, J, RF w) = some (some (.int (V (u0, u1, u2))), 161, I2, J, RF w) ∧ ∀ x k, x ≠ 89 → x ≠ 90 → I2 x k = I1 x k) : ∃ I', z_cl E (d + 6) 42 [.ref 91, .int (nI x)] (161, I, J, RF w) = some (none, 161, I', J, RF w) ∧ s_mxX I' (s_best V (s_tp (s_bs x m).length 11)) ∧ ∀ a j, ¬ s_scX a j → a ≠ 93 → I' a j = I a j := by
  have tl20 : ∀ i, i < (s_bs x m).length → (s_bs x m).getD i 0 < 20 := fun i hi => by
    have := s_bs_lt x m ((s_bs x m).getD i 0) (by rw [List.getD_eq_getElem?_getD, List.getElem?_eq_getElem hi]; exact List.getElem_mem hi)
    omega
  obtain ⟨I2, e2, s2, g2⟩ := x_mixp E d J w (s_bs x m).length T (fun i => (s_bs x m).getD i 0) V (z_ur I 93 (s_row (I 93) (s_bs x m))) (nI x) h1 h3 (fun i hi => ⟨by rw [z_ur_same]; exact s_row_in hi, tl20 i hi⟩) (fun i hi c hc => ⟨by have := tl20 i hi; rw [z_ur_n _ _ (by omega)]; exact (hT i hi c hc).1, (hT i hi c hc).2⟩) (fun I1 u0 u1 u2 hu h1 h2 => hv I1 u0 u1 u2 hu (fun a j q q2 => (h1 a j q).trans (by rw [z_ur_n _ _ q2])) h2) 11 0 none (z_ur I 93 (s_row (I 93) (s_bs x m))) rfl hf (fun _ _ _ => rfl)
  refine ⟨I2, z_call (d := d + 5) (M := z_m42) rfl rfl (x_mix_a E d I J w x m h_m hm hx (by rw [← s_bs_len]; exact h3) e2), s2, fun a j q q2 => ?_⟩
  rw [g2 a j q, z_ur_n _ _ q2]
