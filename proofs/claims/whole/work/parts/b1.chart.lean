-- CHART: its parts
def s_lg (v : Nat) : Nat := if v = 0 then 0 else Nat.log2 v + 1
theorem s_lg_lt {v k : Nat} (h : k < s_lg v) : 0 < v / 2 ^ k := by
  unfold s_lg at h
  by_cases q : v = 0
  · rw [if_pos q] at h; exact absurd h (Nat.not_lt_zero _)
  · rw [if_neg q] at h
    have l := Nat.log2_self_le q
    have m : 2 ^ k ≤ 2 ^ Nat.log2 v := Nat.pow_le_pow_right (by decide) (by omega)
    exact Nat.div_pos (Nat.le_trans m l) (Nat.two_pow_pos k)
theorem s_lg_end (v : Nat) : v < 2 ^ s_lg v := by
  unfold s_lg
  by_cases q : v = 0
  · rw [if_pos q, q]; decide
  · rw [if_neg q]; exact Nat.lt_log2_self
theorem s_lg_le {v n : Nat} (h : v < 2 ^ n) : s_lg v ≤ n := by
  unfold s_lg
  by_cases q : v = 0
  · rw [if_pos q]; exact Nat.zero_le _
  · rw [if_neg q]; exact (Nat.log2_lt q).mpr h
set_option maxRecDepth 20000 in
/-- LampHouseModel.ones -/
theorem m_ones (E : zE) (d : Nat) (I : Nat → Nat → Int32) (J : Nat → Nat → Int64) (w : Nat) (v : Nat) (hv : v < 2 ^ 24) : z_cl E (d + 1) 231 [.int (nI v)] (161, I, J, RF w) = some (some (.int (nI (s_pn v 24))), 161, I, J, RF w) := by
  refine z_call (d := d + 0) (M := z_m231) rfl rfl ?_
  refine z_evG 4 (y := z_go 4 [some (.int (nI v)), some (.int 0), some (.int (nI v))] [] 161 (I, J, RF w)) (fun _ => rfl) ?_
  refine z_evL ?_
  have st0 : ∀ m0, m0 = 0 → ∀ qz, z_Ev E d z_m231 4 [some (.int (nI v)), some (.int (nI (s_pn v m0))), some (.int (nI (v / 2 ^ m0)))] [] 161 (I, J, RF w) qz → z_Ev E d z_m231 4 [some (.int (nI v)), some (.int 0), some (.int (nI v))] [] 161 (I, J, RF w) qz := by intro m0 hm0 qz h; rw [hm0, Nat.pow_zero, Nat.div_one] at h; subst hm0; exact h
  refine st0 0 rfl _ ?_
  refine z_loop (F := fun k => ([some (.int (nI v)), some (.int (nI (s_pn v k))), some (.int (nI (v / 2 ^ k)))], (I, J, RF w))) (P := fun k => True) (s_lg v) trivial (fun hP => ?_) (fun k hk hP next => ?_)
  · show z_Ev E d z_m231 4 [some (.int (nI v)), some (.int (nI (s_pn v (s_lg v)))), some (.int (nI (v / 2 ^ (s_lg v))))] [] 161 (I, J, RF w) _
    have hx : v / 2 ^ (s_lg v) = 0 := Nat.div_eq_of_lt (s_lg_end v)
    refine z_evG 2 (y := if 0 < (nI (v / 2 ^ (s_lg v))) then z_go 8 [some (.int (nI v)), some (.int (nI (s_pn v (s_lg v)))), some (.int (nI (v / 2 ^ (s_lg v))))] [] 161 (I, J, RF w) else z_go 21 [some (.int (nI v)), some (.int (nI (s_pn v (s_lg v)))), some (.int (nI (v / 2 ^ (s_lg v))))] [] 161 (I, J, RF w)) (fun _ => rfl) ?_
    refine z_evF (by rw [hx]; decide) ?_
    refine z_evL ?_
    refine z_evG 2 (y := some (.inr (some (.int (nI (s_pn v (s_lg v)))), 161, I, J, RF w))) (fun _ => rfl) ?_
    exact z_evR (by have t := s_pn_top (s_lg_end v) (24 - s_lg v); rw [show s_lg v + (24 - s_lg v) = 24 by have := s_lg_le hv; omega] at t; rw [t])
  · show z_Ev E d z_m231 4 [some (.int (nI v)), some (.int (nI (s_pn v k))), some (.int (nI (v / 2 ^ k)))] [] 161 (I, J, RF w) _
    have hx := s_lg_lt hk
    have hd : v / 2 ^ k ≤ v := Nat.div_le_self _ _
    have nx : (True) → z_Ev E d z_m231 4 [some (.int (nI v)), some (.int (nI (s_pn v (k + 1)))), some (.int (nI (v / 2 ^ (k + 1))))] [] 161 (I, J, RF w) _ := next
    refine z_evG 2 (y := if 0 < (nI (v / 2 ^ k)) then z_go 8 [some (.int (nI v)), some (.int (nI (s_pn v k))), some (.int (nI (v / 2 ^ k)))] [] 161 (I, J, RF w) else z_go 21 [some (.int (nI v)), some (.int (nI (s_pn v k))), some (.int (nI (v / 2 ^ k)))] [] 161 (I, J, RF w)) (fun _ => rfl) ?_
    refine z_evT ((show _ ↔ 0 < v / 2 ^ k from z_ltN rfl rfl (by decide) (by omega)).mpr hx) ?_
    refine z_evL ?_
    refine z_evG 4 (y := z_ck (!decide ((2 : Int32) = 0)) (z_go 12 [some (.int (nI v)), some (.int (nI (s_pn v k))), some (.int (nI (v / 2 ^ k)))] [.int ((nI (v / 2 ^ k)) - (nI (v / 2 ^ k)) / 2 * 2), .int (nI (s_pn v k))] 161 (I, J, RF w))) (fun _ => rfl) ?_
    refine z_evC (by decide) ?_
    refine z_evL ?_
    refine z_evG 5 (y := z_ck (!decide ((2 : Int32) = 0)) (z_go 17 [some (.int (nI v)), some (.int ((nI (s_pn v k)) + ((nI (v / 2 ^ k)) - (nI (v / 2 ^ k)) / 2 * 2))), some (.int (nI (v / 2 ^ k)))] [.int ((nI (v / 2 ^ k)) / 2)] 161 (I, J, RF w))) (fun _ => rfl) ?_
    refine z_evC (by decide) ?_
    refine z_evL ?_
    refine z_evG 2 (y := z_go 4 [some (.int (nI v)), some (.int ((nI (s_pn v k)) + ((nI (v / 2 ^ k)) - (nI (v / 2 ^ k)) / 2 * 2))), some (.int ((nI (v / 2 ^ k)) / 2))] [] 161 (I, J, RF w)) (fun _ => rfl) ?_
    refine z_evL ?_
    rw [show (nI (s_pn v k) + (nI (v / 2 ^ k) - nI (v / 2 ^ k) / 2 * 2) : Int32) = nI (s_pn v (k + 1)) from z_addE rfl (z_remE (m := 2) rfl (by omega) (by decide) (by decide)), show (nI (v / 2 ^ k) / 2 : Int32) = nI (v / 2 ^ (k + 1)) from (z_divE (m := 2) rfl (by omega) (by decide) (by decide)).trans (by rw [Nat.div_div_eq_div_mul, ← Nat.pow_succ])]
    exact nx trivial
set_option maxRecDepth 20000 in
/-- LampHouse$Plates.tellsApart -/
theorem x_tellsApart (E : zE) (d : Nat) (I : Nat → Nat → Int32) (J : Nat → Nat → Int64) (w : Nat) (s : Int32) (m : Nat) (h_m : I 106 5 = nI m) (hm : m ≤ 28) : z_cl E (d + 1) 53 [.ref 106, .int s] (161, I, J, RF w) = some (some (.int (z_bo (∀ j, j < m → ¬ (I 109 j &&& s) = 0))), 161, I, J, RF w) := by
  refine z_call (d := d + 0) (M := z_m53) rfl rfl ?_
  refine z_evG 2 (y := z_go 2 [some (.ref 106), some (.int s), some (.int 0)] [] 161 (I, J, RF w)) (fun _ => rfl) ?_
  refine z_evL ?_
  refine z_loop (F := fun k => ([some (.ref 106), some (.int s), some (.int (nI k))], (I, J, RF w))) (P := fun k => ∀ j, j < k → ¬ (I 109 j &&& s) = 0) m z_all0 (fun hP => ?_) (fun k hk hP next => ?_)
  · show z_Ev E d z_m53 2 [some (.ref 106), some (.int s), some (.int (nI m))] [] 161 (I, J, RF w) _
    refine z_evG 4 (y := if (nI m) < (I 106 5) then z_go 10 [some (.ref 106), some (.int s), some (.int (nI m))] [] 161 (I, J, RF w) else z_go 29 [some (.ref 106), some (.int s), some (.int (nI m))] [] 161 (I, J, RF w)) (fun _ => rfl) ?_
    refine z_evF (mt (show _ ↔ m < m from z_ltN rfl h_m (by omega) (by omega)).mp (by omega)) ?_
    refine z_evL ?_
    refine z_evG 2 (y := some (.inr (some (.int 1), 161, I, J, RF w))) (fun _ => rfl) ?_
    exact z_evR (by rw [z_bo_t hP])
  · show z_Ev E d z_m53 2 [some (.ref 106), some (.int s), some (.int (nI k))] [] 161 (I, J, RF w) _
    have nx : (∀ j, j < (k + 1) → ¬ (I 109 j &&& s) = 0) → z_Ev E d z_m53 2 [some (.ref 106), some (.int s), some (.int (nI (k + 1)))] [] 161 (I, J, RF w) _ := next
    refine z_evG 4 (y := if (nI k) < (I 106 5) then z_go 10 [some (.ref 106), some (.int s), some (.int (nI k))] [] 161 (I, J, RF w) else z_go 29 [some (.ref 106), some (.int s), some (.int (nI k))] [] 161 (I, J, RF w)) (fun _ => rfl) ?_
    refine z_evT ((show _ ↔ k < m from z_ltN rfl h_m (by omega) (by omega)).mpr (by omega)) ?_
    refine z_evL ?_
    refine z_evG 4 (y := z_ild (z_ia E 161 (I, J, RF w) 109) (nI k) fun vv => z_go 16 [some (.ref 106), some (.int s), some (.int (nI k))] [.int vv] 161 (I, J, RF w)) (fun _ => rfl) ?_
    refine z_evBn (N := 28) (f := (I 109)) (k := k) rfl rfl (by omega) ?_
    refine z_evL ?_
    refine z_evG 3 (y := if ((I 109 k) &&& s) = 0 then z_go 21 [some (.ref 106), some (.int s), some (.int (nI k))] [] 161 (I, J, RF w) else z_go 23 [some (.ref 106), some (.int s), some (.int (nI k))] [] 161 (I, J, RF w)) (fun _ => rfl) ?_
    refine z_evI (fun h3 => ?_) (fun h3 => ?_)
    · refine z_evL ?_
      refine z_evG 2 (y := some (.inr (some (.int 0), 161, I, J, RF w))) (fun _ => rfl) ?_
      exact z_evR (by rw [z_bo_f (fun q => q k hk h3)])
    · refine z_evL ?_
      refine z_evG 2 (y := z_go 2 [some (.ref 106), some (.int s), some (.int ((nI k) + 1))] [] 161 (I, J, RF w)) (fun _ => rfl) ?_
      refine z_evL ?_
      rw [nI_1 k]
      exact nx (z_allS hP h3)
