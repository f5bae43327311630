-- HIDDEN by the class: the search
theorem z_and3 {y : Nat} (h : y < 2 ^ 31) : nI y &&& 3 = nI (y % 4) := by
  rw [show (3 : Int32) = nI 3 from rfl, z_and h (by decide)]
  congr 1
  exact Nat.and_two_pow_sub_one_eq_mod y 2
theorem z_shr {x k : Nat} (hx : x < 2 ^ 31) (hk : k < 32) : (nI x >>> (nI k &&& 31)) = nI (x / 2 ^ k) := by
  apply Int32.toBitVec_inj.1
  apply BitVec.eq_of_toNat_eq
  show (BitVec.sshiftRight (BitVec.ofNat 32 x) ((nI k &&& 31).toBitVec.smod 32).toNat).toNat = (BitVec.ofNat 32 (x / 2 ^ k)).toNat
  rw [z_shk k hk, BitVec.sshiftRight_eq_of_msb_false (z_msb hx), BitVec.toNat_ushiftRight, BitVec.toNat_ofNat, BitVec.toNat_ofNat, Nat.shiftRight_eq_div_pow, Nat.mod_eq_of_lt (show x < 2 ^ 32 by omega)]
  have := Nat.div_le_self x (2 ^ k)
  rw [Nat.mod_eq_of_lt (by omega)]
def s_dgt (h i : Nat) : Nat := h / 4 ^ i % 4
theorem s_dgt_le (h i : Nat) : s_dgt h i ≤ 3 := by unfold s_dgt; omega
theorem s_dr_n {h i : Nat} (hh : h < 2 ^ 31) (hi : i < 16) : (nI h >>> ((2 * nI i) &&& 31)) &&& 3 = nI (s_dgt h i) := by
  have := Nat.div_le_self h (2 ^ (2 * i))
  rw [show (2 : Int32) * nI i = nI (2 * i) from z_mul 2 i, z_shr hh (by omega), z_and3 (by omega)]
  unfold s_dgt
  rw [show 4 ^ i = 2 ^ (2 * i) by rw [Nat.pow_mul]]
theorem z_A_115 : z_A 115 8 := by unfold z_A; decide
theorem z_A_116 : z_A 116 8 := by unfold z_A; decide
set_option maxRecDepth 20000 in
theorem x_sr_a (E : zE) (d : Nat) (I : Nat → Nat → Int32) (J : Nat → Nat → Int64) (w : Nat) {r : zR}  (hz : z_Ev E (d + 2) z_m31 63 [some (.ref 110), some (.int 0), none] [] 161 ((z_u2 (z_ur (z_ur (z_ur I 115 (z_fil (I 115) 0 8 (fun _ => 3))) 116 (z_fil (I 116) 0 8 (fun _ => 0))) 114 (z_fil (I 114) 0 256 (fun _ => 0))) 110 8 0), (z_ur (z_ur J 112 (z_fil (J 112) 0 256 (s_wf J 0))) 113 (z_fil ((z_ur J 112 (z_fil (J 112) 0 256 (s_wf J 0))) 113) 0 256 (s_wf (z_ur J 112 (z_fil (J 112) 0 256 (s_wf J 0))) 4))), RF w) r) : z_Ev E (d + 2) z_m31 0 [some (.ref 110), none, none] [] 161 (I, J, RF w) r := by
  refine z_evG 5 (y := z_ret (z_cl E (d + 2) 32 [.ref 110, .int 0, .ref 112] (161, (I, J, RF w))) 9 [some (.ref 110), none, none] []) (fun _ => rfl) ?_
  refine z_evV (z' := 161) (σ' := (I, (z_ur J 112 (z_fil (J 112) 0 256 (s_wf J 0))), RF w)) (x_weigh_0 E d I J w) ?_
  refine z_evG 5 (y := z_ret (z_cl E (d + 2) 32 [.ref 110, .int 4, .ref 113] (161, (I, (z_ur J 112 (z_fil (J 112) 0 256 (s_wf J 0))), RF w))) 18 [some (.ref 110), none, none] []) (fun _ => rfl) ?_
  refine z_evV (z' := 161) (σ' := (I, (z_ur (z_ur J 112 (z_fil (J 112) 0 256 (s_wf J 0))) 113 (z_fil ((z_ur J 112 (z_fil (J 112) 0 256 (s_wf J 0))) 113) 0 256 (s_wf (z_ur J 112 (z_fil (J 112) 0 256 (s_wf J 0))) 4))), RF w)) (x_weigh_4 E d I (z_ur J 112 (z_fil (J 112) 0 256 (s_wf J 0))) w) ?_
  refine z_evG 4 (y := z_ret (z_cl E (d + 2) 282 [.ref 115, .int 3] (161, (I, (z_ur (z_ur J 112 (z_fil (J 112) 0 256 (s_wf J 0))) 113 (z_fil ((z_ur J 112 (z_fil (J 112) 0 256 (s_wf J 0))) 113) 0 256 (s_wf (z_ur J 112 (z_fil (J 112) 0 256 (s_wf J 0))) 4))), RF w))) 26 [some (.ref 110), none, none] []) (fun _ => rfl) ?_
  refine z_evV (z' := 161) (σ' := ((z_ur I 115 (z_fil (I 115) 0 8 (fun _ => 3))), (z_ur (z_ur J 112 (z_fil (J 112) 0 256 (s_wf J 0))) 113 (z_fil ((z_ur J 112 (z_fil (J 112) 0 256 (s_wf J 0))) 113) 0 256 (s_wf (z_ur J 112 (z_fil (J 112) 0 256 (s_wf J 0))) 4))), RF w)) (x_fill8 E (d + 1) I (z_ur (z_ur J 112 (z_fil (J 112) 0 256 (s_wf J 0))) 113 (z_fil ((z_ur J 112 (z_fil (J 112) 0 256 (s_wf J 0))) 113) 0 256 (s_wf (z_ur J 112 (z_fil (J 112) 0 256 (s_wf J 0))) 4))) w 115 3 z_A_115) ?_
  refine z_evG 4 (y := z_ret (z_cl E (d + 2) 282 [.ref 116, .int 0] (161, ((z_ur I 115 (z_fil (I 115) 0 8 (fun _ => 3))), (z_ur (z_ur J 112 (z_fil (J 112) 0 256 (s_wf J 0))) 113 (z_fil ((z_ur J 112 (z_fil (J 112) 0 256 (s_wf J 0))) 113) 0 256 (s_wf (z_ur J 112 (z_fil (J 112) 0 256 (s_wf J 0))) 4))), RF w))) 34 [some (.ref 110), none, none] []) (fun _ => rfl) ?_
  refine z_evV (z' := 161) (σ' := ((z_ur (z_ur I 115 (z_fil (I 115) 0 8 (fun _ => 3))) 116 (z_fil (I 116) 0 8 (fun _ => 0))), (z_ur (z_ur J 112 (z_fil (J 112) 0 256 (s_wf J 0))) 113 (z_fil ((z_ur J 112 (z_fil (J 112) 0 256 (s_wf J 0))) 113) 0 256 (s_wf (z_ur J 112 (z_fil (J 112) 0 256 (s_wf J 0))) 4))), RF w)) (x_fill8 E (d + 1) (z_ur I 115 (z_fil (I 115) 0 8 (fun _ => 3))) (z_ur (z_ur J 112 (z_fil (J 112) 0 256 (s_wf J 0))) 113 (z_fil ((z_ur J 112 (z_fil (J 112) 0 256 (s_wf J 0))) 113) 0 256 (s_wf (z_ur J 112 (z_fil (J 112) 0 256 (s_wf J 0))) 4))) w 116 0 z_A_116) ?_
  refine z_evG 2 (y := z_go 36 [some (.ref 110), some (.int 0), none] [] 161 ((z_ur (z_ur I 115 (z_fil (I 115) 0 8 (fun _ => 3))) 116 (z_fil (I 116) 0 8 (fun _ => 0))), (z_ur (z_ur J 112 (z_fil (J 112) 0 256 (s_wf J 0))) 113 (z_fil ((z_ur J 112 (z_fil (J 112) 0 256 (s_wf J 0))) 113) 0 256 (s_wf (z_ur J 112 (z_fil (J 112) 0 256 (s_wf J 0))) 4))), RF w)) (fun _ => rfl) ?_
  refine z_evL ?_
  have st0 : ∀ m0, m0 = 0 → ∀ qz, z_Ev E (d + 2) z_m31 36 [some (.ref 110), some (.int (nI m0)), none] [] 161 ((z_ur (z_ur (z_ur I 115 (z_fil (I 115) 0 8 (fun _ => 3))) 116 (z_fil (I 116) 0 8 (fun _ => 0))) 114 (z_fil (I 114) 0 m0 (fun _ => 0))), (z_ur (z_ur J 112 (z_fil (J 112) 0 256 (s_wf J 0))) 113 (z_fil ((z_ur J 112 (z_fil (J 112) 0 256 (s_wf J 0))) 113) 0 256 (s_wf (z_ur J 112 (z_fil (J 112) 0 256 (s_wf J 0))) 4))), RF w) qz → z_Ev E (d + 2) z_m31 36 [some (.ref 110), some (.int 0), none] [] 161 ((z_ur (z_ur I 115 (z_fil (I 115) 0 8 (fun _ => 3))) 116 (z_fil (I 116) 0 8 (fun _ => 0))), (z_ur (z_ur J 112 (z_fil (J 112) 0 256 (s_wf J 0))) 113 (z_fil ((z_ur J 112 (z_fil (J 112) 0 256 (s_wf J 0))) 113) 0 256 (s_wf (z_ur J 112 (z_fil (J 112) 0 256 (s_wf J 0))) 4))), RF w) qz := by intro m0 hm0 qz h; rw [hm0, show z_ur (z_ur (z_ur I 115 (z_fil (I 115) 0 8 (fun _ => 3))) 116 (z_fil (I 116) 0 8 (fun _ => 0))) 114 (z_fil (I 114) 0 0 (fun _ => 0)) = z_ur (z_ur I 115 (z_fil (I 115) 0 8 (fun _ => 3))) 116 (z_fil (I 116) 0 8 (fun _ => 0)) from z_fil_0 (z_ur (z_ur I 115 (z_fil (I 115) 0 8 (fun _ => 3))) 116 (z_fil (I 116) 0 8 (fun _ => 0))) 114 0 (fun _ => (0 : Int32))] at h; subst hm0; exact h
  refine st0 0 rfl _ ?_
  refine z_loop (F := fun k => ([some (.ref 110), some (.int (nI k)), none], ((z_ur (z_ur (z_ur I 115 (z_fil (I 115) 0 8 (fun _ => 3))) 116 (z_fil (I 116) 0 8 (fun _ => 0))) 114 (z_fil (I 114) 0 k (fun _ => 0))), (z_ur (z_ur J 112 (z_fil (J 112) 0 256 (s_wf J 0))) 113 (z_fil ((z_ur J 112 (z_fil (J 112) 0 256 (s_wf J 0))) 113) 0 256 (s_wf (z_ur J 112 (z_fil (J 112) 0 256 (s_wf J 0))) 4))), RF w))) (P := fun k => True) 256 trivial (fun hP => ?_) (fun k hk hP next => ?_)
  · show z_Ev E (d + 2) z_m31 36 [some (.ref 110), some (.int (nI 256)), none] [] 161 ((z_ur (z_ur (z_ur I 115 (z_fil (I 115) 0 8 (fun _ => 3))) 116 (z_fil (I 116) 0 8 (fun _ => 0))) 114 (z_fil (I 114) 0 256 (fun _ => 0))), (z_ur (z_ur J 112 (z_fil (J 112) 0 256 (s_wf J 0))) 113 (z_fil ((z_ur J 112 (z_fil (J 112) 0 256 (s_wf J 0))) 113) 0 256 (s_wf (z_ur J 112 (z_fil (J 112) 0 256 (s_wf J 0))) 4))), RF w) _
    refine z_evG 3 (y := if (nI 256) < 256 then z_go 43 [some (.ref 110), some (.int (nI 256)), none] [] 161 ((z_ur (z_ur (z_ur I 115 (z_fil (I 115) 0 8 (fun _ => 3))) 116 (z_fil (I 116) 0 8 (fun _ => 0))) 114 (z_fil (I 114) 0 256 (fun _ => 0))), (z_ur (z_ur J 112 (z_fil (J 112) 0 256 (s_wf J 0))) 113 (z_fil ((z_ur J 112 (z_fil (J 112) 0 256 (s_wf J 0))) 113) 0 256 (s_wf (z_ur J 112 (z_fil (J 112) 0 256 (s_wf J 0))) 4))), RF w) else z_go 56 [some (.ref 110), some (.int (nI 256)), none] [] 161 ((z_ur (z_ur (z_ur I 115 (z_fil (I 115) 0 8 (fun _ => 3))) 116 (z_fil (I 116) 0 8 (fun _ => 0))) 114 (z_fil (I 114) 0 256 (fun _ => 0))), (z_ur (z_ur J 112 (z_fil (J 112) 0 256 (s_wf J 0))) 113 (z_fil ((z_ur J 112 (z_fil (J 112) 0 256 (s_wf J 0))) 113) 0 256 (s_wf (z_ur J 112 (z_fil (J 112) 0 256 (s_wf J 0))) 4))), RF w)) (fun _ => rfl) ?_
    refine z_evF (mt (show _ ↔ 256 < 256 from z_ltN rfl rfl (by omega) (by omega)).mp (by omega)) ?_
    refine z_evL ?_
    refine z_evG 5 (y := z_go 63 [some (.ref 110), some (.int 0), none] [] 161 ((z_u2 (z_ur (z_ur (z_ur I 115 (z_fil (I 115) 0 8 (fun _ => 3))) 116 (z_fil (I 116) 0 8 (fun _ => 0))) 114 (z_fil (I 114) 0 256 (fun _ => 0))) 110 8 0), (z_ur (z_ur J 112 (z_fil (J 112) 0 256 (s_wf J 0))) 113 (z_fil ((z_ur J 112 (z_fil (J 112) 0 256 (s_wf J 0))) 113) 0 256 (s_wf (z_ur J 112 (z_fil (J 112) 0 256 (s_wf J 0))) 4))), RF w)) (fun _ => rfl) ?_
    refine z_evL ?_
    exact hz
  · show z_Ev E (d + 2) z_m31 36 [some (.ref 110), some (.int (nI k)), none] [] 161 ((z_ur (z_ur (z_ur I 115 (z_fil (I 115) 0 8 (fun _ => 3))) 116 (z_fil (I 116) 0 8 (fun _ => 0))) 114 (z_fil (I 114) 0 k (fun _ => 0))), (z_ur (z_ur J 112 (z_fil (J 112) 0 256 (s_wf J 0))) 113 (z_fil ((z_ur J 112 (z_fil (J 112) 0 256 (s_wf J 0))) 113) 0 256 (s_wf (z_ur J 112 (z_fil (J 112) 0 256 (s_wf J 0))) 4))), RF w) _
    have nx : (True) → z_Ev E (d + 2) z_m31 36 [some (.ref 110), some (.int (nI (k + 1))), none] [] 161 ((z_ur (z_ur (z_ur I 115 (z_fil (I 115) 0 8 (fun _ => 3))) 116 (z_fil (I 116) 0 8 (fun _ => 0))) 114 (z_fil (I 114) 0 (k + 1) (fun _ => 0))), (z_ur (z_ur J 112 (z_fil (J 112) 0 256 (s_wf J 0))) 113 (z_fil ((z_ur J 112 (z_fil (J 112) 0 256 (s_wf J 0))) 113) 0 256 (s_wf (z_ur J 112 (z_fil (J 112) 0 256 (s_wf J 0))) 4))), RF w) _ := next
    refine z_evG 3 (y := if (nI k) < 256 then z_go 43 [some (.ref 110), some (.int (nI k)), none] [] 161 ((z_ur (z_ur (z_ur I 115 (z_fil (I 115) 0 8 (fun _ => 3))) 116 (z_fil (I 116) 0 8 (fun _ => 0))) 114 (z_fil (I 114) 0 k (fun _ => 0))), (z_ur (z_ur J 112 (z_fil (J 112) 0 256 (s_wf J 0))) 113 (z_fil ((z_ur J 112 (z_fil (J 112) 0 256 (s_wf J 0))) 113) 0 256 (s_wf (z_ur J 112 (z_fil (J 112) 0 256 (s_wf J 0))) 4))), RF w) else z_go 56 [some (.ref 110), some (.int (nI k)), none] [] 161 ((z_ur (z_ur (z_ur I 115 (z_fil (I 115) 0 8 (fun _ => 3))) 116 (z_fil (I 116) 0 8 (fun _ => 0))) 114 (z_fil (I 114) 0 k (fun _ => 0))), (z_ur (z_ur J 112 (z_fil (J 112) 0 256 (s_wf J 0))) 113 (z_fil ((z_ur J 112 (z_fil (J 112) 0 256 (s_wf J 0))) 113) 0 256 (s_wf (z_ur J 112 (z_fil (J 112) 0 256 (s_wf J 0))) 4))), RF w)) (fun _ => rfl) ?_
    refine z_evT ((show _ ↔ k < 256 from z_ltN rfl rfl (by omega) (by omega)).mpr (by omega)) ?_
    refine z_evL ?_
    refine z_evG 5 (y := z_ck (z_in (nI k) 256 && z_b01 0) (z_go 50 [some (.ref 110), some (.int (nI k)), none] [] 161 ((z_u2 (z_ur (z_ur (z_ur I 115 (z_fil (I 115) 0 8 (fun _ => 3))) 116 (z_fil (I 116) 0 8 (fun _ => 0))) 114 (z_fil (I 114) 0 k (fun _ => 0))) 114 ((nI k).toNatClampNeg) 0), (z_ur (z_ur J 112 (z_fil (J 112) 0 256 (s_wf J 0))) 113 (z_fil ((z_ur J 112 (z_fil (J 112) 0 256 (s_wf J 0))) 113) 0 256 (s_wf (z_ur J 112 (z_fil (J 112) 0 256 (s_wf J 0))) 4))), RF w))) (fun _ => rfl) ?_
    refine z_evC (by rw [z_inN (k := k) rfl (by omega) (by decide)]; rfl) ?_
    refine z_evL ?_
    rw [show ((nI k : Int32)).toNatClampNeg = k from z_natE rfl (by omega)]
    refine z_evG 2 (y := z_go 36 [some (.ref 110), some (.int ((nI k) + 1)), none] [] 161 ((z_u2 (z_ur (z_ur (z_ur I 115 (z_fil (I 115) 0 8 (fun _ => 3))) 116 (z_fil (I 116) 0 8 (fun _ => 0))) 114 (z_fil (I 114) 0 k (fun _ => 0))) 114 k 0), (z_ur (z_ur J 112 (z_fil (J 112) 0 256 (s_wf J 0))) 113 (z_fil ((z_ur J 112 (z_fil (J 112) 0 256 (s_wf J 0))) 113) 0 256 (s_wf (z_ur J 112 (z_fil (J 112) 0 256 (s_wf J 0))) 4))), RF w)) (fun _ => rfl) ?_
    refine z_evL ?_
    have e : z_u2 (z_ur (z_ur (z_ur I 115 (z_fil (I 115) 0 8 (fun _ => 3))) 116 (z_fil (I 116) 0 8 (fun _ => 0))) 114 (z_fil (I 114) 0 k (fun _ => 0))) 114 k 0 = z_ur (z_ur (z_ur I 115 (z_fil (I 115) 0 8 (fun _ => 3))) 116 (z_fil (I 116) 0 8 (fun _ => 0))) 114 (z_fil (I 114) 0 (k + 1) (fun _ => 0)) := by have t := z_fil_s (z_ur (z_ur I 115 (z_fil (I 115) 0 8 (fun _ => 3))) 116 (z_fil (I 116) 0 8 (fun _ => 0))) 114 0 k (fun _ => (0 : Int32)); rw [Nat.zero_add] at t; exact t
    rw [nI_1 k]
    rw [← e] at nx
    exact nx trivial
set_option maxRecDepth 20000 in
theorem x_sr_y (E : zE) (d : Nat) (I : Nat → Nat → Int32) (J : Nat → Nat → Int64) (w : Nat) {r : zR} (a : Nat) (x2 : Option Value) (I1 : Nat → Nat → Int32) (ha : a < 256) (hT : I 110 8 < I 110 8 + nI (s_ct (fun j => decide (J 113 j = J 110 1 - J 112 a)) 256)) (hn : z_cl E (d + 2) 34 [.ref 110, .int (nI a), .int 0] (161, (z_u2 (z_ur I 114 (s_mk (I 114) (fun j => decide (J 113 j = ((J 110 1) - (J 112 a)))) 256)) 110 8 (I 110 8 + nI (s_ct (fun j => decide (J 113 j = ((J 110 1) - (J 112 a)))) 256))), J, RF w) = some (none, 161, I1, J, RF w)) (hz : z_Ev E (d + 2) z_m31 63 [some (.ref 110), some (.int (nI (a + 1))), some (.int (I 110 8))] [] 161 (I1, J, RF w) r) : z_Ev E (d + 2) z_m31 63 [some (.ref 110), some (.int (nI a)), x2] [] 161 (I, J, RF w) r := by
  refine z_evG 3 (y := if (nI a) < 256 then z_go 70 [some (.ref 110), some (.int (nI a)), x2] [] 161 (I, J, RF w) else z_go 110 [some (.ref 110), some (.int (nI a)), x2] [] 161 (I, J, RF w)) (fun _ => rfl) ?_
  refine z_evT ((show _ ↔ a < 256 from z_ltN rfl rfl (by omega) (by omega)).mpr ha) ?_
  refine z_evL ?_
  refine z_evG 10 (y := z_ck (z_in (nI a) 256) (z_go 86 [some (.ref 110), some (.int (nI a)), some (.int (I 110 8))] [.long (J 112 ((nI a).toNatClampNeg)), .long (J 110 1), .ref 110] 161 (I, J, RF w))) (fun _ => rfl) ?_
  refine z_evC (z_inN (k := a) rfl (by omega) (by decide)) ?_
  refine z_evL ?_
  rw [show ((nI a : Int32)).toNatClampNeg = a from z_natE rfl (by omega)]
  refine z_evG 2 (y := z_ret (z_cl E (d + 2) 33 [.ref 110, .long ((J 110 1) - (J 112 a))] (161, (I, J, RF w))) 90 [some (.ref 110), some (.int (nI a)), some (.int (I 110 8))] []) (fun _ => rfl) ?_
  refine z_evV (z' := 161) (σ' := ((z_u2 (z_ur I 114 (s_mk (I 114) (fun j => decide (J 113 j = ((J 110 1) - (J 112 a)))) 256)) 110 8 (I 110 8 + nI (s_ct (fun j => decide (J 113 j = ((J 110 1) - (J 112 a)))) 256))), J, RF w)) (x_tryWith E (d + 1) I J w ((J 110 1) - (J 112 a))) ?_
  refine z_evG 4 (y := if (I 110 8) < (I 110 8 + nI (s_ct (fun j => decide (J 113 j = ((J 110 1) - (J 112 a)))) 256)) then z_go 98 [some (.ref 110), some (.int (nI a)), some (.int (I 110 8))] [] 161 ((z_u2 (z_ur I 114 (s_mk (I 114) (fun j => decide (J 113 j = ((J 110 1) - (J 112 a)))) 256)) 110 8 (I 110 8 + nI (s_ct (fun j => decide (J 113 j = ((J 110 1) - (J 112 a)))) 256))), J, RF w) else z_go 104 [some (.ref 110), some (.int (nI a)), some (.int (I 110 8))] [] 161 ((z_u2 (z_ur I 114 (s_mk (I 114) (fun j => decide (J 113 j = ((J 110 1) - (J 112 a)))) 256)) 110 8 (I 110 8 + nI (s_ct (fun j => decide (J 113 j = ((J 110 1) - (J 112 a)))) 256))), J, RF w)) (fun _ => rfl) ?_
  refine z_evT hT ?_
  refine z_evL ?_
  refine z_evG 4 (y := z_ret (z_cl E (d + 2) 34 [.ref 110, .int (nI a), .int 0] (161, ((z_u2 (z_ur I 114 (s_mk (I 114) (fun j => decide (J 113 j = ((J 110 1) - (J 112 a)))) 256)) 110 8 (I 110 8 + nI (s_ct (fun j => decide (J 113 j = ((J 110 1) - (J 112 a)))) 256))), J, RF w))) 104 [some (.ref 110), some (.int (nI a)), some (.int (I 110 8))] []) (fun _ => rfl) ?_
  refine z_evV (z' := 161) (σ' := (I1, J, RF w)) hn ?_
  refine z_evG 2 (y := z_go 63 [some (.ref 110), some (.int ((nI a) + 1)), some (.int (I 110 8))] [] 161 (I1, J, RF w)) (fun _ => rfl) ?_
  refine z_evL ?_
  rw [nI_1 a]
  exact hz
set_option maxRecDepth 20000 in
theorem x_sr_n (E : zE) (d : Nat) (I : Nat → Nat → Int32) (J : Nat → Nat → Int64) (w : Nat) {r : zR} (a : Nat) (x2 : Option Value) (ha : a < 256) (hT : ¬ I 110 8 < I 110 8 + nI (s_ct (fun j => decide (J 113 j = J 110 1 - J 112 a)) 256)) (hz : z_Ev E (d + 2) z_m31 63 [some (.ref 110), some (.int (nI (a + 1))), some (.int (I 110 8))] [] 161 ((z_u2 (z_ur I 114 (s_mk (I 114) (fun j => decide (J 113 j = ((J 110 1) - (J 112 a)))) 256)) 110 8 (I 110 8 + nI (s_ct (fun j => decide (J 113 j = ((J 110 1) - (J 112 a)))) 256))), J, RF w) r) : z_Ev E (d + 2) z_m31 63 [some (.ref 110), some (.int (nI a)), x2] [] 161 (I, J, RF w) r := by
  refine z_evG 3 (y := if (nI a) < 256 then z_go 70 [some (.ref 110), some (.int (nI a)), x2] [] 161 (I, J, RF w) else z_go 110 [some (.ref 110), some (.int (nI a)), x2] [] 161 (I, J, RF w)) (fun _ => rfl) ?_
  refine z_evT ((show _ ↔ a < 256 from z_ltN rfl rfl (by omega) (by omega)).mpr ha) ?_
  refine z_evL ?_
  refine z_evG 10 (y := z_ck (z_in (nI a) 256) (z_go 86 [some (.ref 110), some (.int (nI a)), some (.int (I 110 8))] [.long (J 112 ((nI a).toNatClampNeg)), .long (J 110 1), .ref 110] 161 (I, J, RF w))) (fun _ => rfl) ?_
  refine z_evC (z_inN (k := a) rfl (by omega) (by decide)) ?_
  refine z_evL ?_
  rw [show ((nI a : Int32)).toNatClampNeg = a from z_natE rfl (by omega)]
  refine z_evG 2 (y := z_ret (z_cl E (d + 2) 33 [.ref 110, .long ((J 110 1) - (J 112 a))] (161, (I, J, RF w))) 90 [some (.ref 110), some (.int (nI a)), some (.int (I 110 8))] []) (fun _ => rfl) ?_
  refine z_evV (z' := 161) (σ' := ((z_u2 (z_ur I 114 (s_mk (I 114) (fun j => decide (J 113 j = ((J 110 1) - (J 112 a)))) 256)) 110 8 (I 110 8 + nI (s_ct (fun j => decide (J 113 j = ((J 110 1) - (J 112 a)))) 256))), J, RF w)) (x_tryWith E (d + 1) I J w ((J 110 1) - (J 112 a))) ?_
  refine z_evG 4 (y := if (I 110 8) < (I 110 8 + nI (s_ct (fun j => decide (J 113 j = ((J 110 1) - (J 112 a)))) 256)) then z_go 98 [some (.ref 110), some (.int (nI a)), some (.int (I 110 8))] [] 161 ((z_u2 (z_ur I 114 (s_mk (I 114) (fun j => decide (J 113 j = ((J 110 1) - (J 112 a)))) 256)) 110 8 (I 110 8 + nI (s_ct (fun j => decide (J 113 j = ((J 110 1) - (J 112 a)))) 256))), J, RF w) else z_go 104 [some (.ref 110), some (.int (nI a)), some (.int (I 110 8))] [] 161 ((z_u2 (z_ur I 114 (s_mk (I 114) (fun j => decide (J 113 j = ((J 110 1) - (J 112 a)))) 256)) 110 8 (I 110 8 + nI (s_ct (fun j => decide (J 113 j = ((J 110 1) - (J 112 a)))) 256))), J, RF w)) (fun _ => rfl) ?_
  refine z_evF hT ?_
  refine z_evL ?_
  refine z_evG 2 (y := z_go 63 [some (.ref 110), some (.int ((nI a) + 1)), some (.int (I 110 8))] [] 161 ((z_u2 (z_ur I 114 (s_mk (I 114) (fun j => decide (J 113 j = ((J 110 1) - (J 112 a)))) 256)) 110 8 (I 110 8 + nI (s_ct (fun j => decide (J 113 j = ((J 110 1) - (J 112 a)))) 256))), J, RF w)) (fun _ => rfl) ?_
  refine z_evL ?_
  rw [nI_1 a]
  exact hz
set_option maxRecDepth 20000 in
theorem x_sr_e (E : zE) (d : Nat) (I : Nat → Nat → Int32) (J : Nat → Nat → Int64) (w : Nat) {r : zR} (a : Nat) (x2 : Option Value) (ha : a = 256) (hz : z_Ev E (d + 2) z_m31 112 [some (.ref 110), some (.int 0), x2] [] 161 (I, J, RF w) r) : z_Ev E (d + 2) z_m31 63 [some (.ref 110), some (.int (nI a)), x2] [] 161 (I, J, RF w) r := by
  refine z_evG 3 (y := if (nI a) < 256 then z_go 70 [some (.ref 110), some (.int (nI a)), x2] [] 161 (I, J, RF w) else z_go 110 [some (.ref 110), some (.int (nI a)), x2] [] 161 (I, J, RF w)) (fun _ => rfl) ?_
  refine z_evF (mt (show _ ↔ a < 256 from z_ltN rfl rfl (by omega) (by omega)).mp (by omega)) ?_
  refine z_evL ?_
  refine z_evG 2 (y := z_go 112 [some (.ref 110), some (.int 0), x2] [] 161 (I, J, RF w)) (fun _ => rfl) ?_
  refine z_evL ?_
  exact hz
set_option maxRecDepth 20000 in
theorem x_sr_by (E : zE) (d : Nat) (I : Nat → Nat → Int32) (J : Nat → Nat → Int64) (w : Nat) {r : zR} (a : Nat) (x2 : Option Value) (I1 : Nat → Nat → Int32) (ha : a < 256) (hT : ¬ I 114 a = 0) (hn : z_cl E (d + 2) 34 [.ref 110, .int (nI a), .int 4] (161, I, J, RF w) = some (none, 161, I1, J, RF w)) (hz : z_Ev E (d + 2) z_m31 112 [some (.ref 110), some (.int (nI (a + 1))), x2] [] 161 (I1, J, RF w) r) : z_Ev E (d + 2) z_m31 112 [some (.ref 110), some (.int (nI a)), x2] [] 161 (I, J, RF w) r := by
  refine z_evG 3 (y := if (nI a) < 256 then z_go 119 [some (.ref 110), some (.int (nI a)), x2] [] 161 (I, J, RF w) else z_go 140 [some (.ref 110), some (.int (nI a)), x2] [] 161 (I, J, RF w)) (fun _ => rfl) ?_
  refine z_evT ((show _ ↔ a < 256 from z_ltN rfl rfl (by omega) (by omega)).mpr ha) ?_
  refine z_evL ?_
  refine z_evG 4 (y := z_ild (z_ba 161 (I, J, RF w) 114) (nI a) fun vv => z_go 125 [some (.ref 110), some (.int (nI a)), x2] [.int vv] 161 (I, J, RF w)) (fun _ => rfl) ?_
  refine z_evBn (N := 256) (f := (I 114)) (k := a) rfl rfl (by omega) ?_
  refine z_evL ?_
  refine z_evG 1 (y := if (I 114 a) = 0 then z_go 134 [some (.ref 110), some (.int (nI a)), x2] [] 161 (I, J, RF w) else z_go 128 [some (.ref 110), some (.int (nI a)), x2] [] 161 (I, J, RF w)) (fun _ => rfl) ?_
  refine z_evF hT ?_
  refine z_evL ?_
  refine z_evG 4 (y := z_ret (z_cl E (d + 2) 34 [.ref 110, .int (nI a), .int 4] (161, (I, J, RF w))) 134 [some (.ref 110), some (.int (nI a)), x2] []) (fun _ => rfl) ?_
  refine z_evV (z' := 161) (σ' := (I1, J, RF w)) hn ?_
  refine z_evG 2 (y := z_go 112 [some (.ref 110), some (.int ((nI a) + 1)), x2] [] 161 (I1, J, RF w)) (fun _ => rfl) ?_
  refine z_evL ?_
  rw [nI_1 a]
  exact hz
set_option maxRecDepth 20000 in
theorem x_sr_bn (E : zE) (d : Nat) (I : Nat → Nat → Int32) (J : Nat → Nat → Int64) (w : Nat) {r : zR} (a : Nat) (x2 : Option Value) (ha : a < 256) (hT : I 114 a = 0) (hz : z_Ev E (d + 2) z_m31 112 [some (.ref 110), some (.int (nI (a + 1))), x2] [] 161 (I, J, RF w) r) : z_Ev E (d + 2) z_m31 112 [some (.ref 110), some (.int (nI a)), x2] [] 161 (I, J, RF w) r := by
  refine z_evG 3 (y := if (nI a) < 256 then z_go 119 [some (.ref 110), some (.int (nI a)), x2] [] 161 (I, J, RF w) else z_go 140 [some (.ref 110), some (.int (nI a)), x2] [] 161 (I, J, RF w)) (fun _ => rfl) ?_
  refine z_evT ((show _ ↔ a < 256 from z_ltN rfl rfl (by omega) (by omega)).mpr ha) ?_
  refine z_evL ?_
  refine z_evG 4 (y := z_ild (z_ba 161 (I, J, RF w) 114) (nI a) fun vv => z_go 125 [some (.ref 110), some (.int (nI a)), x2] [.int vv] 161 (I, J, RF w)) (fun _ => rfl) ?_
  refine z_evBn (N := 256) (f := (I 114)) (k := a) rfl rfl (by omega) ?_
  refine z_evL ?_
  refine z_evG 1 (y := if (I 114 a) = 0 then z_go 134 [some (.ref 110), some (.int (nI a)), x2] [] 161 (I, J, RF w) else z_go 128 [some (.ref 110), some (.int (nI a)), x2] [] 161 (I, J, RF w)) (fun _ => rfl) ?_
  refine z_evT hT ?_
  refine z_evL ?_
  refine z_evG 2 (y := z_go 112 [some (.ref 110), some (.int ((nI a) + 1)), x2] [] 161 (I, J, RF w)) (fun _ => rfl) ?_
  refine z_evL ?_
  rw [nI_1 a]
  exact hz
set_option maxRecDepth 20000 in
theorem x_sr_be (E : zE) (d : Nat) (I : Nat → Nat → Int32) (J : Nat → Nat → Int64) (w : Nat) (a : Nat) (x2 : Option Value) (ha : a = 256) : z_Ev E (d + 2) z_m31 112 [some (.ref 110), some (.int (nI a)), x2] [] 161 (I, J, RF w) (none, 161, I, J, RF w) := by
  refine z_evG 3 (y := if (nI a) < 256 then z_go 119 [some (.ref 110), some (.int (nI a)), x2] [] 161 (I, J, RF w) else z_go 140 [some (.ref 110), some (.int (nI a)), x2] [] 161 (I, J, RF w)) (fun _ => rfl) ?_
  refine z_evF (mt (show _ ↔ a < 256 from z_ltN rfl rfl (by omega) (by omega)).mp (by omega)) ?_
  refine z_evL ?_
  refine z_evG 1 (y := some (.inr (none, 161, I, J, RF w))) (fun _ => rfl) ?_
  exact z_evR rfl
