-- CHART by the reference: its stretches
set_option maxRecDepth 20000 in
/-- LampHouseModel.chart -/
theorem m_chart_bad (E : zE) (d : Nat) (I : Nat → Nat → Int32) (J : Nat → Nat → Int64) (w : Nat) (b : Int32) (hbad : ¬ (¬ b < 0 ∧ b < 1 <<< (I 127 11 &&& 31) ∧ ¬ s_pi b 31 < 0 ∧ ¬ 8 < s_pi b 31)) : z_cl E (d + 4) 232 [.ref 127, .int b] (161, I, J, RF w) = some (some (.int (-2)), 161, I, J, RF w) := by
  refine z_call (d := d + 3) (M := z_m232) rfl rfl ?_
  refine z_evG 6 (y := z_ret (z_cl E (d + 3) 223 [.int b, .int (I 127 11), .int 0, .int 8] (161, (I, J, RF w))) 11 [some (.ref 127), some (.int b), none, none, none, none, none, none] []) (fun _ => rfl) ?_
  refine z_evK (v := .int (z_bo (¬ b < 0 ∧ b < 1 <<< ((I 127 11) &&& 31) ∧ ¬ s_pi b 31 < 0 ∧ ¬ 8 < s_pi b 31))) (z' := 161) (σ' := (I, J, RF w)) (m_isSet E (d + 1) I J w b (I 127 11) 0 8) ?_
  refine z_evG 1 (y := if (z_bo (¬ b < 0 ∧ b < 1 <<< ((I 127 11) &&& 31) ∧ ¬ s_pi b 31 < 0 ∧ ¬ 8 < s_pi b 31)) = 0 then z_go 14 [some (.ref 127), some (.int b), none, none, none, none, none, none] [] 161 (I, J, RF w) else z_go 17 [some (.ref 127), some (.int b), none, none, none, none, none, none] [] 161 (I, J, RF w)) (fun _ => rfl) ?_
  refine z_evO (fun h1 => ?_) (fun h1 => ?_)
  · refine z_evL ?_
    refine z_evG 2 (y := some (.inr (some (.int (-2)), 161, I, J, RF w))) (fun _ => rfl) ?_
    exact z_evR rfl
  · refine z_evL ?_
    exact absurd h1 hbad
set_option maxRecDepth 20000 in
theorem m_ch_r (E : zE) (d : Nat) (I : Nat → Nat → Int32) (J : Nat → Nat → Int64) (w : Nat) {r : zR} (a n : Nat) (b v : Int32) (h_n : I 127 11 = nI n) (hn : n ≤ 8) (ha : a < n) (hv : z_cl E (d + 3) 229 [.ref 127, .int (nI a)] (161, I, J, RF w) = some (some (.int v), 161, I, J, RF w)) (hz : z_Ev E (d + 3) z_m232 19 [some (.ref 127), some (.int b), some (.int (nI (a + 1))), none, none, none, none, none] [] 161 ((z_u2 I 151 a v), J, RF w) r) : z_Ev E (d + 3) z_m232 19 [some (.ref 127), some (.int b), some (.int (nI a)), none, none, none, none, none] [] 161 (I, J, RF w) r := by
  refine z_evG 4 (y := if (nI a) < (I 127 11) then z_go 27 [some (.ref 127), some (.int b), some (.int (nI a)), none, none, none, none, none] [] 161 (I, J, RF w) else z_go 44 [some (.ref 127), some (.int b), some (.int (nI a)), none, none, none, none, none] [] 161 (I, J, RF w)) (fun _ => rfl) ?_
  refine z_evT ((show _ ↔ a < n from z_ltN rfl h_n (by omega) (by omega)).mpr ha) ?_
  refine z_evL ?_
  refine z_evG 6 (y := z_ret (z_cl E (d + 3) 229 [.ref 127, .int (nI a)] (161, (I, J, RF w))) 37 [some (.ref 127), some (.int b), some (.int (nI a)), none, none, none, none, none] [.int (nI a), .ref 151]) (fun _ => rfl) ?_
  refine z_evK (v := .int v) (z' := 161) (σ' := (I, J, RF w)) hv ?_
  refine z_evG 1 (y := z_ck (z_in (nI a) 8) (z_go 38 [some (.ref 127), some (.int b), some (.int (nI a)), none, none, none, none, none] [] 161 ((z_u2 I 151 ((nI a).toNatClampNeg) v), J, RF w))) (fun _ => rfl) ?_
  refine z_evC (z_inN (k := a) rfl (by omega) (by decide)) ?_
  refine z_evL ?_
  rw [show ((nI a : Int32)).toNatClampNeg = a from z_natE rfl (by omega)]
  refine z_evG 2 (y := z_go 19 [some (.ref 127), some (.int b), some (.int ((nI a) + 1)), none, none, none, none, none] [] 161 ((z_u2 I 151 a v), J, RF w)) (fun _ => rfl) ?_
  refine z_evL ?_
  rw [nI_1 a]
  exact hz
set_option maxRecDepth 20000 in
theorem m_ch_re (E : zE) (d : Nat) (I : Nat → Nat → Int32) (J : Nat → Nat → Int64) (w : Nat) {r : zR} (a n : Nat) (b : Int32) (h_n : I 127 11 = nI n) (hn : n ≤ 8) (ha : a = n) (hz : z_Ev E (d + 3) z_m232 48 [some (.ref 127), some (.int b), some (.int (-1)), some (.int 0), none, none, none, none] [] 161 (I, J, RF w) r) : z_Ev E (d + 3) z_m232 19 [some (.ref 127), some (.int b), some (.int (nI a)), none, none, none, none, none] [] 161 (I, J, RF w) r := by
  refine z_evG 4 (y := if (nI a) < (I 127 11) then z_go 27 [some (.ref 127), some (.int b), some (.int (nI a)), none, none, none, none, none] [] 161 (I, J, RF w) else z_go 44 [some (.ref 127), some (.int b), some (.int (nI a)), none, none, none, none, none] [] 161 (I, J, RF w)) (fun _ => rfl) ?_
  refine z_evF (mt (show _ ↔ a < n from z_ltN rfl h_n (by omega) (by omega)).mp (by omega)) ?_
  refine z_evL ?_
  refine z_evG 4 (y := z_go 48 [some (.ref 127), some (.int b), some (.int (-1)), some (.int 0), none, none, none, none] [] 161 (I, J, RF w)) (fun _ => rfl) ?_
  refine z_evL ?_
  exact hz
set_option maxRecDepth 20000 in
theorem m_ch_st (E : zE) (d : Nat) (I : Nat → Nat → Int32) (J : Nat → Nat → Int64) (w : Nat) {r : zR} (b : Int32) (hb : ¬ b < 0 ∧ b < 1 <<< (I 127 11 &&& 31) ∧ ¬ s_pi b 31 < 0 ∧ ¬ 8 < s_pi b 31) (hz : z_Ev E (d + 3) z_m232 19 [some (.ref 127), some (.int b), some (.int 0), none, none, none, none, none] [] 161 (I, J, RF w) r) : z_Ev E (d + 3) z_m232 0 [some (.ref 127), some (.int b), none, none, none, none, none, none] [] 161 (I, J, RF w) r := by
  refine z_evG 6 (y := z_ret (z_cl E (d + 3) 223 [.int b, .int (I 127 11), .int 0, .int 8] (161, (I, J, RF w))) 11 [some (.ref 127), some (.int b), none, none, none, none, none, none] []) (fun _ => rfl) ?_
  refine z_evK (v := .int (z_bo (¬ b < 0 ∧ b < 1 <<< ((I 127 11) &&& 31) ∧ ¬ s_pi b 31 < 0 ∧ ¬ 8 < s_pi b 31))) (z' := 161) (σ' := (I, J, RF w)) (m_isSet E (d + 1) I J w b (I 127 11) 0 8) ?_
  refine z_evG 1 (y := if (z_bo (¬ b < 0 ∧ b < 1 <<< ((I 127 11) &&& 31) ∧ ¬ s_pi b 31 < 0 ∧ ¬ 8 < s_pi b 31)) = 0 then z_go 14 [some (.ref 127), some (.int b), none, none, none, none, none, none] [] 161 (I, J, RF w) else z_go 17 [some (.ref 127), some (.int b), none, none, none, none, none, none] [] 161 (I, J, RF w)) (fun _ => rfl) ?_
  refine z_evF (fun q0 => z_bo_0.mp q0 hb) ?_
  refine z_evL ?_
  refine z_evG 2 (y := z_go 19 [some (.ref 127), some (.int b), some (.int 0), none, none, none, none, none] [] 161 (I, J, RF w)) (fun _ => rfl) ?_
  refine z_evL ?_
  exact hz
set_option maxRecDepth 20000 in
theorem m_ch_A1 (E : zE) (d : Nat) (I : Nat → Nat → Int32) (J : Nat → Nat → Int64) (w : Nat) {r : zR} (a c : Nat) (b f s : Int32) (x7 : Option Value) (hc : c < a) (ha : a < 8) (h1 : ¬ ((b >>> (nI a &&& 31)) &&& 1) = 1) (hz : z_Ev E (d + 3) z_m232 101 [some (.ref 127), some (.int b), some (.int f), some (.int s), some (.int 1), some (.int (nI a)), some (.int (nI (c + 1))), some (.int 0)] [] 161 (I, J, RF w) r) : z_Ev E (d + 3) z_m232 101 [some (.ref 127), some (.int b), some (.int f), some (.int s), some (.int 1), some (.int (nI a)), some (.int (nI c)), x7] [] 161 (I, J, RF w) r := by
  refine z_evG 3 (y := if (nI c) < (nI a) then z_go 108 [some (.ref 127), some (.int b), some (.int f), some (.int s), some (.int 1), some (.int (nI a)), some (.int (nI c)), x7] [] 161 (I, J, RF w) else z_go 179 [some (.ref 127), some (.int b), some (.int f), some (.int s), some (.int 1), some (.int (nI a)), some (.int (nI c)), x7] [] 161 (I, J, RF w)) (fun _ => rfl) ?_
  refine z_evT ((show _ ↔ c < a from z_ltN rfl rfl (by omega) (by omega)).mpr hc) ?_
  refine z_evL ?_
  refine z_evG 7 (y := if ((b >>> ((nI a) &&& 31)) &&& 1) = 1 then z_go 118 [some (.ref 127), some (.int b), some (.int f), some (.int s), some (.int 1), some (.int (nI a)), some (.int (nI c)), x7] [] 161 (I, J, RF w) else z_go 132 [some (.ref 127), some (.int b), some (.int f), some (.int s), some (.int 1), some (.int (nI a)), some (.int (nI c)), x7] [] 161 (I, J, RF w)) (fun _ => rfl) ?_
  refine z_evF h1 ?_
  refine z_evL ?_
  refine z_evG 4 (y := if 1 = 0 then z_go 170 [some (.ref 127), some (.int b), some (.int f), some (.int s), some (.int 1), some (.int (nI a)), some (.int (nI c)), some (.int 0)] [] 161 (I, J, RF w) else z_go 140 [some (.ref 127), some (.int b), some (.int f), some (.int s), some (.int 1), some (.int (nI a)), some (.int (nI c)), some (.int 0)] [] 161 (I, J, RF w)) (fun _ => rfl) ?_
  refine z_evI (fun q => absurd q (by decide)) (fun _ => ?_)
  refine z_evL ?_
  refine z_evG 2 (y := if 0 = 0 then z_go 166 [some (.ref 127), some (.int b), some (.int f), some (.int s), some (.int 1), some (.int (nI a)), some (.int (nI c)), some (.int 0)] [] 161 (I, J, RF w) else z_go 145 [some (.ref 127), some (.int b), some (.int f), some (.int s), some (.int 1), some (.int (nI a)), some (.int (nI c)), some (.int 0)] [] 161 (I, J, RF w)) (fun _ => rfl) ?_
  refine z_evI (fun _ => ?_) (fun q => absurd (by decide) q)
  refine z_evL ?_
  refine z_evG 5 (y := z_go 101 [some (.ref 127), some (.int b), some (.int f), some (.int s), some (.int 1), some (.int (nI a)), some (.int ((nI c) + 1)), some (.int 0)] [] 161 (I, J, RF w)) (fun _ => rfl) ?_
  refine z_evL ?_
  rw [nI_1 c]
  exact hz
set_option maxRecDepth 20000 in
theorem m_ch_B1 (E : zE) (d : Nat) (I : Nat → Nat → Int32) (J : Nat → Nat → Int64) (w : Nat) {r : zR} (a c : Nat) (b f s : Int32) (x7 : Option Value) (hc : c < a) (ha : a < 8) (h1 : ((b >>> (nI a &&& 31)) &&& 1) = 1) (h2 : ¬ ((b >>> (nI c &&& 31)) &&& 1) = 1) (hz : z_Ev E (d + 3) z_m232 101 [some (.ref 127), some (.int b), some (.int f), some (.int s), some (.int 1), some (.int (nI a)), some (.int (nI (c + 1))), some (.int 0)] [] 161 (I, J, RF w) r) : z_Ev E (d + 3) z_m232 101 [some (.ref 127), some (.int b), some (.int f), some (.int s), some (.int 1), some (.int (nI a)), some (.int (nI c)), x7] [] 161 (I, J, RF w) r := by
  refine z_evG 3 (y := if (nI c) < (nI a) then z_go 108 [some (.ref 127), some (.int b), some (.int f), some (.int s), some (.int 1), some (.int (nI a)), some (.int (nI c)), x7] [] 161 (I, J, RF w) else z_go 179 [some (.ref 127), some (.int b), some (.int f), some (.int s), some (.int 1), some (.int (nI a)), some (.int (nI c)), x7] [] 161 (I, J, RF w)) (fun _ => rfl) ?_
  refine z_evT ((show _ ↔ c < a from z_ltN rfl rfl (by omega) (by omega)).mpr hc) ?_
  refine z_evL ?_
  refine z_evG 7 (y := if ((b >>> ((nI a) &&& 31)) &&& 1) = 1 then z_go 118 [some (.ref 127), some (.int b), some (.int f), some (.int s), some (.int 1), some (.int (nI a)), some (.int (nI c)), x7] [] 161 (I, J, RF w) else z_go 132 [some (.ref 127), some (.int b), some (.int f), some (.int s), some (.int 1), some (.int (nI a)), some (.int (nI c)), x7] [] 161 (I, J, RF w)) (fun _ => rfl) ?_
  refine z_evT h1 ?_
  refine z_evL ?_
  refine z_evG 7 (y := if ((b >>> ((nI c) &&& 31)) &&& 1) = 1 then z_go 128 [some (.ref 127), some (.int b), some (.int f), some (.int s), some (.int 1), some (.int (nI a)), some (.int (nI c)), x7] [] 161 (I, J, RF w) else z_go 132 [some (.ref 127), some (.int b), some (.int f), some (.int s), some (.int 1), some (.int (nI a)), some (.int (nI c)), x7] [] 161 (I, J, RF w)) (fun _ => rfl) ?_
  refine z_evF h2 ?_
  refine z_evL ?_
  refine z_evG 4 (y := if 1 = 0 then z_go 170 [some (.ref 127), some (.int b), some (.int f), some (.int s), some (.int 1), some (.int (nI a)), some (.int (nI c)), some (.int 0)] [] 161 (I, J, RF w) else z_go 140 [some (.ref 127), some (.int b), some (.int f), some (.int s), some (.int 1), some (.int (nI a)), some (.int (nI c)), some (.int 0)] [] 161 (I, J, RF w)) (fun _ => rfl) ?_
  refine z_evI (fun q => absurd q (by decide)) (fun _ => ?_)
  refine z_evL ?_
  refine z_evG 2 (y := if 0 = 0 then z_go 166 [some (.ref 127), some (.int b), some (.int f), some (.int s), some (.int 1), some (.int (nI a)), some (.int (nI c)), some (.int 0)] [] 161 (I, J, RF w) else z_go 145 [some (.ref 127), some (.int b), some (.int f), some (.int s), some (.int 1), some (.int (nI a)), some (.int (nI c)), some (.int 0)] [] 161 (I, J, RF w)) (fun _ => rfl) ?_
  refine z_evI (fun _ => ?_) (fun q => absurd (by decide) q)
  refine z_evL ?_
  refine z_evG 5 (y := z_go 101 [some (.ref 127), some (.int b), some (.int f), some (.int s), some (.int 1), some (.int (nI a)), some (.int ((nI c) + 1)), some (.int 0)] [] 161 (I, J, RF w)) (fun _ => rfl) ?_
  refine z_evL ?_
  rw [nI_1 c]
  exact hz
set_option maxRecDepth 20000 in
theorem m_ch_A0 (E : zE) (d : Nat) (I : Nat → Nat → Int32) (J : Nat → Nat → Int64) (w : Nat) {r : zR} (a c : Nat) (b f s : Int32) (x7 : Option Value) (hc : c < a) (ha : a < 8) (h1 : ¬ ((b >>> (nI a &&& 31)) &&& 1) = 1) (hz : z_Ev E (d + 3) z_m232 101 [some (.ref 127), some (.int b), some (.int f), some (.int s), some (.int 0), some (.int (nI a)), some (.int (nI (c + 1))), some (.int 0)] [] 161 (I, J, RF w) r) : z_Ev E (d + 3) z_m232 101 [some (.ref 127), some (.int b), some (.int f), some (.int s), some (.int 0), some (.int (nI a)), some (.int (nI c)), x7] [] 161 (I, J, RF w) r := by
  refine z_evG 3 (y := if (nI c) < (nI a) then z_go 108 [some (.ref 127), some (.int b), some (.int f), some (.int s), some (.int 0), some (.int (nI a)), some (.int (nI c)), x7] [] 161 (I, J, RF w) else z_go 179 [some (.ref 127), some (.int b), some (.int f), some (.int s), some (.int 0), some (.int (nI a)), some (.int (nI c)), x7] [] 161 (I, J, RF w)) (fun _ => rfl) ?_
  refine z_evT ((show _ ↔ c < a from z_ltN rfl rfl (by omega) (by omega)).mpr hc) ?_
  refine z_evL ?_
  refine z_evG 7 (y := if ((b >>> ((nI a) &&& 31)) &&& 1) = 1 then z_go 118 [some (.ref 127), some (.int b), some (.int f), some (.int s), some (.int 0), some (.int (nI a)), some (.int (nI c)), x7] [] 161 (I, J, RF w) else z_go 132 [some (.ref 127), some (.int b), some (.int f), some (.int s), some (.int 0), some (.int (nI a)), some (.int (nI c)), x7] [] 161 (I, J, RF w)) (fun _ => rfl) ?_
  refine z_evF h1 ?_
  refine z_evL ?_
  refine z_evG 4 (y := if 0 = 0 then z_go 170 [some (.ref 127), some (.int b), some (.int f), some (.int s), some (.int 0), some (.int (nI a)), some (.int (nI c)), some (.int 0)] [] 161 (I, J, RF w) else z_go 140 [some (.ref 127), some (.int b), some (.int f), some (.int s), some (.int 0), some (.int (nI a)), some (.int (nI c)), some (.int 0)] [] 161 (I, J, RF w)) (fun _ => rfl) ?_
  refine z_evI (fun _ => ?_) (fun q => absurd (by decide) q)
  refine z_evL ?_
  refine z_evG 4 (y := z_go 101 [some (.ref 127), some (.int b), some (.int f), some (.int s), some (.int 0), some (.int (nI a)), some (.int ((nI c) + 1)), some (.int 0)] [] 161 (I, J, RF w)) (fun _ => rfl) ?_
  refine z_evL ?_
  rw [nI_1 c]
  exact hz
set_option maxRecDepth 20000 in
theorem m_ch_B0 (E : zE) (d : Nat) (I : Nat → Nat → Int32) (J : Nat → Nat → Int64) (w : Nat) {r : zR} (a c : Nat) (b f s : Int32) (x7 : Option Value) (hc : c < a) (ha : a < 8) (h1 : ((b >>> (nI a &&& 31)) &&& 1) = 1) (h2 : ¬ ((b >>> (nI c &&& 31)) &&& 1) = 1) (hz : z_Ev E (d + 3) z_m232 101 [some (.ref 127), some (.int b), some (.int f), some (.int s), some (.int 0), some (.int (nI a)), some (.int (nI (c + 1))), some (.int 0)] [] 161 (I, J, RF w) r) : z_Ev E (d + 3) z_m232 101 [some (.ref 127), some (.int b), some (.int f), some (.int s), some (.int 0), some (.int (nI a)), some (.int (nI c)), x7] [] 161 (I, J, RF w) r := by
  refine z_evG 3 (y := if (nI c) < (nI a) then z_go 108 [some (.ref 127), some (.int b), some (.int f), some (.int s), some (.int 0), some (.int (nI a)), some (.int (nI c)), x7] [] 161 (I, J, RF w) else z_go 179 [some (.ref 127), some (.int b), some (.int f), some (.int s), some (.int 0), some (.int (nI a)), some (.int (nI c)), x7] [] 161 (I, J, RF w)) (fun _ => rfl) ?_
  refine z_evT ((show _ ↔ c < a from z_ltN rfl rfl (by omega) (by omega)).mpr hc) ?_
  refine z_evL ?_
  refine z_evG 7 (y := if ((b >>> ((nI a) &&& 31)) &&& 1) = 1 then z_go 118 [some (.ref 127), some (.int b), some (.int f), some (.int s), some (.int 0), some (.int (nI a)), some (.int (nI c)), x7] [] 161 (I, J, RF w) else z_go 132 [some (.ref 127), some (.int b), some (.int f), some (.int s), some (.int 0), some (.int (nI a)), some (.int (nI c)), x7] [] 161 (I, J, RF w)) (fun _ => rfl) ?_
  refine z_evT h1 ?_
  refine z_evL ?_
  refine z_evG 7 (y := if ((b >>> ((nI c) &&& 31)) &&& 1) = 1 then z_go 128 [some (.ref 127), some (.int b), some (.int f), some (.int s), some (.int 0), some (.int (nI a)), some (.int (nI c)), x7] [] 161 (I, J, RF w) else z_go 132 [some (.ref 127), some (.int b), some (.int f), some (.int s), some (.int 0), some (.int (nI a)), some (.int (nI c)), x7] [] 161 (I, J, RF w)) (fun _ => rfl) ?_
  refine z_evF h2 ?_
  refine z_evL ?_
  refine z_evG 4 (y := if 0 = 0 then z_go 170 [some (.ref 127), some (.int b), some (.int f), some (.int s), some (.int 0), some (.int (nI a)), some (.int (nI c)), some (.int 0)] [] 161 (I, J, RF w) else z_go 140 [some (.ref 127), some (.int b), some (.int f), some (.int s), some (.int 0), some (.int (nI a)), some (.int (nI c)), some (.int 0)] [] 161 (I, J, RF w)) (fun _ => rfl) ?_
  refine z_evI (fun _ => ?_) (fun q => absurd (by decide) q)
  refine z_evL ?_
  refine z_evG 4 (y := z_go 101 [some (.ref 127), some (.int b), some (.int f), some (.int s), some (.int 0), some (.int (nI a)), some (.int ((nI c) + 1)), some (.int 0)] [] 161 (I, J, RF w)) (fun _ => rfl) ?_
  refine z_evL ?_
  rw [nI_1 c]
  exact hz
set_option maxRecDepth 20000 in
theorem m_ch_C0 (E : zE) (d : Nat) (I : Nat → Nat → Int32) (J : Nat → Nat → Int64) (w : Nat) {r : zR} (a c : Nat) (b f s : Int32) (x7 : Option Value) (hc : c < a) (ha : a < 8) (h1 : ((b >>> (nI a &&& 31)) &&& 1) = 1) (h2 : ((b >>> (nI c &&& 31)) &&& 1) = 1) (hz : z_Ev E (d + 3) z_m232 101 [some (.ref 127), some (.int b), some (.int f), some (.int s), some (.int 0), some (.int (nI a)), some (.int (nI (c + 1))), some (.int 1)] [] 161 (I, J, RF w) r) : z_Ev E (d + 3) z_m232 101 [some (.ref 127), some (.int b), some (.int f), some (.int s), some (.int 0), some (.int (nI a)), some (.int (nI c)), x7] [] 161 (I, J, RF w) r := by
  refine z_evG 3 (y := if (nI c) < (nI a) then z_go 108 [some (.ref 127), some (.int b), some (.int f), some (.int s), some (.int 0), some (.int (nI a)), some (.int (nI c)), x7] [] 161 (I, J, RF w) else z_go 179 [some (.ref 127), some (.int b), some (.int f), some (.int s), some (.int 0), some (.int (nI a)), some (.int (nI c)), x7] [] 161 (I, J, RF w)) (fun _ => rfl) ?_
  refine z_evT ((show _ ↔ c < a from z_ltN rfl rfl (by omega) (by omega)).mpr hc) ?_
  refine z_evL ?_
  refine z_evG 7 (y := if ((b >>> ((nI a) &&& 31)) &&& 1) = 1 then z_go 118 [some (.ref 127), some (.int b), some (.int f), some (.int s), some (.int 0), some (.int (nI a)), some (.int (nI c)), x7] [] 161 (I, J, RF w) else z_go 132 [some (.ref 127), some (.int b), some (.int f), some (.int s), some (.int 0), some (.int (nI a)), some (.int (nI c)), x7] [] 161 (I, J, RF w)) (fun _ => rfl) ?_
  refine z_evT h1 ?_
  refine z_evL ?_
  refine z_evG 7 (y := if ((b >>> ((nI c) &&& 31)) &&& 1) = 1 then z_go 128 [some (.ref 127), some (.int b), some (.int f), some (.int s), some (.int 0), some (.int (nI a)), some (.int (nI c)), x7] [] 161 (I, J, RF w) else z_go 132 [some (.ref 127), some (.int b), some (.int f), some (.int s), some (.int 0), some (.int (nI a)), some (.int (nI c)), x7] [] 161 (I, J, RF w)) (fun _ => rfl) ?_
  refine z_evT h2 ?_
  refine z_evL ?_
  refine z_evG 5 (y := if 0 = 0 then z_go 170 [some (.ref 127), some (.int b), some (.int f), some (.int s), some (.int 0), some (.int (nI a)), some (.int (nI c)), some (.int 1)] [] 161 (I, J, RF w) else z_go 140 [some (.ref 127), some (.int b), some (.int f), some (.int s), some (.int 0), some (.int (nI a)), some (.int (nI c)), some (.int 1)] [] 161 (I, J, RF w)) (fun _ => rfl) ?_
  refine z_evI (fun _ => ?_) (fun q => absurd (by decide) q)
  refine z_evL ?_
  refine z_evG 4 (y := z_go 101 [some (.ref 127), some (.int b), some (.int f), some (.int s), some (.int 0), some (.int (nI a)), some (.int ((nI c) + 1)), some (.int 1)] [] 161 (I, J, RF w)) (fun _ => rfl) ?_
  refine z_evL ?_
  rw [nI_1 c]
  exact hz
set_option maxRecDepth 20000 in
theorem m_ch_C1e (E : zE) (d : Nat) (I : Nat → Nat → Int32) (J : Nat → Nat → Int64) (w : Nat) {r : zR} (a c : Nat) (b f s : Int32) (x7 : Option Value) (hc : c < a) (ha : a < 8) (h1 : ((b >>> (nI a &&& 31)) &&& 1) = 1) (h2 : ((b >>> (nI c &&& 31)) &&& 1) = 1) (h3 : (I 151 a &&& s) = (I 151 c &&& s)) (hz : z_Ev E (d + 3) z_m232 101 [some (.ref 127), some (.int b), some (.int f), some (.int s), some (.int 0), some (.int (nI a)), some (.int (nI (c + 1))), some (.int 1)] [] 161 (I, J, RF w) r) : z_Ev E (d + 3) z_m232 101 [some (.ref 127), some (.int b), some (.int f), some (.int s), some (.int 1), some (.int (nI a)), some (.int (nI c)), x7] [] 161 (I, J, RF w) r := by
  refine z_evG 3 (y := if (nI c) < (nI a) then z_go 108 [some (.ref 127), some (.int b), some (.int f), some (.int s), some (.int 1), some (.int (nI a)), some (.int (nI c)), x7] [] 161 (I, J, RF w) else z_go 179 [some (.ref 127), some (.int b), some (.int f), some (.int s), some (.int 1), some (.int (nI a)), some (.int (nI c)), x7] [] 161 (I, J, RF w)) (fun _ => rfl) ?_
  refine z_evT ((show _ ↔ c < a from z_ltN rfl rfl (by omega) (by omega)).mpr hc) ?_
  refine z_evL ?_
  refine z_evG 7 (y := if ((b >>> ((nI a) &&& 31)) &&& 1) = 1 then z_go 118 [some (.ref 127), some (.int b), some (.int f), some (.int s), some (.int 1), some (.int (nI a)), some (.int (nI c)), x7] [] 161 (I, J, RF w) else z_go 132 [some (.ref 127), some (.int b), some (.int f), some (.int s), some (.int 1), some (.int (nI a)), some (.int (nI c)), x7] [] 161 (I, J, RF w)) (fun _ => rfl) ?_
  refine z_evT h1 ?_
  refine z_evL ?_
  refine z_evG 7 (y := if ((b >>> ((nI c) &&& 31)) &&& 1) = 1 then z_go 128 [some (.ref 127), some (.int b), some (.int f), some (.int s), some (.int 1), some (.int (nI a)), some (.int (nI c)), x7] [] 161 (I, J, RF w) else z_go 132 [some (.ref 127), some (.int b), some (.int f), some (.int s), some (.int 1), some (.int (nI a)), some (.int (nI c)), x7] [] 161 (I, J, RF w)) (fun _ => rfl) ?_
  refine z_evT h2 ?_
  refine z_evL ?_
  refine z_evG 5 (y := if 1 = 0 then z_go 170 [some (.ref 127), some (.int b), some (.int f), some (.int s), some (.int 1), some (.int (nI a)), some (.int (nI c)), some (.int 1)] [] 161 (I, J, RF w) else z_go 140 [some (.ref 127), some (.int b), some (.int f), some (.int s), some (.int 1), some (.int (nI a)), some (.int (nI c)), some (.int 1)] [] 161 (I, J, RF w)) (fun _ => rfl) ?_
  refine z_evI (fun q => absurd q (by decide)) (fun _ => ?_)
  refine z_evL ?_
  refine z_evG 2 (y := if 1 = 0 then z_go 166 [some (.ref 127), some (.int b), some (.int f), some (.int s), some (.int 1), some (.int (nI a)), some (.int (nI c)), some (.int 1)] [] 161 (I, J, RF w) else z_go 145 [some (.ref 127), some (.int b), some (.int f), some (.int s), some (.int 1), some (.int (nI a)), some (.int (nI c)), some (.int 1)] [] 161 (I, J, RF w)) (fun _ => rfl) ?_
  refine z_evI (fun q => absurd q (by decide)) (fun _ => ?_)
  refine z_evL ?_
  refine z_evG 4 (y := z_ild (z_ia E 161 (I, J, RF w) 151) (nI a) fun vv => z_go 152 [some (.ref 127), some (.int b), some (.int f), some (.int s), some (.int 1), some (.int (nI a)), some (.int (nI c)), some (.int 1)] [.int vv] 161 (I, J, RF w)) (fun _ => rfl) ?_
  refine z_evBn (N := 8) (f := (I 151)) (k := a) rfl rfl (by omega) ?_
  refine z_evL ?_
  refine z_evG 6 (y := z_ild (z_ia E 161 (I, J, RF w) 151) (nI c) fun vv => z_go 161 [some (.ref 127), some (.int b), some (.int f), some (.int s), some (.int 1), some (.int (nI a)), some (.int (nI c)), some (.int 1)] [.int vv, .int ((I 151 a) &&& s)] 161 (I, J, RF w)) (fun _ => rfl) ?_
  refine z_evBn (N := 8) (f := (I 151)) (k := c) rfl rfl (by omega) ?_
  refine z_evL ?_
  refine z_evG 3 (y := if ((I 151 a) &&& s) = ((I 151 c) &&& s) then z_go 170 [some (.ref 127), some (.int b), some (.int f), some (.int s), some (.int 1), some (.int (nI a)), some (.int (nI c)), some (.int 1)] [] 161 (I, J, RF w) else z_go 166 [some (.ref 127), some (.int b), some (.int f), some (.int s), some (.int 1), some (.int (nI a)), some (.int (nI c)), some (.int 1)] [] 161 (I, J, RF w)) (fun _ => rfl) ?_
  refine z_evT h3 ?_
  refine z_evL ?_
  refine z_evG 4 (y := z_go 101 [some (.ref 127), some (.int b), some (.int f), some (.int s), some (.int 0), some (.int (nI a)), some (.int ((nI c) + 1)), some (.int 1)] [] 161 (I, J, RF w)) (fun _ => rfl) ?_
  refine z_evL ?_
  rw [nI_1 c]
  exact hz
set_option maxRecDepth 20000 in
theorem m_ch_C1n (E : zE) (d : Nat) (I : Nat → Nat → Int32) (J : Nat → Nat → Int64) (w : Nat) {r : zR} (a c : Nat) (b f s : Int32) (x7 : Option Value) (hc : c < a) (ha : a < 8) (h1 : ((b >>> (nI a &&& 31)) &&& 1) = 1) (h2 : ((b >>> (nI c &&& 31)) &&& 1) = 1) (h3 : ¬ (I 151 a &&& s) = (I 151 c &&& s)) (hz : z_Ev E (d + 3) z_m232 101 [some (.ref 127), some (.int b), some (.int f), some (.int s), some (.int 1), some (.int (nI a)), some (.int (nI (c + 1))), some (.int 1)] [] 161 (I, J, RF w) r) : z_Ev E (d + 3) z_m232 101 [some (.ref 127), some (.int b), some (.int f), some (.int s), some (.int 1), some (.int (nI a)), some (.int (nI c)), x7] [] 161 (I, J, RF w) r := by
  refine z_evG 3 (y := if (nI c) < (nI a) then z_go 108 [some (.ref 127), some (.int b), some (.int f), some (.int s), some (.int 1), some (.int (nI a)), some (.int (nI c)), x7] [] 161 (I, J, RF w) else z_go 179 [some (.ref 127), some (.int b), some (.int f), some (.int s), some (.int 1), some (.int (nI a)), some (.int (nI c)), x7] [] 161 (I, J, RF w)) (fun _ => rfl) ?_
  refine z_evT ((show _ ↔ c < a from z_ltN rfl rfl (by omega) (by omega)).mpr hc) ?_
  refine z_evL ?_
  refine z_evG 7 (y := if ((b >>> ((nI a) &&& 31)) &&& 1) = 1 then z_go 118 [some (.ref 127), some (.int b), some (.int f), some (.int s), some (.int 1), some (.int (nI a)), some (.int (nI c)), x7] [] 161 (I, J, RF w) else z_go 132 [some (.ref 127), some (.int b), some (.int f), some (.int s), some (.int 1), some (.int (nI a)), some (.int (nI c)), x7] [] 161 (I, J, RF w)) (fun _ => rfl) ?_
  refine z_evT h1 ?_
  refine z_evL ?_
  refine z_evG 7 (y := if ((b >>> ((nI c) &&& 31)) &&& 1) = 1 then z_go 128 [some (.ref 127), some (.int b), some (.int f), some (.int s), some (.int 1), some (.int (nI a)), some (.int (nI c)), x7] [] 161 (I, J, RF w) else z_go 132 [some (.ref 127), some (.int b), some (.int f), some (.int s), some (.int 1), some (.int (nI a)), some (.int (nI c)), x7] [] 161 (I, J, RF w)) (fun _ => rfl) ?_
  refine z_evT h2 ?_
  refine z_evL ?_
  refine z_evG 5 (y := if 1 = 0 then z_go 170 [some (.ref 127), some (.int b), some (.int f), some (.int s), some (.int 1), some (.int (nI a)), some (.int (nI c)), some (.int 1)] [] 161 (I, J, RF w) else z_go 140 [some (.ref 127), some (.int b), some (.int f), some (.int s), some (.int 1), some (.int (nI a)), some (.int (nI c)), some (.int 1)] [] 161 (I, J, RF w)) (fun _ => rfl) ?_
  refine z_evI (fun q => absurd q (by decide)) (fun _ => ?_)
  refine z_evL ?_
  refine z_evG 2 (y := if 1 = 0 then z_go 166 [some (.ref 127), some (.int b), some (.int f), some (.int s), some (.int 1), some (.int (nI a)), some (.int (nI c)), some (.int 1)] [] 161 (I, J, RF w) else z_go 145 [some (.ref 127), some (.int b), some (.int f), some (.int s), some (.int 1), some (.int (nI a)), some (.int (nI c)), some (.int 1)] [] 161 (I, J, RF w)) (fun _ => rfl) ?_
  refine z_evI (fun q => absurd q (by decide)) (fun _ => ?_)
  refine z_evL ?_
  refine z_evG 4 (y := z_ild (z_ia E 161 (I, J, RF w) 151) (nI a) fun vv => z_go 152 [some (.ref 127), some (.int b), some (.int f), some (.int s), some (.int 1), some (.int (nI a)), some (.int (nI c)), some (.int 1)] [.int vv] 161 (I, J, RF w)) (fun _ => rfl) ?_
  refine z_evBn (N := 8) (f := (I 151)) (k := a) rfl rfl (by omega) ?_
  refine z_evL ?_
  refine z_evG 6 (y := z_ild (z_ia E 161 (I, J, RF w) 151) (nI c) fun vv => z_go 161 [some (.ref 127), some (.int b), some (.int f), some (.int s), some (.int 1), some (.int (nI a)), some (.int (nI c)), some (.int 1)] [.int vv, .int ((I 151 a) &&& s)] 161 (I, J, RF w)) (fun _ => rfl) ?_
  refine z_evBn (N := 8) (f := (I 151)) (k := c) rfl rfl (by omega) ?_
  refine z_evL ?_
  refine z_evG 3 (y := if ((I 151 a) &&& s) = ((I 151 c) &&& s) then z_go 170 [some (.ref 127), some (.int b), some (.int f), some (.int s), some (.int 1), some (.int (nI a)), some (.int (nI c)), some (.int 1)] [] 161 (I, J, RF w) else z_go 166 [some (.ref 127), some (.int b), some (.int f), some (.int s), some (.int 1), some (.int (nI a)), some (.int (nI c)), some (.int 1)] [] 161 (I, J, RF w)) (fun _ => rfl) ?_
  refine z_evF h3 ?_
  refine z_evL ?_
  refine z_evG 5 (y := z_go 101 [some (.ref 127), some (.int b), some (.int f), some (.int s), some (.int 1), some (.int (nI a)), some (.int ((nI c) + 1)), some (.int 1)] [] 161 (I, J, RF w)) (fun _ => rfl) ?_
  refine z_evL ?_
  rw [nI_1 c]
  exact hz
set_option maxRecDepth 20000 in
theorem m_ch_ie (E : zE) (d : Nat) (I : Nat → Nat → Int32) (J : Nat → Nat → Int64) (w : Nat) {r : zR} (a c : Nat) (b f s : Int32) (x7 : Option Value) (t : Int32) (hc : c = a) (ha : a < 8) (hz : z_Ev E (d + 3) z_m232 84 [some (.ref 127), some (.int b), some (.int f), some (.int s), some (.int t), some (.int (nI (a + 1))), some (.int (nI c)), x7] [] 161 (I, J, RF w) r) : z_Ev E (d + 3) z_m232 101 [some (.ref 127), some (.int b), some (.int f), some (.int s), some (.int t), some (.int (nI a)), some (.int (nI c)), x7] [] 161 (I, J, RF w) r := by
  refine z_evG 3 (y := if (nI c) < (nI a) then z_go 108 [some (.ref 127), some (.int b), some (.int f), some (.int s), some (.int t), some (.int (nI a)), some (.int (nI c)), x7] [] 161 (I, J, RF w) else z_go 179 [some (.ref 127), some (.int b), some (.int f), some (.int s), some (.int t), some (.int (nI a)), some (.int (nI c)), x7] [] 161 (I, J, RF w)) (fun _ => rfl) ?_
  refine z_evF (mt (show _ ↔ c < a from z_ltN rfl rfl (by omega) (by omega)).mp (by omega)) ?_
  refine z_evL ?_
  refine z_evG 2 (y := z_go 84 [some (.ref 127), some (.int b), some (.int f), some (.int s), some (.int t), some (.int ((nI a) + 1)), some (.int (nI c)), x7] [] 161 (I, J, RF w)) (fun _ => rfl) ?_
  refine z_evL ?_
  rw [nI_1 a]
  exact hz
