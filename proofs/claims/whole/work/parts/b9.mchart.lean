-- CHART by the reference: more stretches
set_option maxRecDepth 20000 in
theorem m_ch_oi (E : zE) (d : Nat) (I : Nat → Nat → Int32) (J : Nat → Nat → Int64) (w : Nat) {r : zR} (a n : Nat) (b f s : Int32) (x6 x7 : Option Value) (h_n : I 127 11 = nI n) (hn : n ≤ 8) (ha : a < n) (hz : z_Ev E (d + 3) z_m232 101 [some (.ref 127), some (.int b), some (.int f), some (.int s), some (.int 1), some (.int (nI a)), some (.int 0), x7] [] 161 (I, J, RF w) r) : z_Ev E (d + 3) z_m232 84 [some (.ref 127), some (.int b), some (.int f), some (.int s), some (.int 1), some (.int (nI a)), x6, x7] [] 161 (I, J, RF w) r := by
  refine z_evG 4 (y := if (nI a) < (I 127 11) then z_go 93 [some (.ref 127), some (.int b), some (.int f), some (.int s), some (.int 1), some (.int (nI a)), x6, x7] [] 161 (I, J, RF w) else z_go 185 [some (.ref 127), some (.int b), some (.int f), some (.int s), some (.int 1), some (.int (nI a)), x6, x7] [] 161 (I, J, RF w)) (fun _ => rfl) ?_
  refine z_evT ((show _ ↔ a < n from z_ltN rfl h_n (by omega) (by omega)).mpr ha) ?_
  refine z_evL ?_
  refine z_evG 2 (y := if 1 = 0 then z_go 185 [some (.ref 127), some (.int b), some (.int f), some (.int s), some (.int 1), some (.int (nI a)), x6, x7] [] 161 (I, J, RF w) else z_go 98 [some (.ref 127), some (.int b), some (.int f), some (.int s), some (.int 1), some (.int (nI a)), x6, x7] [] 161 (I, J, RF w)) (fun _ => rfl) ?_
  refine z_evI (fun q => absurd q (by decide)) (fun _ => ?_)
  refine z_evL ?_
  refine z_evG 2 (y := z_go 101 [some (.ref 127), some (.int b), some (.int f), some (.int s), some (.int 1), some (.int (nI a)), some (.int 0), x7] [] 161 (I, J, RF w)) (fun _ => rfl) ?_
  refine z_evL ?_
  exact hz
set_option maxRecDepth 20000 in
theorem m_ch_o0 (E : zE) (d : Nat) (I : Nat → Nat → Int32) (J : Nat → Nat → Int64) (w : Nat) {r : zR} (a n : Nat) (b f s : Int32) (x6 x7 : Option Value) (h_n : I 127 11 = nI n) (hn : n ≤ 8) (ha : a < n) (hz : z_Ev E (d + 3) z_m232 48 [some (.ref 127), some (.int b), some (.int f), some (.int (s + 1)), some (.int 0), some (.int (nI a)), x6, x7] [] 161 (I, J, RF w) r) : z_Ev E (d + 3) z_m232 84 [some (.ref 127), some (.int b), some (.int f), some (.int s), some (.int 0), some (.int (nI a)), x6, x7] [] 161 (I, J, RF w) r := by
  refine z_evG 4 (y := if (nI a) < (I 127 11) then z_go 93 [some (.ref 127), some (.int b), some (.int f), some (.int s), some (.int 0), some (.int (nI a)), x6, x7] [] 161 (I, J, RF w) else z_go 185 [some (.ref 127), some (.int b), some (.int f), some (.int s), some (.int 0), some (.int (nI a)), x6, x7] [] 161 (I, J, RF w)) (fun _ => rfl) ?_
  refine z_evT ((show _ ↔ a < n from z_ltN rfl h_n (by omega) (by omega)).mpr ha) ?_
  refine z_evL ?_
  refine z_evG 2 (y := if 0 = 0 then z_go 185 [some (.ref 127), some (.int b), some (.int f), some (.int s), some (.int 0), some (.int (nI a)), x6, x7] [] 161 (I, J, RF w) else z_go 98 [some (.ref 127), some (.int b), some (.int f), some (.int s), some (.int 0), some (.int (nI a)), x6, x7] [] 161 (I, J, RF w)) (fun _ => rfl) ?_
  refine z_evI (fun _ => ?_) (fun q => absurd (by decide) q)
  refine z_evL ?_
  refine z_evG 2 (y := if 0 = 0 then z_go 194 [some (.ref 127), some (.int b), some (.int f), some (.int s), some (.int 0), some (.int (nI a)), x6, x7] [] 161 (I, J, RF w) else z_go 190 [some (.ref 127), some (.int b), some (.int f), some (.int s), some (.int 0), some (.int (nI a)), x6, x7] [] 161 (I, J, RF w)) (fun _ => rfl) ?_
  refine z_evI (fun _ => ?_) (fun q => absurd (by decide) q)
  refine z_evL ?_
  refine z_evG 4 (y := z_go 48 [some (.ref 127), some (.int b), some (.int f), some (.int (s + 1)), some (.int 0), some (.int (nI a)), x6, x7] [] 161 (I, J, RF w)) (fun _ => rfl) ?_
  refine z_evL ?_
  exact hz
set_option maxRecDepth 20000 in
theorem m_ch_e0 (E : zE) (d : Nat) (I : Nat → Nat → Int32) (J : Nat → Nat → Int64) (w : Nat) {r : zR} (a n : Nat) (b f s : Int32) (x6 x7 : Option Value) (h_n : I 127 11 = nI n) (hn : n ≤ 8) (ha : a = n) (hz : z_Ev E (d + 3) z_m232 48 [some (.ref 127), some (.int b), some (.int f), some (.int (s + 1)), some (.int 0), some (.int (nI a)), x6, x7] [] 161 (I, J, RF w) r) : z_Ev E (d + 3) z_m232 84 [some (.ref 127), some (.int b), some (.int f), some (.int s), some (.int 0), some (.int (nI a)), x6, x7] [] 161 (I, J, RF w) r := by
  refine z_evG 4 (y := if (nI a) < (I 127 11) then z_go 93 [some (.ref 127), some (.int b), some (.int f), some (.int s), some (.int 0), some (.int (nI a)), x6, x7] [] 161 (I, J, RF w) else z_go 185 [some (.ref 127), some (.int b), some (.int f), some (.int s), some (.int 0), some (.int (nI a)), x6, x7] [] 161 (I, J, RF w)) (fun _ => rfl) ?_
  refine z_evF (mt (show _ ↔ a < n from z_ltN rfl h_n (by omega) (by omega)).mp (by omega)) ?_
  refine z_evL ?_
  refine z_evG 2 (y := if 0 = 0 then z_go 194 [some (.ref 127), some (.int b), some (.int f), some (.int s), some (.int 0), some (.int (nI a)), x6, x7] [] 161 (I, J, RF w) else z_go 190 [some (.ref 127), some (.int b), some (.int f), some (.int s), some (.int 0), some (.int (nI a)), x6, x7] [] 161 (I, J, RF w)) (fun _ => rfl) ?_
  refine z_evI (fun _ => ?_) (fun q => absurd (by decide) q)
  refine z_evL ?_
  refine z_evG 4 (y := z_go 48 [some (.ref 127), some (.int b), some (.int f), some (.int (s + 1)), some (.int 0), some (.int (nI a)), x6, x7] [] 161 (I, J, RF w)) (fun _ => rfl) ?_
  refine z_evL ?_
  exact hz
set_option maxRecDepth 20000 in
theorem m_ch_e1 (E : zE) (d : Nat) (I : Nat → Nat → Int32) (J : Nat → Nat → Int64) (w : Nat) {r : zR} (a n : Nat) (b f s : Int32) (x6 x7 : Option Value) (h_n : I 127 11 = nI n) (hn : n ≤ 8) (ha : a = n) (hz : z_Ev E (d + 3) z_m232 48 [some (.ref 127), some (.int b), some (.int s), some (.int (s + 1)), some (.int 1), some (.int (nI a)), x6, x7] [] 161 (I, J, RF w) r) : z_Ev E (d + 3) z_m232 84 [some (.ref 127), some (.int b), some (.int f), some (.int s), some (.int 1), some (.int (nI a)), x6, x7] [] 161 (I, J, RF w) r := by
  refine z_evG 4 (y := if (nI a) < (I 127 11) then z_go 93 [some (.ref 127), some (.int b), some (.int f), some (.int s), some (.int 1), some (.int (nI a)), x6, x7] [] 161 (I, J, RF w) else z_go 185 [some (.ref 127), some (.int b), some (.int f), some (.int s), some (.int 1), some (.int (nI a)), x6, x7] [] 161 (I, J, RF w)) (fun _ => rfl) ?_
  refine z_evF (mt (show _ ↔ a < n from z_ltN rfl h_n (by omega) (by omega)).mp (by omega)) ?_
  refine z_evL ?_
  refine z_evG 2 (y := if 1 = 0 then z_go 194 [some (.ref 127), some (.int b), some (.int f), some (.int s), some (.int 1), some (.int (nI a)), x6, x7] [] 161 (I, J, RF w) else z_go 190 [some (.ref 127), some (.int b), some (.int f), some (.int s), some (.int 1), some (.int (nI a)), x6, x7] [] 161 (I, J, RF w)) (fun _ => rfl) ?_
  refine z_evI (fun q => absurd q (by decide)) (fun _ => ?_)
  refine z_evL ?_
  refine z_evG 5 (y := z_go 48 [some (.ref 127), some (.int b), some (.int s), some (.int (s + 1)), some (.int 1), some (.int (nI a)), x6, x7] [] 161 (I, J, RF w)) (fun _ => rfl) ?_
  refine z_evL ?_
  exact hz
set_option maxRecDepth 20000 in
theorem m_ch_s1 (E : zE) (d : Nat) (I : Nat → Nat → Int32) (J : Nat → Nat → Int64) (w : Nat) {r : zR} (v q : Nat) (b : Int32) (x4 x5 x6 x7 : Option Value) (h_q : I 127 43 = nI q) (hq : q ≤ 10) (h2 : 2 ^ q ≤ 2 ^ 10) (hv : v < 2 ^ q) (hz : z_Ev E (d + 3) z_m232 84 [some (.ref 127), some (.int b), some (.int (-1)), some (.int (nI v)), some (.int 1), some (.int 0), x6, x7] [] 161 (I, J, RF w) r) : z_Ev E (d + 3) z_m232 48 [some (.ref 127), some (.int b), some (.int (-1)), some (.int (nI v)), x4, x5, x6, x7] [] 161 (I, J, RF w) r := by
  refine z_evG 6 (y := if (nI v) < (1 <<< ((I 127 43) &&& 31)) then z_go 58 [some (.ref 127), some (.int b), some (.int (-1)), some (.int (nI v)), x4, x5, x6, x7] [] 161 (I, J, RF w) else z_go 202 [some (.ref 127), some (.int b), some (.int (-1)), some (.int (nI v)), x4, x5, x6, x7] [] 161 (I, J, RF w)) (fun _ => rfl) ?_
  refine z_evT ((show _ ↔ v < 2 ^ q from z_ltN rfl (by rw [h_q]; exact z_one_shl q (by omega)) (by omega) (by omega)).mpr hv) ?_
  refine z_evL ?_
  refine z_evG 3 (y := if (-1) = (-1) then z_go 74 [some (.ref 127), some (.int b), some (.int (-1)), some (.int (nI v)), x4, x5, x6, x7] [] 161 (I, J, RF w) else z_go 63 [some (.ref 127), some (.int b), some (.int (-1)), some (.int (nI v)), x4, x5, x6, x7] [] 161 (I, J, RF w)) (fun _ => rfl) ?_
  refine z_evI (fun _ => ?_) (fun q => absurd (by decide) q)
  refine z_evL ?_
  refine z_evG 5 (y := z_go 84 [some (.ref 127), some (.int b), some (.int (-1)), some (.int (nI v)), some (.int 1), some (.int 0), x6, x7] [] 161 (I, J, RF w)) (fun _ => rfl) ?_
  refine z_evL ?_
  exact hz
set_option maxRecDepth 20000 in
theorem m_ch_sl (E : zE) (d : Nat) (I : Nat → Nat → Int32) (J : Nat → Nat → Int64) (w : Nat) {r : zR} (j : Nat) (v q : Nat) (b : Int32) (x4 x5 x6 x7 : Option Value) (h_q : I 127 43 = nI q) (hq : q ≤ 10) (h2 : 2 ^ q ≤ 2 ^ 10) (hv : v < 2 ^ q) (hj : j < 2 ^ 10) (hl : s_pn v 24 < s_pn j 24) (hz : z_Ev E (d + 3) z_m232 84 [some (.ref 127), some (.int b), some (.int (nI j)), some (.int (nI v)), some (.int 1), some (.int 0), x6, x7] [] 161 (I, J, RF w) r) : z_Ev E (d + 3) z_m232 48 [some (.ref 127), some (.int b), some (.int (nI j)), some (.int (nI v)), x4, x5, x6, x7] [] 161 (I, J, RF w) r := by
  refine z_evG 6 (y := if (nI v) < (1 <<< ((I 127 43) &&& 31)) then z_go 58 [some (.ref 127), some (.int b), some (.int (nI j)), some (.int (nI v)), x4, x5, x6, x7] [] 161 (I, J, RF w) else z_go 202 [some (.ref 127), some (.int b), some (.int (nI j)), some (.int (nI v)), x4, x5, x6, x7] [] 161 (I, J, RF w)) (fun _ => rfl) ?_
  refine z_evT ((show _ ↔ v < 2 ^ q from z_ltN rfl (by rw [h_q]; exact z_one_shl q (by omega)) (by omega) (by omega)).mpr hv) ?_
  refine z_evL ?_
  refine z_evG 3 (y := if (nI j) = (-1) then z_go 74 [some (.ref 127), some (.int b), some (.int (nI j)), some (.int (nI v)), x4, x5, x6, x7] [] 161 (I, J, RF w) else z_go 63 [some (.ref 127), some (.int b), some (.int (nI j)), some (.int (nI v)), x4, x5, x6, x7] [] 161 (I, J, RF w)) (fun _ => rfl) ?_
  refine z_evF (z_nneg rfl (by omega) (by decide)) ?_
  refine z_evL ?_
  refine z_evG 2 (y := z_ret (z_cl E (d + 3) 231 [.int (nI v)] (161, (I, J, RF w))) 67 [some (.ref 127), some (.int b), some (.int (nI j)), some (.int (nI v)), x4, x5, x6, x7] []) (fun _ => rfl) ?_
  refine z_evK (v := .int (nI (s_pn v 24))) (z' := 161) (σ' := (I, J, RF w)) (m_ones E (d + 2) I J w v (by omega)) ?_
  refine z_evG 2 (y := z_ret (z_cl E (d + 3) 231 [.int (nI j)] (161, (I, J, RF w))) 71 [some (.ref 127), some (.int b), some (.int (nI j)), some (.int (nI v)), x4, x5, x6, x7] [.int (nI (s_pn v 24))]) (fun _ => rfl) ?_
  refine z_evK (v := .int (nI (s_pn j 24))) (z' := 161) (σ' := (I, J, RF w)) (m_ones E (d + 2) I J w j (by omega)) ?_
  refine z_evG 1 (y := if (nI (s_pn v 24)) < (nI (s_pn j 24)) then z_go 74 [some (.ref 127), some (.int b), some (.int (nI j)), some (.int (nI v)), x4, x5, x6, x7] [] 161 (I, J, RF w) else z_go 78 [some (.ref 127), some (.int b), some (.int (nI j)), some (.int (nI v)), x4, x5, x6, x7] [] 161 (I, J, RF w)) (fun _ => rfl) ?_
  refine z_evT ((show _ ↔ s_pn v 24 < s_pn j 24 from z_ltN rfl rfl (by have := s_pn_le v 24; omega) (by have := s_pn_le j 24; omega)).mpr hl) ?_
  refine z_evL ?_
  refine z_evG 5 (y := z_go 84 [some (.ref 127), some (.int b), some (.int (nI j)), some (.int (nI v)), some (.int 1), some (.int 0), x6, x7] [] 161 (I, J, RF w)) (fun _ => rfl) ?_
  refine z_evL ?_
  exact hz
set_option maxRecDepth 20000 in
theorem m_ch_sg (E : zE) (d : Nat) (I : Nat → Nat → Int32) (J : Nat → Nat → Int64) (w : Nat) {r : zR} (j : Nat) (v q : Nat) (b : Int32) (x4 x5 x6 x7 : Option Value) (h_q : I 127 43 = nI q) (hq : q ≤ 10) (h2 : 2 ^ q ≤ 2 ^ 10) (hv : v < 2 ^ q) (hj : j < 2 ^ 10) (hl : ¬ s_pn v 24 < s_pn j 24) (hz : z_Ev E (d + 3) z_m232 84 [some (.ref 127), some (.int b), some (.int (nI j)), some (.int (nI v)), some (.int 0), some (.int 0), x6, x7] [] 161 (I, J, RF w) r) : z_Ev E (d + 3) z_m232 48 [some (.ref 127), some (.int b), some (.int (nI j)), some (.int (nI v)), x4, x5, x6, x7] [] 161 (I, J, RF w) r := by
  refine z_evG 6 (y := if (nI v) < (1 <<< ((I 127 43) &&& 31)) then z_go 58 [some (.ref 127), some (.int b), some (.int (nI j)), some (.int (nI v)), x4, x5, x6, x7] [] 161 (I, J, RF w) else z_go 202 [some (.ref 127), some (.int b), some (.int (nI j)), some (.int (nI v)), x4, x5, x6, x7] [] 161 (I, J, RF w)) (fun _ => rfl) ?_
  refine z_evT ((show _ ↔ v < 2 ^ q from z_ltN rfl (by rw [h_q]; exact z_one_shl q (by omega)) (by omega) (by omega)).mpr hv) ?_
  refine z_evL ?_
  refine z_evG 3 (y := if (nI j) = (-1) then z_go 74 [some (.ref 127), some (.int b), some (.int (nI j)), some (.int (nI v)), x4, x5, x6, x7] [] 161 (I, J, RF w) else z_go 63 [some (.ref 127), some (.int b), some (.int (nI j)), some (.int (nI v)), x4, x5, x6, x7] [] 161 (I, J, RF w)) (fun _ => rfl) ?_
  refine z_evF (z_nneg rfl (by omega) (by decide)) ?_
  refine z_evL ?_
  refine z_evG 2 (y := z_ret (z_cl E (d + 3) 231 [.int (nI v)] (161, (I, J, RF w))) 67 [some (.ref 127), some (.int b), some (.int (nI j)), some (.int (nI v)), x4, x5, x6, x7] []) (fun _ => rfl) ?_
  refine z_evK (v := .int (nI (s_pn v 24))) (z' := 161) (σ' := (I, J, RF w)) (m_ones E (d + 2) I J w v (by omega)) ?_
  refine z_evG 2 (y := z_ret (z_cl E (d + 3) 231 [.int (nI j)] (161, (I, J, RF w))) 71 [some (.ref 127), some (.int b), some (.int (nI j)), some (.int (nI v)), x4, x5, x6, x7] [.int (nI (s_pn v 24))]) (fun _ => rfl) ?_
  refine z_evK (v := .int (nI (s_pn j 24))) (z' := 161) (σ' := (I, J, RF w)) (m_ones E (d + 2) I J w j (by omega)) ?_
  refine z_evG 1 (y := if (nI (s_pn v 24)) < (nI (s_pn j 24)) then z_go 74 [some (.ref 127), some (.int b), some (.int (nI j)), some (.int (nI v)), x4, x5, x6, x7] [] 161 (I, J, RF w) else z_go 78 [some (.ref 127), some (.int b), some (.int (nI j)), some (.int (nI v)), x4, x5, x6, x7] [] 161 (I, J, RF w)) (fun _ => rfl) ?_
  refine z_evF (mt (show _ ↔ s_pn v 24 < s_pn j 24 from z_ltN rfl rfl (by have := s_pn_le v 24; omega) (by have := s_pn_le j 24; omega)).mp hl) ?_
  refine z_evL ?_
  refine z_evG 4 (y := z_go 84 [some (.ref 127), some (.int b), some (.int (nI j)), some (.int (nI v)), some (.int 0), some (.int 0), x6, x7] [] 161 (I, J, RF w)) (fun _ => rfl) ?_
  refine z_evL ?_
  exact hz
set_option maxRecDepth 20000 in
theorem m_ch_end (E : zE) (d : Nat) (I : Nat → Nat → Int32) (J : Nat → Nat → Int64) (w : Nat) (v q : Nat) (b : Int32) (x4 x5 x6 x7 : Option Value) (f : Int32) (h_q : I 127 43 = nI q) (hq : q ≤ 10) (h2 : 2 ^ q ≤ 2 ^ 10) (hv : v = 2 ^ q) : z_Ev E (d + 3) z_m232 48 [some (.ref 127), some (.int b), some (.int f), some (.int (nI v)), x4, x5, x6, x7] [] 161 (I, J, RF w) (some (.int f), 161, I, J, RF w) := by
  refine z_evG 6 (y := if (nI v) < (1 <<< ((I 127 43) &&& 31)) then z_go 58 [some (.ref 127), some (.int b), some (.int f), some (.int (nI v)), x4, x5, x6, x7] [] 161 (I, J, RF w) else z_go 202 [some (.ref 127), some (.int b), some (.int f), some (.int (nI v)), x4, x5, x6, x7] [] 161 (I, J, RF w)) (fun _ => rfl) ?_
  refine z_evF (mt (show _ ↔ v < 2 ^ q from z_ltN rfl (by rw [h_q]; exact z_one_shl q (by omega)) (by omega) (by omega)).mp (by omega)) ?_
  refine z_evL ?_
  refine z_evG 2 (y := some (.inr (some (.int f), 161, I, J, RF w))) (fun _ => rfl) ?_
  exact z_evR rfl
