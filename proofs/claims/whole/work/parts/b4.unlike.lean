-- CHART: the pairs of eyes
set_option maxRecDepth 20000 in
theorem x_fu_no1 (E : zE) (d : Nat) (I : Nat → Nat → Int32) (J : Nat → Nat → Int64) (w : Nat) {r : zR} (a c n : Nat) (b : Int32) (h_n : I 65 3 = nI n) (hn : n ≤ 8) (hc : c < n) (ha : a < n) (h1 : ¬ ((b >>> (nI a &&& 31)) &&& 1) = 1) (hz : z_Ev E (d + 4) z_m52 22 [some (.ref 106), some (.int b), some (.int (nI a)), some (.int (nI (c + 1)))] [] 161 (I, J, RF w) r) : z_Ev E (d + 4) z_m52 22 [some (.ref 106), some (.int b), some (.int (nI a)), some (.int (nI c))] [] 161 (I, J, RF w) r := by
  refine z_evG 4 (y := z_ret (z_cl E (d + 4) 14 [.ref 65] (161, (I, J, RF w))) 30 [some (.ref 106), some (.int b), some (.int (nI a)), some (.int (nI c))] [.int (nI c)]) (fun _ => rfl) ?_
  refine z_evK (v := .int (I 65 3)) (z' := 161) (σ' := (I, J, RF w)) (x_eyes_size E (d + 3) I J w) ?_
  refine z_evG 1 (y := if (nI c) < (I 65 3) then z_go 33 [some (.ref 106), some (.int b), some (.int (nI a)), some (.int (nI c))] [] 161 (I, J, RF w) else z_go 97 [some (.ref 106), some (.int b), some (.int (nI a)), some (.int (nI c))] [] 161 (I, J, RF w)) (fun _ => rfl) ?_
  refine z_evT ((show _ ↔ c < n from z_ltN rfl h_n (by omega) (by omega)).mpr hc) ?_
  refine z_evL ?_
  refine z_evG 3 (y := z_ret (z_cl E (d + 4) 175 [.int b, .int (nI a)] (161, (I, J, RF w))) 38 [some (.ref 106), some (.int b), some (.int (nI a)), some (.int (nI c))] []) (fun _ => rfl) ?_
  refine z_evK (v := .int (z_bo (((b >>> ((nI a) &&& 31)) &&& 1) = 1))) (z' := 161) (σ' := (I, J, RF w)) (x_isTold E (d + 3) I J w b (nI a)) ?_
  refine z_evG 1 (y := if (z_bo (((b >>> ((nI a) &&& 31)) &&& 1) = 1)) = 0 then z_go 91 [some (.ref 106), some (.int b), some (.int (nI a)), some (.int (nI c))] [] 161 (I, J, RF w) else z_go 41 [some (.ref 106), some (.int b), some (.int (nI a)), some (.int (nI c))] [] 161 (I, J, RF w)) (fun _ => rfl) ?_
  refine z_evT (z_bo_0.mpr h1) ?_
  refine z_evL ?_
  refine z_evG 2 (y := z_go 22 [some (.ref 106), some (.int b), some (.int (nI a)), some (.int ((nI c) + 1))] [] 161 (I, J, RF w)) (fun _ => rfl) ?_
  refine z_evL ?_
  rw [nI_1 c]
  exact hz
set_option maxRecDepth 20000 in
theorem x_fu_no2 (E : zE) (d : Nat) (I : Nat → Nat → Int32) (J : Nat → Nat → Int64) (w : Nat) {r : zR} (a c n : Nat) (b : Int32) (h_n : I 65 3 = nI n) (hn : n ≤ 8) (hc : c < n) (ha : a < n) (h1 : ((b >>> (nI a &&& 31)) &&& 1) = 1) (h2 : ¬ ((b >>> (nI c &&& 31)) &&& 1) = 1) (hz : z_Ev E (d + 4) z_m52 22 [some (.ref 106), some (.int b), some (.int (nI a)), some (.int (nI (c + 1)))] [] 161 (I, J, RF w) r) : z_Ev E (d + 4) z_m52 22 [some (.ref 106), some (.int b), some (.int (nI a)), some (.int (nI c))] [] 161 (I, J, RF w) r := by
  refine z_evG 4 (y := z_ret (z_cl E (d + 4) 14 [.ref 65] (161, (I, J, RF w))) 30 [some (.ref 106), some (.int b), some (.int (nI a)), some (.int (nI c))] [.int (nI c)]) (fun _ => rfl) ?_
  refine z_evK (v := .int (I 65 3)) (z' := 161) (σ' := (I, J, RF w)) (x_eyes_size E (d + 3) I J w) ?_
  refine z_evG 1 (y := if (nI c) < (I 65 3) then z_go 33 [some (.ref 106), some (.int b), some (.int (nI a)), some (.int (nI c))] [] 161 (I, J, RF w) else z_go 97 [some (.ref 106), some (.int b), some (.int (nI a)), some (.int (nI c))] [] 161 (I, J, RF w)) (fun _ => rfl) ?_
  refine z_evT ((show _ ↔ c < n from z_ltN rfl h_n (by omega) (by omega)).mpr hc) ?_
  refine z_evL ?_
  refine z_evG 3 (y := z_ret (z_cl E (d + 4) 175 [.int b, .int (nI a)] (161, (I, J, RF w))) 38 [some (.ref 106), some (.int b), some (.int (nI a)), some (.int (nI c))] []) (fun _ => rfl) ?_
  refine z_evK (v := .int (z_bo (((b >>> ((nI a) &&& 31)) &&& 1) = 1))) (z' := 161) (σ' := (I, J, RF w)) (x_isTold E (d + 3) I J w b (nI a)) ?_
  refine z_evG 1 (y := if (z_bo (((b >>> ((nI a) &&& 31)) &&& 1) = 1)) = 0 then z_go 91 [some (.ref 106), some (.int b), some (.int (nI a)), some (.int (nI c))] [] 161 (I, J, RF w) else z_go 41 [some (.ref 106), some (.int b), some (.int (nI a)), some (.int (nI c))] [] 161 (I, J, RF w)) (fun _ => rfl) ?_
  refine z_evF (fun q0 => z_bo_0.mp q0 h1) ?_
  refine z_evL ?_
  refine z_evG 3 (y := z_ret (z_cl E (d + 4) 175 [.int b, .int (nI c)] (161, (I, J, RF w))) 46 [some (.ref 106), some (.int b), some (.int (nI a)), some (.int (nI c))] []) (fun _ => rfl) ?_
  refine z_evK (v := .int (z_bo (((b >>> ((nI c) &&& 31)) &&& 1) = 1))) (z' := 161) (σ' := (I, J, RF w)) (x_isTold E (d + 3) I J w b (nI c)) ?_
  refine z_evG 1 (y := if (z_bo (((b >>> ((nI c) &&& 31)) &&& 1) = 1)) = 0 then z_go 91 [some (.ref 106), some (.int b), some (.int (nI a)), some (.int (nI c))] [] 161 (I, J, RF w) else z_go 49 [some (.ref 106), some (.int b), some (.int (nI a)), some (.int (nI c))] [] 161 (I, J, RF w)) (fun _ => rfl) ?_
  refine z_evT (z_bo_0.mpr h2) ?_
  refine z_evL ?_
  refine z_evG 2 (y := z_go 22 [some (.ref 106), some (.int b), some (.int (nI a)), some (.int ((nI c) + 1))] [] 161 (I, J, RF w)) (fun _ => rfl) ?_
  refine z_evL ?_
  rw [nI_1 c]
  exact hz
set_option maxRecDepth 20000 in
theorem x_fu_yes (E : zE) (d : Nat) (I : Nat → Nat → Int32) (J : Nat → Nat → Int64) (w : Nat) {r : zR} (a c n : Nat) (b : Int32) (k : Nat) (va vc : Int32) (h_n : I 65 3 = nI n) (hn : n ≤ 8) (hc : c < n) (ha : a < n) (h1 : ((b >>> (nI a &&& 31)) &&& 1) = 1) (h2 : ((b >>> (nI c &&& 31)) &&& 1) = 1) (h_k : I 106 5 = nI k) (hk : k < 28) (v1 : z_cl E (d + 4) 50 [.ref 106, .int (nI a)] (161, I, J, RF w) = some (some (.int va), 161, I, J, RF w)) (v2 : z_cl E (d + 4) 50 [.ref 106, .int (nI c)] (161, I, J, RF w) = some (some (.int vc), 161, I, J, RF w)) (hz : z_Ev E (d + 4) z_m52 22 [some (.ref 106), some (.int b), some (.int (nI a)), some (.int (nI (c + 1)))] [] 161 ((z_u2 (z_u2 I 109 k (va ^^^ vc)) 106 5 ((I 106 5) + 1)), J, RF w) r) : z_Ev E (d + 4) z_m52 22 [some (.ref 106), some (.int b), some (.int (nI a)), some (.int (nI c))] [] 161 (I, J, RF w) r := by
  refine z_evG 4 (y := z_ret (z_cl E (d + 4) 14 [.ref 65] (161, (I, J, RF w))) 30 [some (.ref 106), some (.int b), some (.int (nI a)), some (.int (nI c))] [.int (nI c)]) (fun _ => rfl) ?_
  refine z_evK (v := .int (I 65 3)) (z' := 161) (σ' := (I, J, RF w)) (x_eyes_size E (d + 3) I J w) ?_
  refine z_evG 1 (y := if (nI c) < (I 65 3) then z_go 33 [some (.ref 106), some (.int b), some (.int (nI a)), some (.int (nI c))] [] 161 (I, J, RF w) else z_go 97 [some (.ref 106), some (.int b), some (.int (nI a)), some (.int (nI c))] [] 161 (I, J, RF w)) (fun _ => rfl) ?_
  refine z_evT ((show _ ↔ c < n from z_ltN rfl h_n (by omega) (by omega)).mpr hc) ?_
  refine z_evL ?_
  refine z_evG 3 (y := z_ret (z_cl E (d + 4) 175 [.int b, .int (nI a)] (161, (I, J, RF w))) 38 [some (.ref 106), some (.int b), some (.int (nI a)), some (.int (nI c))] []) (fun _ => rfl) ?_
  refine z_evK (v := .int (z_bo (((b >>> ((nI a) &&& 31)) &&& 1) = 1))) (z' := 161) (σ' := (I, J, RF w)) (x_isTold E (d + 3) I J w b (nI a)) ?_
  refine z_evG 1 (y := if (z_bo (((b >>> ((nI a) &&& 31)) &&& 1) = 1)) = 0 then z_go 91 [some (.ref 106), some (.int b), some (.int (nI a)), some (.int (nI c))] [] 161 (I, J, RF w) else z_go 41 [some (.ref 106), some (.int b), some (.int (nI a)), some (.int (nI c))] [] 161 (I, J, RF w)) (fun _ => rfl) ?_
  refine z_evF (fun q0 => z_bo_0.mp q0 h1) ?_
  refine z_evL ?_
  refine z_evG 3 (y := z_ret (z_cl E (d + 4) 175 [.int b, .int (nI c)] (161, (I, J, RF w))) 46 [some (.ref 106), some (.int b), some (.int (nI a)), some (.int (nI c))] []) (fun _ => rfl) ?_
  refine z_evK (v := .int (z_bo (((b >>> ((nI c) &&& 31)) &&& 1) = 1))) (z' := 161) (σ' := (I, J, RF w)) (x_isTold E (d + 3) I J w b (nI c)) ?_
  refine z_evG 1 (y := if (z_bo (((b >>> ((nI c) &&& 31)) &&& 1) = 1)) = 0 then z_go 91 [some (.ref 106), some (.int b), some (.int (nI a)), some (.int (nI c))] [] 161 (I, J, RF w) else z_go 49 [some (.ref 106), some (.int b), some (.int (nI a)), some (.int (nI c))] [] 161 (I, J, RF w)) (fun _ => rfl) ?_
  refine z_evF (fun q0 => z_bo_0.mp q0 h2) ?_
  refine z_evL ?_
  refine z_evG 6 (y := if (I 106 5) < 28 then z_go 61 [some (.ref 106), some (.int b), some (.int (nI a)), some (.int (nI c))] [] 161 (I, J, RF w) else z_go 91 [some (.ref 106), some (.int b), some (.int (nI a)), some (.int (nI c))] [] 161 (I, J, RF w)) (fun _ => rfl) ?_
  refine z_evT ((show _ ↔ k < 28 from z_ltN h_k rfl (by omega) (by decide)).mpr hk) ?_
  refine z_evL ?_
  refine z_evG 7 (y := z_ret (z_cl E (d + 4) 50 [.ref 106, .int (nI a)] (161, (I, J, RF w))) 74 [some (.ref 106), some (.int b), some (.int (nI a)), some (.int (nI c))] [.int (I 106 5), .ref 109]) (fun _ => rfl) ?_
  refine z_evK (v := .int va) (z' := 161) (σ' := (I, J, RF w)) v1 ?_
  refine z_evG 3 (y := z_ret (z_cl E (d + 4) 50 [.ref 106, .int (nI c)] (161, (I, J, RF w))) 79 [some (.ref 106), some (.int b), some (.int (nI a)), some (.int (nI c))] [.int va, .int (I 106 5), .ref 109]) (fun _ => rfl) ?_
  refine z_evK (v := .int vc) (z' := 161) (σ' := (I, J, RF w)) v2 ?_
  refine z_evG 2 (y := z_ck (z_in (I 106 5) 28) (z_go 81 [some (.ref 106), some (.int b), some (.int (nI a)), some (.int (nI c))] [] 161 ((z_u2 I 109 ((I 106 5).toNatClampNeg) (va ^^^ vc)), J, RF w))) (fun _ => rfl) ?_
  refine z_evC (z_inN (k := k) h_k (by omega) (by decide)) ?_
  refine z_evL ?_
  rw [show ((I 106 5 : Int32)).toNatClampNeg = k from z_natE h_k (by omega)]
  refine z_evG 8 (y := z_go 22 [some (.ref 106), some (.int b), some (.int (nI a)), some (.int ((nI c) + 1))] [] 161 ((z_u2 (z_u2 I 109 k (va ^^^ vc)) 106 5 ((I 106 5) + 1)), J, RF w)) (fun _ => rfl) ?_
  refine z_evL ?_
  rw [nI_1 c]
  exact hz
set_option maxRecDepth 20000 in
theorem x_fu_end (E : zE) (d : Nat) (I : Nat → Nat → Int32) (J : Nat → Nat → Int64) (w : Nat) {r : zR} (a c n : Nat) (b : Int32) (h_n : I 65 3 = nI n) (hn : n ≤ 8) (hc : c = n) (hz : z_Ev E (d + 4) z_m52 7 [some (.ref 106), some (.int b), some (.int (nI (a + 1))), some (.int (nI c))] [] 161 (I, J, RF w) r) : z_Ev E (d + 4) z_m52 22 [some (.ref 106), some (.int b), some (.int (nI a)), some (.int (nI c))] [] 161 (I, J, RF w) r := by
  refine z_evG 4 (y := z_ret (z_cl E (d + 4) 14 [.ref 65] (161, (I, J, RF w))) 30 [some (.ref 106), some (.int b), some (.int (nI a)), some (.int (nI c))] [.int (nI c)]) (fun _ => rfl) ?_
  refine z_evK (v := .int (I 65 3)) (z' := 161) (σ' := (I, J, RF w)) (x_eyes_size E (d + 3) I J w) ?_
  refine z_evG 1 (y := if (nI c) < (I 65 3) then z_go 33 [some (.ref 106), some (.int b), some (.int (nI a)), some (.int (nI c))] [] 161 (I, J, RF w) else z_go 97 [some (.ref 106), some (.int b), some (.int (nI a)), some (.int (nI c))] [] 161 (I, J, RF w)) (fun _ => rfl) ?_
  refine z_evF (mt (show _ ↔ c < n from z_ltN rfl h_n (by omega) (by omega)).mp (by omega)) ?_
  refine z_evL ?_
  refine z_evG 2 (y := z_go 7 [some (.ref 106), some (.int b), some (.int ((nI a) + 1)), some (.int (nI c))] [] 161 (I, J, RF w)) (fun _ => rfl) ?_
  refine z_evL ?_
  rw [nI_1 a]
  exact hz
set_option maxRecDepth 20000 in
theorem x_fu_out (E : zE) (d : Nat) (I : Nat → Nat → Int32) (J : Nat → Nat → Int64) (w : Nat) {r : zR} (a n : Nat) (b : Int32) (x3 : Option Value) (h_n : I 65 3 = nI n) (hn : n ≤ 8) (ha : a < n) (hz : z_Ev E (d + 4) z_m52 22 [some (.ref 106), some (.int b), some (.int (nI a)), some (.int (nI (a + 1)))] [] 161 (I, J, RF w) r) : z_Ev E (d + 4) z_m52 7 [some (.ref 106), some (.int b), some (.int (nI a)), x3] [] 161 (I, J, RF w) r := by
  refine z_evG 4 (y := z_ret (z_cl E (d + 4) 14 [.ref 65] (161, (I, J, RF w))) 15 [some (.ref 106), some (.int b), some (.int (nI a)), x3] [.int (nI a)]) (fun _ => rfl) ?_
  refine z_evK (v := .int (I 65 3)) (z' := 161) (σ' := (I, J, RF w)) (x_eyes_size E (d + 3) I J w) ?_
  refine z_evG 1 (y := if (nI a) < (I 65 3) then z_go 18 [some (.ref 106), some (.int b), some (.int (nI a)), x3] [] 161 (I, J, RF w) else z_go 103 [some (.ref 106), some (.int b), some (.int (nI a)), x3] [] 161 (I, J, RF w)) (fun _ => rfl) ?_
  refine z_evT ((show _ ↔ a < n from z_ltN rfl h_n (by omega) (by omega)).mpr ha) ?_
  refine z_evL ?_
  refine z_evG 4 (y := z_go 22 [some (.ref 106), some (.int b), some (.int (nI a)), some (.int ((nI a) + 1))] [] 161 (I, J, RF w)) (fun _ => rfl) ?_
  refine z_evL ?_
  rw [nI_1 a]
  exact hz
set_option maxRecDepth 20000 in
theorem x_fu_ret (E : zE) (d : Nat) (I : Nat → Nat → Int32) (J : Nat → Nat → Int64) (w : Nat) (a n : Nat) (b : Int32) (x3 : Option Value) (h_n : I 65 3 = nI n) (hn : n ≤ 8) (ha : a = n) : z_Ev E (d + 4) z_m52 7 [some (.ref 106), some (.int b), some (.int (nI a)), x3] [] 161 (I, J, RF w) (none, 161, I, J, RF w) := by
  refine z_evG 4 (y := z_ret (z_cl E (d + 4) 14 [.ref 65] (161, (I, J, RF w))) 15 [some (.ref 106), some (.int b), some (.int (nI a)), x3] [.int (nI a)]) (fun _ => rfl) ?_
  refine z_evK (v := .int (I 65 3)) (z' := 161) (σ' := (I, J, RF w)) (x_eyes_size E (d + 3) I J w) ?_
  refine z_evG 1 (y := if (nI a) < (I 65 3) then z_go 18 [some (.ref 106), some (.int b), some (.int (nI a)), x3] [] 161 (I, J, RF w) else z_go 103 [some (.ref 106), some (.int b), some (.int (nI a)), x3] [] 161 (I, J, RF w)) (fun _ => rfl) ?_
  refine z_evF (mt (show _ ↔ a < n from z_ltN rfl h_n (by omega) (by omega)).mp (by omega)) ?_
  refine z_evL ?_
  refine z_evG 1 (y := some (.inr (none, 161, I, J, RF w))) (fun _ => rfl) ?_
  exact z_evR rfl
set_option maxRecDepth 20000 in
theorem x_fu_st (E : zE) (d : Nat) (I : Nat → Nat → Int32) (J : Nat → Nat → Int64) (w : Nat) {r : zR} (b : Int32) (hz : z_Ev E (d + 4) z_m52 7 [some (.ref 106), some (.int b), some (.int 0), none] [] 161 ((z_u2 I 106 5 0), J, RF w) r) : z_Ev E (d + 4) z_m52 0 [some (.ref 106), some (.int b), none, none] [] 161 (I, J, RF w) r := by
  refine z_evG 5 (y := z_go 7 [some (.ref 106), some (.int b), some (.int 0), none] [] 161 ((z_u2 I 106 5 0), J, RF w)) (fun _ => rfl) ?_
  refine z_evL ?_
  exact hz
