-- LAYERS by the class: its stretches
theorem z_A_105 : z_A 105 5 := by unfold z_A; decide
set_option maxRecDepth 20000 in
theorem x_tl_a (E : zE) (d : Nat) (I : Nat → Nat → Int32) (J : Nat → Nat → Int64) (w : Nat) {r : zR} (b v : Int32) (g : Nat) (I1 : Nat → Nat → Int32) (hg : g ≤ 5) (hv : z_cl E (d + 4) 87 [.ref 79, .int (I 91 3), .ref (98 + g), .ref w, .int (I 91 4)] (161, I, J, RF w) = some (some (.int v), 161, I1, J, RF w)) (hf : I1 91 6 = 0) (hz : z_Ev E (d + 4) z_m45 86 [some (.ref 91), some (.int b), some (.int (nI g)), some (.int v), none] [] 161 ((z_ur (z_u2 (z_u2 (z_u2 I1 91 6 1) 91 7 v) 91 15 (nI g)) 105 (va_cpy ((z_u2 (z_u2 (z_u2 I1 91 6 1) 91 7 v) 91 15 (nI g)) 104) ((z_u2 (z_u2 (z_u2 I1 91 6 1) 91 7 v) 91 15 (nI g)) 105) 0 0 g)), J, RF w) r) : z_Ev E (d + 4) z_m45 0 [some (.ref 91), some (.int b), some (.int (nI g)), none, none] [] 161 (I, J, RF w) r := by
  refine z_evG 8 (y := z_ck (z_in (nI g) 6) (z_go 14 [some (.ref 91), some (.int b), some (.int (nI g)), none, none] [.ref (98 + (nI g).toNatClampNeg), .int (I 91 3), .ref 79] 161 (I, J, RF w))) (fun _ => rfl) ?_
  refine z_evC (z_inN (k := g) rfl (by omega) (by decide)) ?_
  refine z_evL ?_
  rw [show ((nI g : Int32)).toNatClampNeg = g from z_natE rfl (by omega)]
  refine z_evG 5 (y := z_ret (z_cl E (d + 4) 87 [.ref 79, .int (I 91 3), .ref (98 + g), .ref w, .int (I 91 4)] (161, (I, J, RF w))) 25 [some (.ref 91), some (.int b), some (.int (nI g)), none, none] []) (fun _ => rfl) ?_
  refine z_evK (v := .int v) (z' := 161) (σ' := (I1, J, RF w)) hv ?_
  refine z_evG 4 (y := if (I1 91 6) = 0 then z_go 57 [some (.ref 91), some (.int b), some (.int (nI g)), some (.int v), none] [] 161 (I1, J, RF w) else z_go 33 [some (.ref 91), some (.int b), some (.int (nI g)), some (.int v), none] [] 161 (I1, J, RF w)) (fun _ => rfl) ?_
  refine z_evT hf ?_
  refine z_evL ?_
  refine z_evG 17 (y := z_copy E 161 ((z_u2 (z_u2 (z_u2 I1 91 6 1) 91 7 v) 91 15 (nI g)), J, RF w) 104 105 0 0 (nI g) fun z σ => z_go 86 [some (.ref 91), some (.int b), some (.int (nI g)), some (.int v), none] [] z σ) (fun _ => rfl) ?_
  refine z_evYn (N := 5) (m := 5) (f := (z_u2 (z_u2 (z_u2 I1 91 6 1) 91 7 v) 91 15 (nI g)) 104) (a := 0) (b := 0) (c := g) rfl z_A_105 rfl rfl rfl (by omega) (by omega) (by decide) (by decide) ?_
  refine z_evL ?_
  exact hz
set_option maxRecDepth 20000 in
theorem x_tl_b (E : zE) (d : Nat) (I : Nat → Nat → Int32) (J : Nat → Nat → Int64) (w : Nat) {r : zR} (b v : Int32) (g : Nat) (I1 : Nat → Nat → Int32) (hg : g ≤ 5) (hv : z_cl E (d + 4) 87 [.ref 79, .int (I 91 3), .ref (98 + g), .ref w, .int (I 91 4)] (161, I, J, RF w) = some (some (.int v), 161, I1, J, RF w)) (hf : ¬ I1 91 6 = 0) (h1 : v < I1 91 7) (hz : z_Ev E (d + 4) z_m45 86 [some (.ref 91), some (.int b), some (.int (nI g)), some (.int v), none] [] 161 ((z_ur (z_u2 (z_u2 (z_u2 I1 91 6 1) 91 7 v) 91 15 (nI g)) 105 (va_cpy ((z_u2 (z_u2 (z_u2 I1 91 6 1) 91 7 v) 91 15 (nI g)) 104) ((z_u2 (z_u2 (z_u2 I1 91 6 1) 91 7 v) 91 15 (nI g)) 105) 0 0 g)), J, RF w) r) : z_Ev E (d + 4) z_m45 0 [some (.ref 91), some (.int b), some (.int (nI g)), none, none] [] 161 (I, J, RF w) r := by
  refine z_evG 8 (y := z_ck (z_in (nI g) 6) (z_go 14 [some (.ref 91), some (.int b), some (.int (nI g)), none, none] [.ref (98 + (nI g).toNatClampNeg), .int (I 91 3), .ref 79] 161 (I, J, RF w))) (fun _ => rfl) ?_
  refine z_evC (z_inN (k := g) rfl (by omega) (by decide)) ?_
  refine z_evL ?_
  rw [show ((nI g : Int32)).toNatClampNeg = g from z_natE rfl (by omega)]
  refine z_evG 5 (y := z_ret (z_cl E (d + 4) 87 [.ref 79, .int (I 91 3), .ref (98 + g), .ref w, .int (I 91 4)] (161, (I, J, RF w))) 25 [some (.ref 91), some (.int b), some (.int (nI g)), none, none] []) (fun _ => rfl) ?_
  refine z_evK (v := .int v) (z' := 161) (σ' := (I1, J, RF w)) hv ?_
  refine z_evG 4 (y := if (I1 91 6) = 0 then z_go 57 [some (.ref 91), some (.int b), some (.int (nI g)), some (.int v), none] [] 161 (I1, J, RF w) else z_go 33 [some (.ref 91), some (.int b), some (.int (nI g)), some (.int v), none] [] 161 (I1, J, RF w)) (fun _ => rfl) ?_
  refine z_evF hf ?_
  refine z_evL ?_
  refine z_evG 4 (y := if v < (I1 91 7) then z_go 57 [some (.ref 91), some (.int b), some (.int (nI g)), some (.int v), none] [] 161 (I1, J, RF w) else z_go 41 [some (.ref 91), some (.int b), some (.int (nI g)), some (.int v), none] [] 161 (I1, J, RF w)) (fun _ => rfl) ?_
  refine z_evT h1 ?_
  refine z_evL ?_
  refine z_evG 17 (y := z_copy E 161 ((z_u2 (z_u2 (z_u2 I1 91 6 1) 91 7 v) 91 15 (nI g)), J, RF w) 104 105 0 0 (nI g) fun z σ => z_go 86 [some (.ref 91), some (.int b), some (.int (nI g)), some (.int v), none] [] z σ) (fun _ => rfl) ?_
  refine z_evYn (N := 5) (m := 5) (f := (z_u2 (z_u2 (z_u2 I1 91 6 1) 91 7 v) 91 15 (nI g)) 104) (a := 0) (b := 0) (c := g) rfl z_A_105 rfl rfl rfl (by omega) (by omega) (by decide) (by decide) ?_
  refine z_evL ?_
  exact hz
set_option maxRecDepth 20000 in
theorem x_tl_c (E : zE) (d : Nat) (I : Nat → Nat → Int32) (J : Nat → Nat → Int64) (w : Nat) {r : zR} (b v : Int32) (g : Nat) (I1 : Nat → Nat → Int32) (hg : g ≤ 5) (hv : z_cl E (d + 4) 87 [.ref 79, .int (I 91 3), .ref (98 + g), .ref w, .int (I 91 4)] (161, I, J, RF w) = some (some (.int v), 161, I1, J, RF w)) (hf : ¬ I1 91 6 = 0) (h1 : ¬ v < I1 91 7) (h2 : v = I1 91 7) (h3 : nI g < I1 91 15) (hz : z_Ev E (d + 4) z_m45 86 [some (.ref 91), some (.int b), some (.int (nI g)), some (.int v), none] [] 161 ((z_ur (z_u2 (z_u2 (z_u2 I1 91 6 1) 91 7 v) 91 15 (nI g)) 105 (va_cpy ((z_u2 (z_u2 (z_u2 I1 91 6 1) 91 7 v) 91 15 (nI g)) 104) ((z_u2 (z_u2 (z_u2 I1 91 6 1) 91 7 v) 91 15 (nI g)) 105) 0 0 g)), J, RF w) r) : z_Ev E (d + 4) z_m45 0 [some (.ref 91), some (.int b), some (.int (nI g)), none, none] [] 161 (I, J, RF w) r := by
  refine z_evG 8 (y := z_ck (z_in (nI g) 6) (z_go 14 [some (.ref 91), some (.int b), some (.int (nI g)), none, none] [.ref (98 + (nI g).toNatClampNeg), .int (I 91 3), .ref 79] 161 (I, J, RF w))) (fun _ => rfl) ?_
  refine z_evC (z_inN (k := g) rfl (by omega) (by decide)) ?_
  refine z_evL ?_
  rw [show ((nI g : Int32)).toNatClampNeg = g from z_natE rfl (by omega)]
  refine z_evG 5 (y := z_ret (z_cl E (d + 4) 87 [.ref 79, .int (I 91 3), .ref (98 + g), .ref w, .int (I 91 4)] (161, (I, J, RF w))) 25 [some (.ref 91), some (.int b), some (.int (nI g)), none, none] []) (fun _ => rfl) ?_
  refine z_evK (v := .int v) (z' := 161) (σ' := (I1, J, RF w)) hv ?_
  refine z_evG 4 (y := if (I1 91 6) = 0 then z_go 57 [some (.ref 91), some (.int b), some (.int (nI g)), some (.int v), none] [] 161 (I1, J, RF w) else z_go 33 [some (.ref 91), some (.int b), some (.int (nI g)), some (.int v), none] [] 161 (I1, J, RF w)) (fun _ => rfl) ?_
  refine z_evF hf ?_
  refine z_evL ?_
  refine z_evG 4 (y := if v < (I1 91 7) then z_go 57 [some (.ref 91), some (.int b), some (.int (nI g)), some (.int v), none] [] 161 (I1, J, RF w) else z_go 41 [some (.ref 91), some (.int b), some (.int (nI g)), some (.int v), none] [] 161 (I1, J, RF w)) (fun _ => rfl) ?_
  refine z_evF h1 ?_
  refine z_evL ?_
  refine z_evG 4 (y := if v = (I1 91 7) then z_go 49 [some (.ref 91), some (.int b), some (.int (nI g)), some (.int v), none] [] 161 (I1, J, RF w) else z_go 86 [some (.ref 91), some (.int b), some (.int (nI g)), some (.int v), none] [] 161 (I1, J, RF w)) (fun _ => rfl) ?_
  refine z_evT h2 ?_
  refine z_evL ?_
  refine z_evG 4 (y := if (nI g) < (I1 91 15) then z_go 57 [some (.ref 91), some (.int b), some (.int (nI g)), some (.int v), none] [] 161 (I1, J, RF w) else z_go 86 [some (.ref 91), some (.int b), some (.int (nI g)), some (.int v), none] [] 161 (I1, J, RF w)) (fun _ => rfl) ?_
  refine z_evT h3 ?_
  refine z_evL ?_
  refine z_evG 17 (y := z_copy E 161 ((z_u2 (z_u2 (z_u2 I1 91 6 1) 91 7 v) 91 15 (nI g)), J, RF w) 104 105 0 0 (nI g) fun z σ => z_go 86 [some (.ref 91), some (.int b), some (.int (nI g)), some (.int v), none] [] z σ) (fun _ => rfl) ?_
  refine z_evYn (N := 5) (m := 5) (f := (z_u2 (z_u2 (z_u2 I1 91 6 1) 91 7 v) 91 15 (nI g)) 104) (a := 0) (b := 0) (c := g) rfl z_A_105 rfl rfl rfl (by omega) (by omega) (by decide) (by decide) ?_
  refine z_evL ?_
  exact hz
set_option maxRecDepth 20000 in
theorem x_tl_d (E : zE) (d : Nat) (I : Nat → Nat → Int32) (J : Nat → Nat → Int64) (w : Nat) {r : zR} (b v : Int32) (g : Nat) (I1 : Nat → Nat → Int32) (hg : g ≤ 5) (hv : z_cl E (d + 4) 87 [.ref 79, .int (I 91 3), .ref (98 + g), .ref w, .int (I 91 4)] (161, I, J, RF w) = some (some (.int v), 161, I1, J, RF w)) (hf : ¬ I1 91 6 = 0) (h1 : ¬ v < I1 91 7) (h2 : ¬ v = I1 91 7) (hz : z_Ev E (d + 4) z_m45 86 [some (.ref 91), some (.int b), some (.int (nI g)), some (.int v), none] [] 161 (I1, J, RF w) r) : z_Ev E (d + 4) z_m45 0 [some (.ref 91), some (.int b), some (.int (nI g)), none, none] [] 161 (I, J, RF w) r := by
  refine z_evG 8 (y := z_ck (z_in (nI g) 6) (z_go 14 [some (.ref 91), some (.int b), some (.int (nI g)), none, none] [.ref (98 + (nI g).toNatClampNeg), .int (I 91 3), .ref 79] 161 (I, J, RF w))) (fun _ => rfl) ?_
  refine z_evC (z_inN (k := g) rfl (by omega) (by decide)) ?_
  refine z_evL ?_
  rw [show ((nI g : Int32)).toNatClampNeg = g from z_natE rfl (by omega)]
  refine z_evG 5 (y := z_ret (z_cl E (d + 4) 87 [.ref 79, .int (I 91 3), .ref (98 + g), .ref w, .int (I 91 4)] (161, (I, J, RF w))) 25 [some (.ref 91), some (.int b), some (.int (nI g)), none, none] []) (fun _ => rfl) ?_
  refine z_evK (v := .int v) (z' := 161) (σ' := (I1, J, RF w)) hv ?_
  refine z_evG 4 (y := if (I1 91 6) = 0 then z_go 57 [some (.ref 91), some (.int b), some (.int (nI g)), some (.int v), none] [] 161 (I1, J, RF w) else z_go 33 [some (.ref 91), some (.int b), some (.int (nI g)), some (.int v), none] [] 161 (I1, J, RF w)) (fun _ => rfl) ?_
  refine z_evF hf ?_
  refine z_evL ?_
  refine z_evG 4 (y := if v < (I1 91 7) then z_go 57 [some (.ref 91), some (.int b), some (.int (nI g)), some (.int v), none] [] 161 (I1, J, RF w) else z_go 41 [some (.ref 91), some (.int b), some (.int (nI g)), some (.int v), none] [] 161 (I1, J, RF w)) (fun _ => rfl) ?_
  refine z_evF h1 ?_
  refine z_evL ?_
  refine z_evG 4 (y := if v = (I1 91 7) then z_go 49 [some (.ref 91), some (.int b), some (.int (nI g)), some (.int v), none] [] 161 (I1, J, RF w) else z_go 86 [some (.ref 91), some (.int b), some (.int (nI g)), some (.int v), none] [] 161 (I1, J, RF w)) (fun _ => rfl) ?_
  refine z_evF h2 ?_
  refine z_evL ?_
  exact hz
set_option maxRecDepth 20000 in
theorem x_tl_e (E : zE) (d : Nat) (I : Nat → Nat → Int32) (J : Nat → Nat → Int64) (w : Nat) {r : zR} (b v : Int32) (g : Nat) (I1 : Nat → Nat → Int32) (hg : g ≤ 5) (hv : z_cl E (d + 4) 87 [.ref 79, .int (I 91 3), .ref (98 + g), .ref w, .int (I 91 4)] (161, I, J, RF w) = some (some (.int v), 161, I1, J, RF w)) (hf : ¬ I1 91 6 = 0) (h1 : ¬ v < I1 91 7) (h2 : v = I1 91 7) (h3 : ¬ nI g < I1 91 15) (hz : z_Ev E (d + 4) z_m45 86 [some (.ref 91), some (.int b), some (.int (nI g)), some (.int v), none] [] 161 (I1, J, RF w) r) : z_Ev E (d + 4) z_m45 0 [some (.ref 91), some (.int b), some (.int (nI g)), none, none] [] 161 (I, J, RF w) r := by
  refine z_evG 8 (y := z_ck (z_in (nI g) 6) (z_go 14 [some (.ref 91), some (.int b), some (.int (nI g)), none, none] [.ref (98 + (nI g).toNatClampNeg), .int (I 91 3), .ref 79] 161 (I, J, RF w))) (fun _ => rfl) ?_
  refine z_evC (z_inN (k := g) rfl (by omega) (by decide)) ?_
  refine z_evL ?_
  rw [show ((nI g : Int32)).toNatClampNeg = g from z_natE rfl (by omega)]
  refine z_evG 5 (y := z_ret (z_cl E (d + 4) 87 [.ref 79, .int (I 91 3), .ref (98 + g), .ref w, .int (I 91 4)] (161, (I, J, RF w))) 25 [some (.ref 91), some (.int b), some (.int (nI g)), none, none] []) (fun _ => rfl) ?_
  refine z_evK (v := .int v) (z' := 161) (σ' := (I1, J, RF w)) hv ?_
  refine z_evG 4 (y := if (I1 91 6) = 0 then z_go 57 [some (.ref 91), some (.int b), some (.int (nI g)), some (.int v), none] [] 161 (I1, J, RF w) else z_go 33 [some (.ref 91), some (.int b), some (.int (nI g)), some (.int v), none] [] 161 (I1, J, RF w)) (fun _ => rfl) ?_
  refine z_evF hf ?_
  refine z_evL ?_
  refine z_evG 4 (y := if v < (I1 91 7) then z_go 57 [some (.ref 91), some (.int b), some (.int (nI g)), some (.int v), none] [] 161 (I1, J, RF w) else z_go 41 [some (.ref 91), some (.int b), some (.int (nI g)), some (.int v), none] [] 161 (I1, J, RF w)) (fun _ => rfl) ?_
  refine z_evF h1 ?_
  refine z_evL ?_
  refine z_evG 4 (y := if v = (I1 91 7) then z_go 49 [some (.ref 91), some (.int b), some (.int (nI g)), some (.int v), none] [] 161 (I1, J, RF w) else z_go 86 [some (.ref 91), some (.int b), some (.int (nI g)), some (.int v), none] [] 161 (I1, J, RF w)) (fun _ => rfl) ?_
  refine z_evT h2 ?_
  refine z_evL ?_
  refine z_evG 4 (y := if (nI g) < (I1 91 15) then z_go 57 [some (.ref 91), some (.int b), some (.int (nI g)), some (.int v), none] [] 161 (I1, J, RF w) else z_go 86 [some (.ref 91), some (.int b), some (.int (nI g)), some (.int v), none] [] 161 (I1, J, RF w)) (fun _ => rfl) ?_
  refine z_evF h3 ?_
  refine z_evL ?_
  exact hz
set_option maxRecDepth 20000 in
theorem x_tl_ret (E : zE) (d : Nat) (I : Nat → Nat → Int32) (J : Nat → Nat → Int64) (w : Nat) (b v : Int32) (g : Nat) (hg : g = 5) : z_Ev E (d + 4) z_m45 86 [some (.ref 91), some (.int b), some (.int (nI g)), some (.int v), none] [] 161 (I, J, RF w) (none, 161, I, J, RF w) := by
  refine z_evG 3 (y := if (nI g) < 5 then z_go 92 [some (.ref 91), some (.int b), some (.int (nI g)), some (.int v), none] [] 161 (I, J, RF w) else z_go 91 [some (.ref 91), some (.int b), some (.int (nI g)), some (.int v), none] [] 161 (I, J, RF w)) (fun _ => rfl) ?_
  refine z_evF (mt (show _ ↔ g < 5 from z_ltN rfl rfl (by omega) (by omega)).mp (by omega)) ?_
  refine z_evL ?_
  refine z_evG 1 (y := some (.inr (none, 161, I, J, RF w))) (fun _ => rfl) ?_
  exact z_evR rfl
set_option maxRecDepth 20000 in
theorem x_tl_go (E : zE) (d : Nat) (I : Nat → Nat → Int32) (J : Nat → Nat → Int64) (w : Nat) {r : zR} (b v : Int32) (g : Nat) (hg : g < 5) (hz : z_Ev E (d + 4) z_m45 95 [some (.ref 91), some (.int b), some (.int (nI g)), some (.int v), some (.int 0)] [] 161 (I, J, RF w) r) : z_Ev E (d + 4) z_m45 86 [some (.ref 91), some (.int b), some (.int (nI g)), some (.int v), none] [] 161 (I, J, RF w) r := by
  refine z_evG 3 (y := if (nI g) < 5 then z_go 92 [some (.ref 91), some (.int b), some (.int (nI g)), some (.int v), none] [] 161 (I, J, RF w) else z_go 91 [some (.ref 91), some (.int b), some (.int (nI g)), some (.int v), none] [] 161 (I, J, RF w)) (fun _ => rfl) ?_
  refine z_evT ((show _ ↔ g < 5 from z_ltN rfl rfl (by omega) (by omega)).mpr hg) ?_
  refine z_evL ?_
  refine z_evG 2 (y := z_go 95 [some (.ref 91), some (.int b), some (.int (nI g)), some (.int v), some (.int 0)] [] 161 (I, J, RF w)) (fun _ => rfl) ?_
  refine z_evL ?_
  exact hz
set_option maxRecDepth 20000 in
theorem x_tl_no (E : zE) (d : Nat) (I : Nat → Nat → Int32) (J : Nat → Nat → Int64) (w : Nat) {r : zR} (b v : Int32) (g t m : Nat) (h_m : I 37 7 = nI m) (hm : m ≤ 20) (ht : t < m) (hT : ¬ ((b >>> (nI t &&& 31)) &&& 1) = 1) (hz : z_Ev E (d + 4) z_m45 95 [some (.ref 91), some (.int b), some (.int (nI g)), some (.int v), some (.int (nI (t + 1)))] [] 161 (I, J, RF w) r) : z_Ev E (d + 4) z_m45 95 [some (.ref 91), some (.int b), some (.int (nI g)), some (.int v), some (.int (nI t))] [] 161 (I, J, RF w) r := by
  refine z_evG 4 (y := z_ret (z_cl E (d + 4) 107 [.ref 37] (161, (I, J, RF w))) 104 [some (.ref 91), some (.int b), some (.int (nI g)), some (.int v), some (.int (nI t))] [.int (nI t)]) (fun _ => rfl) ?_
  refine z_evK (v := .int (I 37 7)) (z' := 161) (σ' := (I, J, RF w)) (x_things_size E (d + 3) I J w) ?_
  refine z_evG 1 (y := if (nI t) < (I 37 7) then z_go 107 [some (.ref 91), some (.int b), some (.int (nI g)), some (.int v), some (.int (nI t))] [] 161 (I, J, RF w) else z_go 168 [some (.ref 91), some (.int b), some (.int (nI g)), some (.int v), some (.int (nI t))] [] 161 (I, J, RF w)) (fun _ => rfl) ?_
  refine z_evT ((show _ ↔ t < m from z_ltN rfl h_m (by omega) (by omega)).mpr ht) ?_
  refine z_evL ?_
  refine z_evG 3 (y := z_ret (z_cl E (d + 4) 175 [.int b, .int (nI t)] (161, (I, J, RF w))) 113 [some (.ref 91), some (.int b), some (.int (nI g)), some (.int v), some (.int (nI t))] []) (fun _ => rfl) ?_
  refine z_evK (v := .int (z_bo (((b >>> ((nI t) &&& 31)) &&& 1) = 1))) (z' := 161) (σ' := (I, J, RF w)) (x_isTold E (d + 3) I J w b (nI t)) ?_
  refine z_evG 1 (y := if (z_bo (((b >>> ((nI t) &&& 31)) &&& 1) = 1)) = 0 then z_go 162 [some (.ref 91), some (.int b), some (.int (nI g)), some (.int v), some (.int (nI t))] [] 161 (I, J, RF w) else z_go 116 [some (.ref 91), some (.int b), some (.int (nI g)), some (.int v), some (.int (nI t))] [] 161 (I, J, RF w)) (fun _ => rfl) ?_
  refine z_evT (z_bo_0.mpr hT) ?_
  refine z_evL ?_
  refine z_evG 2 (y := z_go 95 [some (.ref 91), some (.int b), some (.int (nI g)), some (.int v), some (.int ((nI t) + 1))] [] 161 (I, J, RF w)) (fun _ => rfl) ?_
  refine z_evL ?_
  rw [nI_1 t]
  exact hz
set_option maxRecDepth 20000 in
theorem x_tl_yes (E : zE) (d : Nat) (I : Nat → Nat → Int32) (J : Nat → Nat → Int64) (w : Nat) {r : zR} (b v : Int32) (g t m : Nat) (I1 I2 : Nat → Nat → Int32) (h_m : I 37 7 = nI m) (hm : m ≤ 20) (ht : t < m) (hg : g < 5) (hT : ((b >>> (nI t &&& 31)) &&& 1) = 1) (t1 : z_cl E (d + 4) 120 [.ref 37, .int (nI t), .ref (98 + g), .ref (98 + (g + 1))] (161, (z_u2 I 104 g (nI t)), J, RF w) = some (none, 161, I1, J, RF w)) (t2 : z_cl E (d + 4) 45 [.ref 91, .int (b &&& (((1 <<< (nI t &&& 31)) ^^^ (-1)))), .int (nI g + 1)] (161, I1, J, RF w) = some (none, 161, I2, J, RF w)) (hz : z_Ev E (d + 4) z_m45 95 [some (.ref 91), some (.int b), some (.int (nI g)), some (.int v), some (.int (nI (t + 1)))] [] 161 (I2, J, RF w) r) : z_Ev E (d + 4) z_m45 95 [some (.ref 91), some (.int b), some (.int (nI g)), some (.int v), some (.int (nI t))] [] 161 (I, J, RF w) r := by
  refine z_evG 4 (y := z_ret (z_cl E (d + 4) 107 [.ref 37] (161, (I, J, RF w))) 104 [some (.ref 91), some (.int b), some (.int (nI g)), some (.int v), some (.int (nI t))] [.int (nI t)]) (fun _ => rfl) ?_
  refine z_evK (v := .int (I 37 7)) (z' := 161) (σ' := (I, J, RF w)) (x_things_size E (d + 3) I J w) ?_
  refine z_evG 1 (y := if (nI t) < (I 37 7) then z_go 107 [some (.ref 91), some (.int b), some (.int (nI g)), some (.int v), some (.int (nI t))] [] 161 (I, J, RF w) else z_go 168 [some (.ref 91), some (.int b), some (.int (nI g)), some (.int v), some (.int (nI t))] [] 161 (I, J, RF w)) (fun _ => rfl) ?_
  refine z_evT ((show _ ↔ t < m from z_ltN rfl h_m (by omega) (by omega)).mpr ht) ?_
  refine z_evL ?_
  refine z_evG 3 (y := z_ret (z_cl E (d + 4) 175 [.int b, .int (nI t)] (161, (I, J, RF w))) 113 [some (.ref 91), some (.int b), some (.int (nI g)), some (.int v), some (.int (nI t))] []) (fun _ => rfl) ?_
  refine z_evK (v := .int (z_bo (((b >>> ((nI t) &&& 31)) &&& 1) = 1))) (z' := 161) (σ' := (I, J, RF w)) (x_isTold E (d + 3) I J w b (nI t)) ?_
  refine z_evG 1 (y := if (z_bo (((b >>> ((nI t) &&& 31)) &&& 1) = 1)) = 0 then z_go 162 [some (.ref 91), some (.int b), some (.int (nI g)), some (.int v), some (.int (nI t))] [] 161 (I, J, RF w) else z_go 116 [some (.ref 91), some (.int b), some (.int (nI g)), some (.int v), some (.int (nI t))] [] 161 (I, J, RF w)) (fun _ => rfl) ?_
  refine z_evF (fun q0 => z_bo_0.mp q0 hT) ?_
  refine z_evL ?_
  refine z_evG 5 (y := z_ck (z_in (nI g) 5) (z_go 124 [some (.ref 91), some (.int b), some (.int (nI g)), some (.int v), some (.int (nI t))] [] 161 ((z_u2 I 104 ((nI g).toNatClampNeg) (nI t)), J, RF w))) (fun _ => rfl) ?_
  refine z_evC (z_inN (k := g) rfl (by omega) (by decide)) ?_
  refine z_evL ?_
  rw [show ((nI g : Int32)).toNatClampNeg = g from z_natE rfl (by omega)]
  refine z_evG 7 (y := z_ck (z_in (nI g) 6) (z_go 136 [some (.ref 91), some (.int b), some (.int (nI g)), some (.int v), some (.int (nI t))] [.ref (98 + (nI g).toNatClampNeg), .int (nI t), .ref 37] 161 ((z_u2 I 104 g (nI t)), J, RF w))) (fun _ => rfl) ?_
  refine z_evC (z_inN (k := g) rfl (by omega) (by decide)) ?_
  refine z_evL ?_
  rw [show ((nI g : Int32)).toNatClampNeg = g from z_natE rfl (by omega)]
  refine z_evG 6 (y := z_ck (z_in ((nI g) + 1) 6) (z_go 144 [some (.ref 91), some (.int b), some (.int (nI g)), some (.int v), some (.int (nI t))] [.ref (98 + ((nI g) + 1).toNatClampNeg), .ref (98 + g), .int (nI t), .ref 37] 161 ((z_u2 I 104 g (nI t)), J, RF w))) (fun _ => rfl) ?_
  refine z_evC (z_inN (k := g + 1) (z_addE rfl rfl) (by omega) (by decide)) ?_
  refine z_evL ?_
  rw [show (((nI g) + 1 : Int32)).toNatClampNeg = g + 1 from z_natE (z_addE rfl rfl) (by omega)]
  refine z_evG 1 (y := z_ret (z_cl E (d + 4) 120 [.ref 37, .int (nI t), .ref (98 + g), .ref (98 + (g + 1))] (161, ((z_u2 I 104 g (nI t)), J, RF w))) 147 [some (.ref 91), some (.int b), some (.int (nI g)), some (.int v), some (.int (nI t))] []) (fun _ => rfl) ?_
  refine z_evV (z' := 161) (σ' := (I1, J, RF w)) t1 ?_
  refine z_evG 12 (y := z_ret (z_cl E (d + 4) 45 [.ref 91, .int (b &&& ((1 <<< ((nI t) &&& 31)) ^^^ (-1))), .int ((nI g) + 1)] (161, (I1, J, RF w))) 162 [some (.ref 91), some (.int b), some (.int (nI g)), some (.int v), some (.int (nI t))] []) (fun _ => rfl) ?_
  refine z_evV (z' := 161) (σ' := (I2, J, RF w)) t2 ?_
  refine z_evG 2 (y := z_go 95 [some (.ref 91), some (.int b), some (.int (nI g)), some (.int v), some (.int ((nI t) + 1))] [] 161 (I2, J, RF w)) (fun _ => rfl) ?_
  refine z_evL ?_
  rw [nI_1 t]
  exact hz
set_option maxRecDepth 20000 in
theorem x_tl_end (E : zE) (d : Nat) (I : Nat → Nat → Int32) (J : Nat → Nat → Int64) (w : Nat) (b v : Int32) (g t m : Nat) (h_m : I 37 7 = nI m) (hm : m ≤ 20) (ht : t = m) : z_Ev E (d + 4) z_m45 95 [some (.ref 91), some (.int b), some (.int (nI g)), some (.int v), some (.int (nI t))] [] 161 (I, J, RF w) (none, 161, I, J, RF w) := by
  refine z_evG 4 (y := z_ret (z_cl E (d + 4) 107 [.ref 37] (161, (I, J, RF w))) 104 [some (.ref 91), some (.int b), some (.int (nI g)), some (.int v), some (.int (nI t))] [.int (nI t)]) (fun _ => rfl) ?_
  refine z_evK (v := .int (I 37 7)) (z' := 161) (σ' := (I, J, RF w)) (x_things_size E (d + 3) I J w) ?_
  refine z_evG 1 (y := if (nI t) < (I 37 7) then z_go 107 [some (.ref 91), some (.int b), some (.int (nI g)), some (.int v), some (.int (nI t))] [] 161 (I, J, RF w) else z_go 168 [some (.ref 91), some (.int b), some (.int (nI g)), some (.int v), some (.int (nI t))] [] 161 (I, J, RF w)) (fun _ => rfl) ?_
  refine z_evF (mt (show _ ↔ t < m from z_ltN rfl h_m (by omega) (by omega)).mp (by omega)) ?_
  refine z_evL ?_
  refine z_evG 1 (y := some (.inr (none, 161, I, J, RF w))) (fun _ => rfl) ?_
  exact z_evR rfl
set_option maxRecDepth 20000 in
theorem x_lay_s (E : zE) (d : Nat) (I : Nat → Nat → Int32) (J : Nat → Nat → Int64) (w : Nat) (b : Int32) (a : Nat) (I1 : Nat → Nat → Int32) (ha : z_A a 8) (t1 : z_cl E (d + 10) 45 [.ref 91, .int b, .int 0] (161, z_ur I 98 (va_cpy (I a) (I 98) 0 0 8), J, RF w) = some (none, 161, I1, J, RF w)) : z_Ev E (d + 10) z_m44 0 [some (.ref 91), some (.int b), some (.ref a)] [] 161 (I, J, RF w) (none, 161, I1, J, RF w) := by
  refine z_evG 6 (y := z_ck (z_in 0 6) (z_go 8 [some (.ref 91), some (.int b), some (.ref a)] [.ref (98 + (0 : Int32).toNatClampNeg), .int 0, .ref a] 161 (I, J, RF w))) (fun _ => rfl) ?_
  refine z_evC (z_inN (k := 0) rfl (by decide) (by decide)) ?_
  refine z_evL ?_
  rw [show ((0 : Int32)).toNatClampNeg = 0 from rfl]
  refine z_evG 3 (y := z_copy E 161 (I, J, RF w) a 98 0 0 8 fun z σ => z_go 14 [some (.ref 91), some (.int b), some (.ref a)] [] z σ) (fun _ => rfl) ?_
  refine z_evY (N := 8) (f := (I a)) (z_iaA ha) rfl ?_
  refine z_evL ?_
  refine z_evG 4 (y := z_ret (z_cl E (d + 10) 45 [.ref 91, .int b, .int 0] (161, ((z_ur I 98 (va_cpy (I a) (I 98) 0 0 8)), J, RF w))) 20 [some (.ref 91), some (.int b), some (.ref a)] []) (fun _ => rfl) ?_
  refine z_evV (z' := 161) (σ' := (I1, J, RF w)) t1 ?_
  refine z_evG 1 (y := some (.inr (none, 161, I1, J, RF w))) (fun _ => rfl) ?_
  exact z_evR rfl
set_option maxRecDepth 20000 in
/-- LampHouse.layers -/
theorem x_layers_bad1 (E : zE) (d : Nat) (I : Nat → Nat → Int32) (J : Nat → Nat → Int64) (w : Nat) (e b l y i : Int32) (hbad : ¬ ((¬ e < 0 ∧ e < I 65 3) ∧ (¬ l < 0 ∧ l < I 43 1) ∧ (¬ y < 0 ∧ y < I 43 1) ∧ ((b &&& ((-1) <<< (I 37 7 &&& 31))) = 0))) : z_cl E (d + 12) 148 [.ref 0, .int e, .int b, .int l, .int y, .int i] (161, I, J, RF w) = some (some (.int (-2)), 161, I, J, RF w) := by
  refine z_call (d := d + 11) (M := z_m148) rfl rfl ?_
  refine z_evG 4 (y := z_ret (z_cl E (d + 11) 15 [.ref 65, .int e] (161, (I, J, RF w))) 8 [some (.ref 0), some (.int e), some (.int b), some (.int l), some (.int y), some (.int i)] []) (fun _ => rfl) ?_
  refine z_evK (v := .int (z_bo (¬ e < 0 ∧ e < I 65 3))) (z' := 161) (σ' := (I, J, RF w)) (x_eyes_has E (d + 10) I J w e) ?_
  refine z_evG 1 (y := if (z_bo (¬ e < 0 ∧ e < I 65 3)) = 0 then z_go 53 [some (.ref 0), some (.int e), some (.int b), some (.int l), some (.int y), some (.int i)] [] 161 (I, J, RF w) else z_go 11 [some (.ref 0), some (.int e), some (.int b), some (.int l), some (.int y), some (.int i)] [] 161 (I, J, RF w)) (fun _ => rfl) ?_
  refine z_evO (fun h1 => ?_) (fun h1 => ?_)
  · refine z_evL ?_
    refine z_evG 2 (y := some (.inr (some (.int (-2)), 161, I, J, RF w))) (fun _ => rfl) ?_
    exact z_evR rfl
  · refine z_evL ?_
    refine z_evG 4 (y := z_ret (z_cl E (d + 11) 8 [.ref 43, .int l] (161, (I, J, RF w))) 19 [some (.ref 0), some (.int e), some (.int b), some (.int l), some (.int y), some (.int i)] []) (fun _ => rfl) ?_
    refine z_evK (v := .int (z_bo (¬ l < 0 ∧ l < I 43 1))) (z' := 161) (σ' := (I, J, RF w)) (x_lights_has E (d + 10) I J w l) ?_
    refine z_evG 1 (y := if (z_bo (¬ l < 0 ∧ l < I 43 1)) = 0 then z_go 53 [some (.ref 0), some (.int e), some (.int b), some (.int l), some (.int y), some (.int i)] [] 161 (I, J, RF w) else z_go 22 [some (.ref 0), some (.int e), some (.int b), some (.int l), some (.int y), some (.int i)] [] 161 (I, J, RF w)) (fun _ => rfl) ?_
    refine z_evO (fun h2 => ?_) (fun h2 => ?_)
    · refine z_evL ?_
      refine z_evG 2 (y := some (.inr (some (.int (-2)), 161, I, J, RF w))) (fun _ => rfl) ?_
      exact z_evR rfl
    · refine z_evL ?_
      refine z_evG 4 (y := z_ret (z_cl E (d + 11) 8 [.ref 43, .int y] (161, (I, J, RF w))) 31 [some (.ref 0), some (.int e), some (.int b), some (.int l), some (.int y), some (.int i)] []) (fun _ => rfl) ?_
      refine z_evK (v := .int (z_bo (¬ y < 0 ∧ y < I 43 1))) (z' := 161) (σ' := (I, J, RF w)) (x_lights_has E (d + 10) I J w y) ?_
      refine z_evG 1 (y := if (z_bo (¬ y < 0 ∧ y < I 43 1)) = 0 then z_go 53 [some (.ref 0), some (.int e), some (.int b), some (.int l), some (.int y), some (.int i)] [] 161 (I, J, RF w) else z_go 34 [some (.ref 0), some (.int e), some (.int b), some (.int l), some (.int y), some (.int i)] [] 161 (I, J, RF w)) (fun _ => rfl) ?_
      refine z_evO (fun h3 => ?_) (fun h3 => ?_)
      · refine z_evL ?_
        refine z_evG 2 (y := some (.inr (some (.int (-2)), 161, I, J, RF w))) (fun _ => rfl) ?_
        exact z_evR rfl
      · refine z_evL ?_
        refine z_evG 4 (y := z_ret (z_cl E (d + 11) 109 [.ref 37, .int b] (161, (I, J, RF w))) 42 [some (.ref 0), some (.int e), some (.int b), some (.int l), some (.int y), some (.int i)] []) (fun _ => rfl) ?_
        refine z_evK (v := .int (z_bo ((b &&& ((-1) <<< (I 37 7 &&& 31))) = 0))) (z' := 161) (σ' := (I, J, RF w)) (x_things_hasAll E (d + 9) I J w b) ?_
        refine z_evG 1 (y := if (z_bo ((b &&& ((-1) <<< (I 37 7 &&& 31))) = 0)) = 0 then z_go 53 [some (.ref 0), some (.int e), some (.int b), some (.int l), some (.int y), some (.int i)] [] 161 (I, J, RF w) else z_go 45 [some (.ref 0), some (.int e), some (.int b), some (.int l), some (.int y), some (.int i)] [] 161 (I, J, RF w)) (fun _ => rfl) ?_
        refine z_evO (fun h4 => ?_) (fun h4 => ?_)
        · refine z_evL ?_
          refine z_evG 2 (y := some (.inr (some (.int (-2)), 161, I, J, RF w))) (fun _ => rfl) ?_
          exact z_evR rfl
        · refine z_evL ?_
          exact absurd ⟨h1, h2, h3, h4⟩ hbad
set_option maxRecDepth 20000 in
/-- LampHouse.layers -/
theorem x_layers_bad2 (E : zE) (d : Nat) (I : Nat → Nat → Int32) (J : Nat → Nat → Int64) (w : Nat) (e l y i : Int32) (x : Nat) (hx : x < 2 ^ 24) (hb : (nI x &&& ((-1) <<< (I 37 7 &&& 31))) = 0) (he : ¬ e < 0 ∧ e < I 65 3) (hl : ¬ l < 0 ∧ l < I 43 1) (hy : ¬ y < 0 ∧ y < I 43 1) (hbad : 5 < s_pn x 24) : z_cl E (d + 12) 148 [.ref 0, .int e, .int (nI x), .int l, .int y, .int i] (161, I, J, RF w) = some (some (.int (-2)), 161, I, J, RF w) := by
  have hsp := s_pn_le x 24
  refine z_call (d := d + 11) (M := z_m148) rfl rfl ?_
  refine z_evG 4 (y := z_ret (z_cl E (d + 11) 15 [.ref 65, .int e] (161, (I, J, RF w))) 8 [some (.ref 0), some (.int e), some (.int (nI x)), some (.int l), some (.int y), some (.int i)] []) (fun _ => rfl) ?_
  refine z_evK (v := .int (z_bo (¬ e < 0 ∧ e < I 65 3))) (z' := 161) (σ' := (I, J, RF w)) (x_eyes_has E (d + 10) I J w e) ?_
  refine z_evG 1 (y := if (z_bo (¬ e < 0 ∧ e < I 65 3)) = 0 then z_go 53 [some (.ref 0), some (.int e), some (.int (nI x)), some (.int l), some (.int y), some (.int i)] [] 161 (I, J, RF w) else z_go 11 [some (.ref 0), some (.int e), some (.int (nI x)), some (.int l), some (.int y), some (.int i)] [] 161 (I, J, RF w)) (fun _ => rfl) ?_
  refine z_evF (fun q0 => z_bo_0.mp q0 he) ?_
  refine z_evL ?_
  refine z_evG 4 (y := z_ret (z_cl E (d + 11) 8 [.ref 43, .int l] (161, (I, J, RF w))) 19 [some (.ref 0), some (.int e), some (.int (nI x)), some (.int l), some (.int y), some (.int i)] []) (fun _ => rfl) ?_
  refine z_evK (v := .int (z_bo (¬ l < 0 ∧ l < I 43 1))) (z' := 161) (σ' := (I, J, RF w)) (x_lights_has E (d + 10) I J w l) ?_
  refine z_evG 1 (y := if (z_bo (¬ l < 0 ∧ l < I 43 1)) = 0 then z_go 53 [some (.ref 0), some (.int e), some (.int (nI x)), some (.int l), some (.int y), some (.int i)] [] 161 (I, J, RF w) else z_go 22 [some (.ref 0), some (.int e), some (.int (nI x)), some (.int l), some (.int y), some (.int i)] [] 161 (I, J, RF w)) (fun _ => rfl) ?_
  refine z_evF (fun q0 => z_bo_0.mp q0 hl) ?_
  refine z_evL ?_
  refine z_evG 4 (y := z_ret (z_cl E (d + 11) 8 [.ref 43, .int y] (161, (I, J, RF w))) 31 [some (.ref 0), some (.int e), some (.int (nI x)), some (.int l), some (.int y), some (.int i)] []) (fun _ => rfl) ?_
  refine z_evK (v := .int (z_bo (¬ y < 0 ∧ y < I 43 1))) (z' := 161) (σ' := (I, J, RF w)) (x_lights_has E (d + 10) I J w y) ?_
  refine z_evG 1 (y := if (z_bo (¬ y < 0 ∧ y < I 43 1)) = 0 then z_go 53 [some (.ref 0), some (.int e), some (.int (nI x)), some (.int l), some (.int y), some (.int i)] [] 161 (I, J, RF w) else z_go 34 [some (.ref 0), some (.int e), some (.int (nI x)), some (.int l), some (.int y), some (.int i)] [] 161 (I, J, RF w)) (fun _ => rfl) ?_
  refine z_evF (fun q0 => z_bo_0.mp q0 hy) ?_
  refine z_evL ?_
  refine z_evG 4 (y := z_ret (z_cl E (d + 11) 109 [.ref 37, .int (nI x)] (161, (I, J, RF w))) 42 [some (.ref 0), some (.int e), some (.int (nI x)), some (.int l), some (.int y), some (.int i)] []) (fun _ => rfl) ?_
  refine z_evK (v := .int (z_bo (((nI x) &&& ((-1) <<< (I 37 7 &&& 31))) = 0))) (z' := 161) (σ' := (I, J, RF w)) (x_things_hasAll E (d + 9) I J w (nI x)) ?_
  refine z_evG 1 (y := if (z_bo (((nI x) &&& ((-1) <<< (I 37 7 &&& 31))) = 0)) = 0 then z_go 53 [some (.ref 0), some (.int e), some (.int (nI x)), some (.int l), some (.int y), some (.int i)] [] 161 (I, J, RF w) else z_go 45 [some (.ref 0), some (.int e), some (.int (nI x)), some (.int l), some (.int y), some (.int i)] [] 161 (I, J, RF w)) (fun _ => rfl) ?_
  refine z_evF (fun q0 => z_bo_0.mp q0 hb) ?_
  refine z_evL ?_
  refine z_evG 2 (y := z_ret (z_cl E (d + 11) 256 [.int (nI x)] (161, (I, J, RF w))) 49 [some (.ref 0), some (.int e), some (.int (nI x)), some (.int l), some (.int y), some (.int i)] []) (fun _ => rfl) ?_
  refine z_evK (v := .int (nI (s_pn x 24))) (z' := 161) (σ' := (I, J, RF w)) (x_bitCount E (d + 10) I J w x (by omega)) ?_
  refine z_evG 2 (y := if 5 < (nI (s_pn x 24)) then z_go 53 [some (.ref 0), some (.int e), some (.int (nI x)), some (.int l), some (.int y), some (.int i)] [] 161 (I, J, RF w) else z_go 56 [some (.ref 0), some (.int e), some (.int (nI x)), some (.int l), some (.int y), some (.int i)] [] 161 (I, J, RF w)) (fun _ => rfl) ?_
  refine z_evT ((show _ ↔ 5 < s_pn x 24 from z_ltN rfl rfl (by omega) (by omega)).mpr hbad) ?_
  refine z_evL ?_
  refine z_evG 2 (y := some (.inr (some (.int (-2)), 161, I, J, RF w))) (fun _ => rfl) ?_
  exact z_evR rfl
set_option maxRecDepth 20000 in
theorem x_layers_s1 (E : zE) (d : Nat) (I : Nat → Nat → Int32) (J : Nat → Nat → Int64) (w : Nat) (e : Int32) (x l y : Nat) (I1 : Nat → Nat → Int32) (hx : x < 2 ^ 24) (hb : (nI x &&& ((-1) <<< (I 37 7 &&& 31))) = 0) (he : ¬ e < 0 ∧ e < I 65 3) (hl : ¬ nI l < 0 ∧ nI l < I 43 1) (hy : ¬ nI y < 0 ∧ nI y < I 43 1) (hl2 : l < 20) (hy2 : y < 20) (h5 : s_pn x 24 ≤ 5) (t1 : z_cl E (d + 11) 44 [.ref 91, .int (nI x), .ref (45 + l)] (161, (z_u2 (z_u2 (z_u2 I 91 3 e) 91 4 (I 0 13)) 91 6 0), J, RF (45 + y)) = some (none, 161, I1, J, RF (45 + y))) : z_Ev E (d + 11) z_m148 0 [some (.ref 0), some (.int e), some (.int (nI x)), some (.int (nI l)), some (.int (nI y)), some (.int (-1))] [] 161 (I, J, RF w) (some (.int (I1 91 7)), 161, I1, J, RF (45 + y)) := by
  have hsp := s_pn_le x 24
  refine z_evG 4 (y := z_ret (z_cl E (d + 11) 15 [.ref 65, .int e] (161, (I, J, RF w))) 8 [some (.ref 0), some (.int e), some (.int (nI x)), some (.int (nI l)), some (.int (nI y)), some (.int (-1))] []) (fun _ => rfl) ?_
  refine z_evK (v := .int (z_bo (¬ e < 0 ∧ e < I 65 3))) (z' := 161) (σ' := (I, J, RF w)) (x_eyes_has E (d + 10) I J w e) ?_
  refine z_evG 1 (y := if (z_bo (¬ e < 0 ∧ e < I 65 3)) = 0 then z_go 53 [some (.ref 0), some (.int e), some (.int (nI x)), some (.int (nI l)), some (.int (nI y)), some (.int (-1))] [] 161 (I, J, RF w) else z_go 11 [some (.ref 0), some (.int e), some (.int (nI x)), some (.int (nI l)), some (.int (nI y)), some (.int (-1))] [] 161 (I, J, RF w)) (fun _ => rfl) ?_
  refine z_evF (fun q0 => z_bo_0.mp q0 he) ?_
  refine z_evL ?_
  refine z_evG 4 (y := z_ret (z_cl E (d + 11) 8 [.ref 43, .int (nI l)] (161, (I, J, RF w))) 19 [some (.ref 0), some (.int e), some (.int (nI x)), some (.int (nI l)), some (.int (nI y)), some (.int (-1))] []) (fun _ => rfl) ?_
  refine z_evK (v := .int (z_bo (¬ (nI l) < 0 ∧ (nI l) < I 43 1))) (z' := 161) (σ' := (I, J, RF w)) (x_lights_has E (d + 10) I J w (nI l)) ?_
  refine z_evG 1 (y := if (z_bo (¬ (nI l) < 0 ∧ (nI l) < I 43 1)) = 0 then z_go 53 [some (.ref 0), some (.int e), some (.int (nI x)), some (.int (nI l)), some (.int (nI y)), some (.int (-1))] [] 161 (I, J, RF w) else z_go 22 [some (.ref 0), some (.int e), some (.int (nI x)), some (.int (nI l)), some (.int (nI y)), some (.int (-1))] [] 161 (I, J, RF w)) (fun _ => rfl) ?_
  refine z_evF (fun q0 => z_bo_0.mp q0 hl) ?_
  refine z_evL ?_
  refine z_evG 4 (y := z_ret (z_cl E (d + 11) 8 [.ref 43, .int (nI y)] (161, (I, J, RF w))) 31 [some (.ref 0), some (.int e), some (.int (nI x)), some (.int (nI l)), some (.int (nI y)), some (.int (-1))] []) (fun _ => rfl) ?_
  refine z_evK (v := .int (z_bo (¬ (nI y) < 0 ∧ (nI y) < I 43 1))) (z' := 161) (σ' := (I, J, RF w)) (x_lights_has E (d + 10) I J w (nI y)) ?_
  refine z_evG 1 (y := if (z_bo (¬ (nI y) < 0 ∧ (nI y) < I 43 1)) = 0 then z_go 53 [some (.ref 0), some (.int e), some (.int (nI x)), some (.int (nI l)), some (.int (nI y)), some (.int (-1))] [] 161 (I, J, RF w) else z_go 34 [some (.ref 0), some (.int e), some (.int (nI x)), some (.int (nI l)), some (.int (nI y)), some (.int (-1))] [] 161 (I, J, RF w)) (fun _ => rfl) ?_
  refine z_evF (fun q0 => z_bo_0.mp q0 hy) ?_
  refine z_evL ?_
  refine z_evG 4 (y := z_ret (z_cl E (d + 11) 109 [.ref 37, .int (nI x)] (161, (I, J, RF w))) 42 [some (.ref 0), some (.int e), some (.int (nI x)), some (.int (nI l)), some (.int (nI y)), some (.int (-1))] []) (fun _ => rfl) ?_
  refine z_evK (v := .int (z_bo (((nI x) &&& ((-1) <<< (I 37 7 &&& 31))) = 0))) (z' := 161) (σ' := (I, J, RF w)) (x_things_hasAll E (d + 9) I J w (nI x)) ?_
  refine z_evG 1 (y := if (z_bo (((nI x) &&& ((-1) <<< (I 37 7 &&& 31))) = 0)) = 0 then z_go 53 [some (.ref 0), some (.int e), some (.int (nI x)), some (.int (nI l)), some (.int (nI y)), some (.int (-1))] [] 161 (I, J, RF w) else z_go 45 [some (.ref 0), some (.int e), some (.int (nI x)), some (.int (nI l)), some (.int (nI y)), some (.int (-1))] [] 161 (I, J, RF w)) (fun _ => rfl) ?_
  refine z_evF (fun q0 => z_bo_0.mp q0 hb) ?_
  refine z_evL ?_
  refine z_evG 2 (y := z_ret (z_cl E (d + 11) 256 [.int (nI x)] (161, (I, J, RF w))) 49 [some (.ref 0), some (.int e), some (.int (nI x)), some (.int (nI l)), some (.int (nI y)), some (.int (-1))] []) (fun _ => rfl) ?_
  refine z_evK (v := .int (nI (s_pn x 24))) (z' := 161) (σ' := (I, J, RF w)) (x_bitCount E (d + 10) I J w x (by omega)) ?_
  refine z_evG 2 (y := if 5 < (nI (s_pn x 24)) then z_go 53 [some (.ref 0), some (.int e), some (.int (nI x)), some (.int (nI l)), some (.int (nI y)), some (.int (-1))] [] 161 (I, J, RF w) else z_go 56 [some (.ref 0), some (.int e), some (.int (nI x)), some (.int (nI l)), some (.int (nI y)), some (.int (-1))] [] 161 (I, J, RF w)) (fun _ => rfl) ?_
  refine z_evF (mt (show _ ↔ 5 < s_pn x 24 from z_ltN rfl rfl (by omega) (by omega)).mp (by omega)) ?_
  refine z_evL ?_
  refine z_evG 7 (y := z_ret (z_cl E (d + 11) 11 [.ref 43, .int (nI y)] (161, (I, J, RF w))) 70 [some (.ref 0), some (.int e), some (.int (nI x)), some (.int (nI l)), some (.int (nI y)), some (.int (-1))] [.int e, .ref 91]) (fun _ => rfl) ?_
  refine z_evK (v := .ref (45 + y)) (z' := 161) (σ' := (I, J, RF w)) (x_lights_getN E (d + 10) I J w y (by omega)) ?_
  refine z_evG 3 (y := z_ret (z_cl E (d + 11) 37 [.ref 91, .int e, .ref (45 + y), .int (I 0 13)] (161, (I, J, RF w))) 77 [some (.ref 0), some (.int e), some (.int (nI x)), some (.int (nI l)), some (.int (nI y)), some (.int (-1))] []) (fun _ => rfl) ?_
  refine z_evV (z' := 161) (σ' := ((z_u2 (z_u2 (z_u2 I 91 3 e) 91 4 (I 0 13)) 91 6 0), J, RF (45 + y))) (x_wish E (d + 10) I J w e (45 + y) (I 0 13) (Nat.ble_eq.mpr (by omega))) ?_
  refine z_evG 7 (y := z_ret (z_cl E (d + 11) 11 [.ref 43, .int (nI l)] (161, ((z_u2 (z_u2 (z_u2 I 91 3 e) 91 4 (I 0 13)) 91 6 0), J, RF (45 + y)))) 90 [some (.ref 0), some (.int e), some (.int (nI x)), some (.int (nI l)), some (.int (nI y)), some (.int (-1))] [.int (nI x), .ref 91]) (fun _ => rfl) ?_
  refine z_evK (v := .ref (45 + l)) (z' := 161) (σ' := ((z_u2 (z_u2 (z_u2 I 91 3 e) 91 4 (I 0 13)) 91 6 0), J, RF (45 + y))) (x_lights_getN E (d + 10) (z_u2 (z_u2 (z_u2 I 91 3 e) 91 4 (I 0 13)) 91 6 0) J (45 + y) l (by omega)) ?_
  refine z_evG 1 (y := z_ret (z_cl E (d + 11) 44 [.ref 91, .int (nI x), .ref (45 + l)] (161, ((z_u2 (z_u2 (z_u2 I 91 3 e) 91 4 (I 0 13)) 91 6 0), J, RF (45 + y)))) 93 [some (.ref 0), some (.int e), some (.int (nI x)), some (.int (nI l)), some (.int (nI y)), some (.int (-1))] []) (fun _ => rfl) ?_
  refine z_evV (z' := 161) (σ' := (I1, J, RF (45 + y))) t1 ?_
  refine z_evG 3 (y := if (-1) = (-1) then z_go 99 [some (.ref 0), some (.int e), some (.int (nI x)), some (.int (nI l)), some (.int (nI y)), some (.int (-1))] [] 161 (I1, J, RF (45 + y)) else z_go 107 [some (.ref 0), some (.int e), some (.int (nI x)), some (.int (nI l)), some (.int (nI y)), some (.int (-1))] [] 161 (I1, J, RF (45 + y))) (fun _ => rfl) ?_
  refine z_evI (fun _ => ?_) (fun q => absurd (by decide) q)
  refine z_evL ?_
  refine z_evG 3 (y := z_ret (z_cl E (d + 11) 38 [.ref 91] (161, (I1, J, RF (45 + y)))) 106 [some (.ref 0), some (.int e), some (.int (nI x)), some (.int (nI l)), some (.int (nI y)), some (.int (-1))] []) (fun _ => rfl) ?_
  refine z_evK (v := .int (I1 91 7)) (z' := 161) (σ' := (I1, J, RF (45 + y))) (x_near_likeness E (d + 10) I1 J (45 + y)) ?_
  refine z_evG 1 (y := some (.inr (some (.int (I1 91 7)), 161, I1, J, RF (45 + y)))) (fun _ => rfl) ?_
  exact z_evR rfl
set_option maxRecDepth 20000 in
theorem x_layers_s2 (E : zE) (d : Nat) (I : Nat → Nat → Int32) (J : Nat → Nat → Int64) (w : Nat) (e : Int32) (x l y : Nat) (I1 : Nat → Nat → Int32) (hx : x < 2 ^ 24) (hb : (nI x &&& ((-1) <<< (I 37 7 &&& 31))) = 0) (he : ¬ e < 0 ∧ e < I 65 3) (hl : ¬ nI l < 0 ∧ nI l < I 43 1) (hy : ¬ nI y < 0 ∧ nI y < I 43 1) (hl2 : l < 20) (hy2 : y < 20) (h5 : s_pn x 24 ≤ 5) (t1 : z_cl E (d + 11) 44 [.ref 91, .int (nI x), .ref (45 + l)] (161, (z_u2 (z_u2 (z_u2 I 91 3 e) 91 4 (I 0 13)) 91 6 0), J, RF (45 + y)) = some (none, 161, I1, J, RF (45 + y))) : z_Ev E (d + 11) z_m148 0 [some (.ref 0), some (.int e), some (.int (nI x)), some (.int (nI l)), some (.int (nI y)), some (.int (-2))] [] 161 (I, J, RF w) (some (.int (I1 91 15)), 161, I1, J, RF (45 + y)) := by
  have hsp := s_pn_le x 24
  refine z_evG 4 (y := z_ret (z_cl E (d + 11) 15 [.ref 65, .int e] (161, (I, J, RF w))) 8 [some (.ref 0), some (.int e), some (.int (nI x)), some (.int (nI l)), some (.int (nI y)), some (.int (-2))] []) (fun _ => rfl) ?_
  refine z_evK (v := .int (z_bo (¬ e < 0 ∧ e < I 65 3))) (z' := 161) (σ' := (I, J, RF w)) (x_eyes_has E (d + 10) I J w e) ?_
  refine z_evG 1 (y := if (z_bo (¬ e < 0 ∧ e < I 65 3)) = 0 then z_go 53 [some (.ref 0), some (.int e), some (.int (nI x)), some (.int (nI l)), some (.int (nI y)), some (.int (-2))] [] 161 (I, J, RF w) else z_go 11 [some (.ref 0), some (.int e), some (.int (nI x)), some (.int (nI l)), some (.int (nI y)), some (.int (-2))] [] 161 (I, J, RF w)) (fun _ => rfl) ?_
  refine z_evF (fun q0 => z_bo_0.mp q0 he) ?_
  refine z_evL ?_
  refine z_evG 4 (y := z_ret (z_cl E (d + 11) 8 [.ref 43, .int (nI l)] (161, (I, J, RF w))) 19 [some (.ref 0), some (.int e), some (.int (nI x)), some (.int (nI l)), some (.int (nI y)), some (.int (-2))] []) (fun _ => rfl) ?_
  refine z_evK (v := .int (z_bo (¬ (nI l) < 0 ∧ (nI l) < I 43 1))) (z' := 161) (σ' := (I, J, RF w)) (x_lights_has E (d + 10) I J w (nI l)) ?_
  refine z_evG 1 (y := if (z_bo (¬ (nI l) < 0 ∧ (nI l) < I 43 1)) = 0 then z_go 53 [some (.ref 0), some (.int e), some (.int (nI x)), some (.int (nI l)), some (.int (nI y)), some (.int (-2))] [] 161 (I, J, RF w) else z_go 22 [some (.ref 0), some (.int e), some (.int (nI x)), some (.int (nI l)), some (.int (nI y)), some (.int (-2))] [] 161 (I, J, RF w)) (fun _ => rfl) ?_
  refine z_evF (fun q0 => z_bo_0.mp q0 hl) ?_
  refine z_evL ?_
  refine z_evG 4 (y := z_ret (z_cl E (d + 11) 8 [.ref 43, .int (nI y)] (161, (I, J, RF w))) 31 [some (.ref 0), some (.int e), some (.int (nI x)), some (.int (nI l)), some (.int (nI y)), some (.int (-2))] []) (fun _ => rfl) ?_
  refine z_evK (v := .int (z_bo (¬ (nI y) < 0 ∧ (nI y) < I 43 1))) (z' := 161) (σ' := (I, J, RF w)) (x_lights_has E (d + 10) I J w (nI y)) ?_
  refine z_evG 1 (y := if (z_bo (¬ (nI y) < 0 ∧ (nI y) < I 43 1)) = 0 then z_go 53 [some (.ref 0), some (.int e), some (.int (nI x)), some (.int (nI l)), some (.int (nI y)), some (.int (-2))] [] 161 (I, J, RF w) else z_go 34 [some (.ref 0), some (.int e), some (.int (nI x)), some (.int (nI l)), some (.int (nI y)), some (.int (-2))] [] 161 (I, J, RF w)) (fun _ => rfl) ?_
  refine z_evF (fun q0 => z_bo_0.mp q0 hy) ?_
  refine z_evL ?_
  refine z_evG 4 (y := z_ret (z_cl E (d + 11) 109 [.ref 37, .int (nI x)] (161, (I, J, RF w))) 42 [some (.ref 0), some (.int e), some (.int (nI x)), some (.int (nI l)), some (.int (nI y)), some (.int (-2))] []) (fun _ => rfl) ?_
  refine z_evK (v := .int (z_bo (((nI x) &&& ((-1) <<< (I 37 7 &&& 31))) = 0))) (z' := 161) (σ' := (I, J, RF w)) (x_things_hasAll E (d + 9) I J w (nI x)) ?_
  refine z_evG 1 (y := if (z_bo (((nI x) &&& ((-1) <<< (I 37 7 &&& 31))) = 0)) = 0 then z_go 53 [some (.ref 0), some (.int e), some (.int (nI x)), some (.int (nI l)), some (.int (nI y)), some (.int (-2))] [] 161 (I, J, RF w) else z_go 45 [some (.ref 0), some (.int e), some (.int (nI x)), some (.int (nI l)), some (.int (nI y)), some (.int (-2))] [] 161 (I, J, RF w)) (fun _ => rfl) ?_
  refine z_evF (fun q0 => z_bo_0.mp q0 hb) ?_
  refine z_evL ?_
  refine z_evG 2 (y := z_ret (z_cl E (d + 11) 256 [.int (nI x)] (161, (I, J, RF w))) 49 [some (.ref 0), some (.int e), some (.int (nI x)), some (.int (nI l)), some (.int (nI y)), some (.int (-2))] []) (fun _ => rfl) ?_
  refine z_evK (v := .int (nI (s_pn x 24))) (z' := 161) (σ' := (I, J, RF w)) (x_bitCount E (d + 10) I J w x (by omega)) ?_
  refine z_evG 2 (y := if 5 < (nI (s_pn x 24)) then z_go 53 [some (.ref 0), some (.int e), some (.int (nI x)), some (.int (nI l)), some (.int (nI y)), some (.int (-2))] [] 161 (I, J, RF w) else z_go 56 [some (.ref 0), some (.int e), some (.int (nI x)), some (.int (nI l)), some (.int (nI y)), some (.int (-2))] [] 161 (I, J, RF w)) (fun _ => rfl) ?_
  refine z_evF (mt (show _ ↔ 5 < s_pn x 24 from z_ltN rfl rfl (by omega) (by omega)).mp (by omega)) ?_
  refine z_evL ?_
  refine z_evG 7 (y := z_ret (z_cl E (d + 11) 11 [.ref 43, .int (nI y)] (161, (I, J, RF w))) 70 [some (.ref 0), some (.int e), some (.int (nI x)), some (.int (nI l)), some (.int (nI y)), some (.int (-2))] [.int e, .ref 91]) (fun _ => rfl) ?_
  refine z_evK (v := .ref (45 + y)) (z' := 161) (σ' := (I, J, RF w)) (x_lights_getN E (d + 10) I J w y (by omega)) ?_
  refine z_evG 3 (y := z_ret (z_cl E (d + 11) 37 [.ref 91, .int e, .ref (45 + y), .int (I 0 13)] (161, (I, J, RF w))) 77 [some (.ref 0), some (.int e), some (.int (nI x)), some (.int (nI l)), some (.int (nI y)), some (.int (-2))] []) (fun _ => rfl) ?_
  refine z_evV (z' := 161) (σ' := ((z_u2 (z_u2 (z_u2 I 91 3 e) 91 4 (I 0 13)) 91 6 0), J, RF (45 + y))) (x_wish E (d + 10) I J w e (45 + y) (I 0 13) (Nat.ble_eq.mpr (by omega))) ?_
  refine z_evG 7 (y := z_ret (z_cl E (d + 11) 11 [.ref 43, .int (nI l)] (161, ((z_u2 (z_u2 (z_u2 I 91 3 e) 91 4 (I 0 13)) 91 6 0), J, RF (45 + y)))) 90 [some (.ref 0), some (.int e), some (.int (nI x)), some (.int (nI l)), some (.int (nI y)), some (.int (-2))] [.int (nI x), .ref 91]) (fun _ => rfl) ?_
  refine z_evK (v := .ref (45 + l)) (z' := 161) (σ' := ((z_u2 (z_u2 (z_u2 I 91 3 e) 91 4 (I 0 13)) 91 6 0), J, RF (45 + y))) (x_lights_getN E (d + 10) (z_u2 (z_u2 (z_u2 I 91 3 e) 91 4 (I 0 13)) 91 6 0) J (45 + y) l (by omega)) ?_
  refine z_evG 1 (y := z_ret (z_cl E (d + 11) 44 [.ref 91, .int (nI x), .ref (45 + l)] (161, ((z_u2 (z_u2 (z_u2 I 91 3 e) 91 4 (I 0 13)) 91 6 0), J, RF (45 + y)))) 93 [some (.ref 0), some (.int e), some (.int (nI x)), some (.int (nI l)), some (.int (nI y)), some (.int (-2))] []) (fun _ => rfl) ?_
  refine z_evV (z' := 161) (σ' := (I1, J, RF (45 + y))) t1 ?_
  refine z_evG 3 (y := if (-2) = (-1) then z_go 99 [some (.ref 0), some (.int e), some (.int (nI x)), some (.int (nI l)), some (.int (nI y)), some (.int (-2))] [] 161 (I1, J, RF (45 + y)) else z_go 107 [some (.ref 0), some (.int e), some (.int (nI x)), some (.int (nI l)), some (.int (nI y)), some (.int (-2))] [] 161 (I1, J, RF (45 + y))) (fun _ => rfl) ?_
  refine z_evI (fun q => absurd q (by decide)) (fun _ => ?_)
  refine z_evL ?_
  refine z_evG 3 (y := if (-2) = (-2) then z_go 114 [some (.ref 0), some (.int e), some (.int (nI x)), some (.int (nI l)), some (.int (nI y)), some (.int (-2))] [] 161 (I1, J, RF (45 + y)) else z_go 122 [some (.ref 0), some (.int e), some (.int (nI x)), some (.int (nI l)), some (.int (nI y)), some (.int (-2))] [] 161 (I1, J, RF (45 + y))) (fun _ => rfl) ?_
  refine z_evI (fun _ => ?_) (fun q => absurd (by decide) q)
  refine z_evL ?_
  refine z_evG 3 (y := z_ret (z_cl E (d + 11) 40 [.ref 91] (161, (I1, J, RF (45 + y)))) 121 [some (.ref 0), some (.int e), some (.int (nI x)), some (.int (nI l)), some (.int (nI y)), some (.int (-2))] []) (fun _ => rfl) ?_
  refine z_evK (v := .int (I1 91 15)) (z' := 161) (σ' := (I1, J, RF (45 + y))) (x_near_layerCount E (d + 10) I1 J (45 + y)) ?_
  refine z_evG 1 (y := some (.inr (some (.int (I1 91 15)), 161, I1, J, RF (45 + y)))) (fun _ => rfl) ?_
  exact z_evR rfl
set_option maxRecDepth 20000 in
theorem x_layers_s3 (E : zE) (d : Nat) (I : Nat → Nat → Int32) (J : Nat → Nat → Int64) (w : Nat) (e : Int32) (x l y : Nat) (I1 : Nat → Nat → Int32) (j z : Nat) (hx : x < 2 ^ 24) (hb : (nI x &&& ((-1) <<< (I 37 7 &&& 31))) = 0) (he : ¬ e < 0 ∧ e < I 65 3) (hl : ¬ nI l < 0 ∧ nI l < I 43 1) (hy : ¬ nI y < 0 ∧ nI y < I 43 1) (hl2 : l < 20) (hy2 : y < 20) (h5 : s_pn x 24 ≤ 5) (t1 : z_cl E (d + 11) 44 [.ref 91, .int (nI x), .ref (45 + l)] (161, (z_u2 (z_u2 (z_u2 I 91 3 e) 91 4 (I 0 13)) 91 6 0), J, RF (45 + y)) = some (none, 161, I1, J, RF (45 + y))) (hz : I1 91 15 = nI z) (hj : j < z) (hz5 : z ≤ 5) : z_Ev E (d + 11) z_m148 0 [some (.ref 0), some (.int e), some (.int (nI x)), some (.int (nI l)), some (.int (nI y)), some (.int (nI j))] [] 161 (I, J, RF w) (some (.int (I1 105 j)), 161, I1, J, RF (45 + y)) := by
  have hsp := s_pn_le x 24
  refine z_evG 4 (y := z_ret (z_cl E (d + 11) 15 [.ref 65, .int e] (161, (I, J, RF w))) 8 [some (.ref 0), some (.int e), some (.int (nI x)), some (.int (nI l)), some (.int (nI y)), some (.int (nI j))] []) (fun _ => rfl) ?_
  refine z_evK (v := .int (z_bo (¬ e < 0 ∧ e < I 65 3))) (z' := 161) (σ' := (I, J, RF w)) (x_eyes_has E (d + 10) I J w e) ?_
  refine z_evG 1 (y := if (z_bo (¬ e < 0 ∧ e < I 65 3)) = 0 then z_go 53 [some (.ref 0), some (.int e), some (.int (nI x)), some (.int (nI l)), some (.int (nI y)), some (.int (nI j))] [] 161 (I, J, RF w) else z_go 11 [some (.ref 0), some (.int e), some (.int (nI x)), some (.int (nI l)), some (.int (nI y)), some (.int (nI j))] [] 161 (I, J, RF w)) (fun _ => rfl) ?_
  refine z_evF (fun q0 => z_bo_0.mp q0 he) ?_
  refine z_evL ?_
  refine z_evG 4 (y := z_ret (z_cl E (d + 11) 8 [.ref 43, .int (nI l)] (161, (I, J, RF w))) 19 [some (.ref 0), some (.int e), some (.int (nI x)), some (.int (nI l)), some (.int (nI y)), some (.int (nI j))] []) (fun _ => rfl) ?_
  refine z_evK (v := .int (z_bo (¬ (nI l) < 0 ∧ (nI l) < I 43 1))) (z' := 161) (σ' := (I, J, RF w)) (x_lights_has E (d + 10) I J w (nI l)) ?_
  refine z_evG 1 (y := if (z_bo (¬ (nI l) < 0 ∧ (nI l) < I 43 1)) = 0 then z_go 53 [some (.ref 0), some (.int e), some (.int (nI x)), some (.int (nI l)), some (.int (nI y)), some (.int (nI j))] [] 161 (I, J, RF w) else z_go 22 [some (.ref 0), some (.int e), some (.int (nI x)), some (.int (nI l)), some (.int (nI y)), some (.int (nI j))] [] 161 (I, J, RF w)) (fun _ => rfl) ?_
  refine z_evF (fun q0 => z_bo_0.mp q0 hl) ?_
  refine z_evL ?_
  refine z_evG 4 (y := z_ret (z_cl E (d + 11) 8 [.ref 43, .int (nI y)] (161, (I, J, RF w))) 31 [some (.ref 0), some (.int e), some (.int (nI x)), some (.int (nI l)), some (.int (nI y)), some (.int (nI j))] []) (fun _ => rfl) ?_
  refine z_evK (v := .int (z_bo (¬ (nI y) < 0 ∧ (nI y) < I 43 1))) (z' := 161) (σ' := (I, J, RF w)) (x_lights_has E (d + 10) I J w (nI y)) ?_
  refine z_evG 1 (y := if (z_bo (¬ (nI y) < 0 ∧ (nI y) < I 43 1)) = 0 then z_go 53 [some (.ref 0), some (.int e), some (.int (nI x)), some (.int (nI l)), some (.int (nI y)), some (.int (nI j))] [] 161 (I, J, RF w) else z_go 34 [some (.ref 0), some (.int e), some (.int (nI x)), some (.int (nI l)), some (.int (nI y)), some (.int (nI j))] [] 161 (I, J, RF w)) (fun _ => rfl) ?_
  refine z_evF (fun q0 => z_bo_0.mp q0 hy) ?_
  refine z_evL ?_
  refine z_evG 4 (y := z_ret (z_cl E (d + 11) 109 [.ref 37, .int (nI x)] (161, (I, J, RF w))) 42 [some (.ref 0), some (.int e), some (.int (nI x)), some (.int (nI l)), some (.int (nI y)), some (.int (nI j))] []) (fun _ => rfl) ?_
  refine z_evK (v := .int (z_bo (((nI x) &&& ((-1) <<< (I 37 7 &&& 31))) = 0))) (z' := 161) (σ' := (I, J, RF w)) (x_things_hasAll E (d + 9) I J w (nI x)) ?_
  refine z_evG 1 (y := if (z_bo (((nI x) &&& ((-1) <<< (I 37 7 &&& 31))) = 0)) = 0 then z_go 53 [some (.ref 0), some (.int e), some (.int (nI x)), some (.int (nI l)), some (.int (nI y)), some (.int (nI j))] [] 161 (I, J, RF w) else z_go 45 [some (.ref 0), some (.int e), some (.int (nI x)), some (.int (nI l)), some (.int (nI y)), some (.int (nI j))] [] 161 (I, J, RF w)) (fun _ => rfl) ?_
  refine z_evF (fun q0 => z_bo_0.mp q0 hb) ?_
  refine z_evL ?_
  refine z_evG 2 (y := z_ret (z_cl E (d + 11) 256 [.int (nI x)] (161, (I, J, RF w))) 49 [some (.ref 0), some (.int e), some (.int (nI x)), some (.int (nI l)), some (.int (nI y)), some (.int (nI j))] []) (fun _ => rfl) ?_
  refine z_evK (v := .int (nI (s_pn x 24))) (z' := 161) (σ' := (I, J, RF w)) (x_bitCount E (d + 10) I J w x (by omega)) ?_
  refine z_evG 2 (y := if 5 < (nI (s_pn x 24)) then z_go 53 [some (.ref 0), some (.int e), some (.int (nI x)), some (.int (nI l)), some (.int (nI y)), some (.int (nI j))] [] 161 (I, J, RF w) else z_go 56 [some (.ref 0), some (.int e), some (.int (nI x)), some (.int (nI l)), some (.int (nI y)), some (.int (nI j))] [] 161 (I, J, RF w)) (fun _ => rfl) ?_
  refine z_evF (mt (show _ ↔ 5 < s_pn x 24 from z_ltN rfl rfl (by omega) (by omega)).mp (by omega)) ?_
  refine z_evL ?_
  refine z_evG 7 (y := z_ret (z_cl E (d + 11) 11 [.ref 43, .int (nI y)] (161, (I, J, RF w))) 70 [some (.ref 0), some (.int e), some (.int (nI x)), some (.int (nI l)), some (.int (nI y)), some (.int (nI j))] [.int e, .ref 91]) (fun _ => rfl) ?_
  refine z_evK (v := .ref (45 + y)) (z' := 161) (σ' := (I, J, RF w)) (x_lights_getN E (d + 10) I J w y (by omega)) ?_
  refine z_evG 3 (y := z_ret (z_cl E (d + 11) 37 [.ref 91, .int e, .ref (45 + y), .int (I 0 13)] (161, (I, J, RF w))) 77 [some (.ref 0), some (.int e), some (.int (nI x)), some (.int (nI l)), some (.int (nI y)), some (.int (nI j))] []) (fun _ => rfl) ?_
  refine z_evV (z' := 161) (σ' := ((z_u2 (z_u2 (z_u2 I 91 3 e) 91 4 (I 0 13)) 91 6 0), J, RF (45 + y))) (x_wish E (d + 10) I J w e (45 + y) (I 0 13) (Nat.ble_eq.mpr (by omega))) ?_
  refine z_evG 7 (y := z_ret (z_cl E (d + 11) 11 [.ref 43, .int (nI l)] (161, ((z_u2 (z_u2 (z_u2 I 91 3 e) 91 4 (I 0 13)) 91 6 0), J, RF (45 + y)))) 90 [some (.ref 0), some (.int e), some (.int (nI x)), some (.int (nI l)), some (.int (nI y)), some (.int (nI j))] [.int (nI x), .ref 91]) (fun _ => rfl) ?_
  refine z_evK (v := .ref (45 + l)) (z' := 161) (σ' := ((z_u2 (z_u2 (z_u2 I 91 3 e) 91 4 (I 0 13)) 91 6 0), J, RF (45 + y))) (x_lights_getN E (d + 10) (z_u2 (z_u2 (z_u2 I 91 3 e) 91 4 (I 0 13)) 91 6 0) J (45 + y) l (by omega)) ?_
  refine z_evG 1 (y := z_ret (z_cl E (d + 11) 44 [.ref 91, .int (nI x), .ref (45 + l)] (161, ((z_u2 (z_u2 (z_u2 I 91 3 e) 91 4 (I 0 13)) 91 6 0), J, RF (45 + y)))) 93 [some (.ref 0), some (.int e), some (.int (nI x)), some (.int (nI l)), some (.int (nI y)), some (.int (nI j))] []) (fun _ => rfl) ?_
  refine z_evV (z' := 161) (σ' := (I1, J, RF (45 + y))) t1 ?_
  refine z_evG 3 (y := if (nI j) = (-1) then z_go 99 [some (.ref 0), some (.int e), some (.int (nI x)), some (.int (nI l)), some (.int (nI y)), some (.int (nI j))] [] 161 (I1, J, RF (45 + y)) else z_go 107 [some (.ref 0), some (.int e), some (.int (nI x)), some (.int (nI l)), some (.int (nI y)), some (.int (nI j))] [] 161 (I1, J, RF (45 + y))) (fun _ => rfl) ?_
  refine z_evF (z_nneg rfl (by omega) (by decide)) ?_
  refine z_evL ?_
  refine z_evG 3 (y := if (nI j) = (-2) then z_go 114 [some (.ref 0), some (.int e), some (.int (nI x)), some (.int (nI l)), some (.int (nI y)), some (.int (nI j))] [] 161 (I1, J, RF (45 + y)) else z_go 122 [some (.ref 0), some (.int e), some (.int (nI x)), some (.int (nI l)), some (.int (nI y)), some (.int (nI j))] [] 161 (I1, J, RF (45 + y))) (fun _ => rfl) ?_
  refine z_evF (z_nneg rfl (by omega) (by decide)) ?_
  refine z_evL ?_
  refine z_evG 2 (y := if (nI j) < 0 then z_go 151 [some (.ref 0), some (.int e), some (.int (nI x)), some (.int (nI l)), some (.int (nI y)), some (.int (nI j))] [] 161 (I1, J, RF (45 + y)) else z_go 127 [some (.ref 0), some (.int e), some (.int (nI x)), some (.int (nI l)), some (.int (nI y)), some (.int (nI j))] [] 161 (I1, J, RF (45 + y))) (fun _ => rfl) ?_
  refine z_evF ((mt (show _ ↔ j < 0 from z_ltN rfl rfl (by omega) (by omega)).mp (by omega))) ?_
  refine z_evL ?_
  refine z_evG 4 (y := z_ret (z_cl E (d + 11) 40 [.ref 91] (161, (I1, J, RF (45 + y)))) 136 [some (.ref 0), some (.int e), some (.int (nI x)), some (.int (nI l)), some (.int (nI y)), some (.int (nI j))] [.int (nI j)]) (fun _ => rfl) ?_
  refine z_evK (v := .int (I1 91 15)) (z' := 161) (σ' := (I1, J, RF (45 + y))) (x_near_layerCount E (d + 10) I1 J (45 + y)) ?_
  refine z_evG 1 (y := if (nI j) < (I1 91 15) then z_go 139 [some (.ref 0), some (.int e), some (.int (nI x)), some (.int (nI l)), some (.int (nI y)), some (.int (nI j))] [] 161 (I1, J, RF (45 + y)) else z_go 151 [some (.ref 0), some (.int e), some (.int (nI x)), some (.int (nI l)), some (.int (nI y)), some (.int (nI j))] [] 161 (I1, J, RF (45 + y))) (fun _ => rfl) ?_
  refine z_evT (((show _ ↔ j < z from z_ltN rfl hz (by omega) (by omega)).mpr (by omega))) ?_
  refine z_evL ?_
  refine z_evG 4 (y := z_ret (z_cl E (d + 11) 41 [.ref 91, .int (nI j)] (161, (I1, J, RF (45 + y)))) 148 [some (.ref 0), some (.int e), some (.int (nI x)), some (.int (nI l)), some (.int (nI y)), some (.int (nI j))] []) (fun _ => rfl) ?_
  refine z_evK (v := .int (I1 105 j)) (z' := 161) (σ' := (I1, J, RF (45 + y))) (x_near_layerN E (d + 10) I1 J (45 + y) j (by omega)) ?_
  refine z_evG 2 (y := some (.inr (some (.int (I1 105 j)), 161, I1, J, RF (45 + y)))) (fun _ => rfl) ?_
  exact z_evR rfl
set_option maxRecDepth 20000 in
theorem x_layers_s4 (E : zE) (d : Nat) (I : Nat → Nat → Int32) (J : Nat → Nat → Int64) (w : Nat) (e : Int32) (x l y : Nat) (I1 : Nat → Nat → Int32) (i : Int32) (hx : x < 2 ^ 24) (hb : (nI x &&& ((-1) <<< (I 37 7 &&& 31))) = 0) (he : ¬ e < 0 ∧ e < I 65 3) (hl : ¬ nI l < 0 ∧ nI l < I 43 1) (hy : ¬ nI y < 0 ∧ nI y < I 43 1) (hl2 : l < 20) (hy2 : y < 20) (h5 : s_pn x 24 ≤ 5) (t1 : z_cl E (d + 11) 44 [.ref 91, .int (nI x), .ref (45 + l)] (161, (z_u2 (z_u2 (z_u2 I 91 3 e) 91 4 (I 0 13)) 91 6 0), J, RF (45 + y)) = some (none, 161, I1, J, RF (45 + y))) (i1 : ¬ i = (-1)) (i2 : ¬ i = (-2)) (i3 : ¬ (¬ i < 0 ∧ i < I1 91 15)) : z_Ev E (d + 11) z_m148 0 [some (.ref 0), some (.int e), some (.int (nI x)), some (.int (nI l)), some (.int (nI y)), some (.int i)] [] 161 (I, J, RF w) (some (.int (-1)), 161, I1, J, RF (45 + y)) := by
  have hsp := s_pn_le x 24
  refine z_evG 4 (y := z_ret (z_cl E (d + 11) 15 [.ref 65, .int e] (161, (I, J, RF w))) 8 [some (.ref 0), some (.int e), some (.int (nI x)), some (.int (nI l)), some (.int (nI y)), some (.int i)] []) (fun _ => rfl) ?_
  refine z_evK (v := .int (z_bo (¬ e < 0 ∧ e < I 65 3))) (z' := 161) (σ' := (I, J, RF w)) (x_eyes_has E (d + 10) I J w e) ?_
  refine z_evG 1 (y := if (z_bo (¬ e < 0 ∧ e < I 65 3)) = 0 then z_go 53 [some (.ref 0), some (.int e), some (.int (nI x)), some (.int (nI l)), some (.int (nI y)), some (.int i)] [] 161 (I, J, RF w) else z_go 11 [some (.ref 0), some (.int e), some (.int (nI x)), some (.int (nI l)), some (.int (nI y)), some (.int i)] [] 161 (I, J, RF w)) (fun _ => rfl) ?_
  refine z_evF (fun q0 => z_bo_0.mp q0 he) ?_
  refine z_evL ?_
  refine z_evG 4 (y := z_ret (z_cl E (d + 11) 8 [.ref 43, .int (nI l)] (161, (I, J, RF w))) 19 [some (.ref 0), some (.int e), some (.int (nI x)), some (.int (nI l)), some (.int (nI y)), some (.int i)] []) (fun _ => rfl) ?_
  refine z_evK (v := .int (z_bo (¬ (nI l) < 0 ∧ (nI l) < I 43 1))) (z' := 161) (σ' := (I, J, RF w)) (x_lights_has E (d + 10) I J w (nI l)) ?_
  refine z_evG 1 (y := if (z_bo (¬ (nI l) < 0 ∧ (nI l) < I 43 1)) = 0 then z_go 53 [some (.ref 0), some (.int e), some (.int (nI x)), some (.int (nI l)), some (.int (nI y)), some (.int i)] [] 161 (I, J, RF w) else z_go 22 [some (.ref 0), some (.int e), some (.int (nI x)), some (.int (nI l)), some (.int (nI y)), some (.int i)] [] 161 (I, J, RF w)) (fun _ => rfl) ?_
  refine z_evF (fun q0 => z_bo_0.mp q0 hl) ?_
  refine z_evL ?_
  refine z_evG 4 (y := z_ret (z_cl E (d + 11) 8 [.ref 43, .int (nI y)] (161, (I, J, RF w))) 31 [some (.ref 0), some (.int e), some (.int (nI x)), some (.int (nI l)), some (.int (nI y)), some (.int i)] []) (fun _ => rfl) ?_
  refine z_evK (v := .int (z_bo (¬ (nI y) < 0 ∧ (nI y) < I 43 1))) (z' := 161) (σ' := (I, J, RF w)) (x_lights_has E (d + 10) I J w (nI y)) ?_
  refine z_evG 1 (y := if (z_bo (¬ (nI y) < 0 ∧ (nI y) < I 43 1)) = 0 then z_go 53 [some (.ref 0), some (.int e), some (.int (nI x)), some (.int (nI l)), some (.int (nI y)), some (.int i)] [] 161 (I, J, RF w) else z_go 34 [some (.ref 0), some (.int e), some (.int (nI x)), some (.int (nI l)), some (.int (nI y)), some (.int i)] [] 161 (I, J, RF w)) (fun _ => rfl) ?_
  refine z_evF (fun q0 => z_bo_0.mp q0 hy) ?_
  refine z_evL ?_
  refine z_evG 4 (y := z_ret (z_cl E (d + 11) 109 [.ref 37, .int (nI x)] (161, (I, J, RF w))) 42 [some (.ref 0), some (.int e), some (.int (nI x)), some (.int (nI l)), some (.int (nI y)), some (.int i)] []) (fun _ => rfl) ?_
  refine z_evK (v := .int (z_bo (((nI x) &&& ((-1) <<< (I 37 7 &&& 31))) = 0))) (z' := 161) (σ' := (I, J, RF w)) (x_things_hasAll E (d + 9) I J w (nI x)) ?_
  refine z_evG 1 (y := if (z_bo (((nI x) &&& ((-1) <<< (I 37 7 &&& 31))) = 0)) = 0 then z_go 53 [some (.ref 0), some (.int e), some (.int (nI x)), some (.int (nI l)), some (.int (nI y)), some (.int i)] [] 161 (I, J, RF w) else z_go 45 [some (.ref 0), some (.int e), some (.int (nI x)), some (.int (nI l)), some (.int (nI y)), some (.int i)] [] 161 (I, J, RF w)) (fun _ => rfl) ?_
  refine z_evF (fun q0 => z_bo_0.mp q0 hb) ?_
  refine z_evL ?_
  refine z_evG 2 (y := z_ret (z_cl E (d + 11) 256 [.int (nI x)] (161, (I, J, RF w))) 49 [some (.ref 0), some (.int e), some (.int (nI x)), some (.int (nI l)), some (.int (nI y)), some (.int i)] []) (fun _ => rfl) ?_
  refine z_evK (v := .int (nI (s_pn x 24))) (z' := 161) (σ' := (I, J, RF w)) (x_bitCount E (d + 10) I J w x (by omega)) ?_
  refine z_evG 2 (y := if 5 < (nI (s_pn x 24)) then z_go 53 [some (.ref 0), some (.int e), some (.int (nI x)), some (.int (nI l)), some (.int (nI y)), some (.int i)] [] 161 (I, J, RF w) else z_go 56 [some (.ref 0), some (.int e), some (.int (nI x)), some (.int (nI l)), some (.int (nI y)), some (.int i)] [] 161 (I, J, RF w)) (fun _ => rfl) ?_
  refine z_evF (mt (show _ ↔ 5 < s_pn x 24 from z_ltN rfl rfl (by omega) (by omega)).mp (by omega)) ?_
  refine z_evL ?_
  refine z_evG 7 (y := z_ret (z_cl E (d + 11) 11 [.ref 43, .int (nI y)] (161, (I, J, RF w))) 70 [some (.ref 0), some (.int e), some (.int (nI x)), some (.int (nI l)), some (.int (nI y)), some (.int i)] [.int e, .ref 91]) (fun _ => rfl) ?_
  refine z_evK (v := .ref (45 + y)) (z' := 161) (σ' := (I, J, RF w)) (x_lights_getN E (d + 10) I J w y (by omega)) ?_
  refine z_evG 3 (y := z_ret (z_cl E (d + 11) 37 [.ref 91, .int e, .ref (45 + y), .int (I 0 13)] (161, (I, J, RF w))) 77 [some (.ref 0), some (.int e), some (.int (nI x)), some (.int (nI l)), some (.int (nI y)), some (.int i)] []) (fun _ => rfl) ?_
  refine z_evV (z' := 161) (σ' := ((z_u2 (z_u2 (z_u2 I 91 3 e) 91 4 (I 0 13)) 91 6 0), J, RF (45 + y))) (x_wish E (d + 10) I J w e (45 + y) (I 0 13) (Nat.ble_eq.mpr (by omega))) ?_
  refine z_evG 7 (y := z_ret (z_cl E (d + 11) 11 [.ref 43, .int (nI l)] (161, ((z_u2 (z_u2 (z_u2 I 91 3 e) 91 4 (I 0 13)) 91 6 0), J, RF (45 + y)))) 90 [some (.ref 0), some (.int e), some (.int (nI x)), some (.int (nI l)), some (.int (nI y)), some (.int i)] [.int (nI x), .ref 91]) (fun _ => rfl) ?_
  refine z_evK (v := .ref (45 + l)) (z' := 161) (σ' := ((z_u2 (z_u2 (z_u2 I 91 3 e) 91 4 (I 0 13)) 91 6 0), J, RF (45 + y))) (x_lights_getN E (d + 10) (z_u2 (z_u2 (z_u2 I 91 3 e) 91 4 (I 0 13)) 91 6 0) J (45 + y) l (by omega)) ?_
  refine z_evG 1 (y := z_ret (z_cl E (d + 11) 44 [.ref 91, .int (nI x), .ref (45 + l)] (161, ((z_u2 (z_u2 (z_u2 I 91 3 e) 91 4 (I 0 13)) 91 6 0), J, RF (45 + y)))) 93 [some (.ref 0), some (.int e), some (.int (nI x)), some (.int (nI l)), some (.int (nI y)), some (.int i)] []) (fun _ => rfl) ?_
  refine z_evV (z' := 161) (σ' := (I1, J, RF (45 + y))) t1 ?_
  refine z_evG 3 (y := if i = (-1) then z_go 99 [some (.ref 0), some (.int e), some (.int (nI x)), some (.int (nI l)), some (.int (nI y)), some (.int i)] [] 161 (I1, J, RF (45 + y)) else z_go 107 [some (.ref 0), some (.int e), some (.int (nI x)), some (.int (nI l)), some (.int (nI y)), some (.int i)] [] 161 (I1, J, RF (45 + y))) (fun _ => rfl) ?_
  refine z_evF i1 ?_
  refine z_evL ?_
  refine z_evG 3 (y := if i = (-2) then z_go 114 [some (.ref 0), some (.int e), some (.int (nI x)), some (.int (nI l)), some (.int (nI y)), some (.int i)] [] 161 (I1, J, RF (45 + y)) else z_go 122 [some (.ref 0), some (.int e), some (.int (nI x)), some (.int (nI l)), some (.int (nI y)), some (.int i)] [] 161 (I1, J, RF (45 + y))) (fun _ => rfl) ?_
  refine z_evF i2 ?_
  refine z_evL ?_
  refine z_evG 2 (y := if i < 0 then z_go 151 [some (.ref 0), some (.int e), some (.int (nI x)), some (.int (nI l)), some (.int (nI y)), some (.int i)] [] 161 (I1, J, RF (45 + y)) else z_go 127 [some (.ref 0), some (.int e), some (.int (nI x)), some (.int (nI l)), some (.int (nI y)), some (.int i)] [] 161 (I1, J, RF (45 + y))) (fun _ => rfl) ?_
  refine z_evI (fun h8 => ?_) (fun h8 => ?_)
  · refine z_evL ?_
    refine z_evG 2 (y := some (.inr (some (.int (-1)), 161, I1, J, RF (45 + y)))) (fun _ => rfl) ?_
    exact z_evR rfl
  · refine z_evL ?_
    refine z_evG 4 (y := z_ret (z_cl E (d + 11) 40 [.ref 91] (161, (I1, J, RF (45 + y)))) 136 [some (.ref 0), some (.int e), some (.int (nI x)), some (.int (nI l)), some (.int (nI y)), some (.int i)] [.int i]) (fun _ => rfl) ?_
    refine z_evK (v := .int (I1 91 15)) (z' := 161) (σ' := (I1, J, RF (45 + y))) (x_near_layerCount E (d + 10) I1 J (45 + y)) ?_
    refine z_evG 1 (y := if i < (I1 91 15) then z_go 139 [some (.ref 0), some (.int e), some (.int (nI x)), some (.int (nI l)), some (.int (nI y)), some (.int i)] [] 161 (I1, J, RF (45 + y)) else z_go 151 [some (.ref 0), some (.int e), some (.int (nI x)), some (.int (nI l)), some (.int (nI y)), some (.int i)] [] 161 (I1, J, RF (45 + y))) (fun _ => rfl) ?_
    refine z_evI (fun h9 => ?_) (fun h9 => ?_)
    · refine z_evL ?_
      exact absurd ⟨h8, h9⟩ i3
    · refine z_evL ?_
      refine z_evG 2 (y := some (.inr (some (.int (-1)), 161, I1, J, RF (45 + y)))) (fun _ => rfl) ?_
      exact z_evR rfl
