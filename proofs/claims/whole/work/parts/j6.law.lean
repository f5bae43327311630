-- THE LAW'S OWN LOOP
theorem l_in {L i : Nat} (hb : i + 6 ≤ L) (hL : L ≤ 3072) (k : Nat) (hk : k < 6) : z_in (nI i + nI k) L = true := z_inN (k := i + k) (z_addE rfl rfl) (by omega) (by omega)
theorem l_in0 {L i : Nat} (hb : i + 6 ≤ L) (hL : L ≤ 3072) : z_in (nI i) L = true := z_inN (k := i) rfl (by omega) (by omega)
theorem l_cmp {L i : Nat} (hL : L ≤ 3072) (hi : i ≤ 4000) : nI L - 6 < nI i ↔ L < i + 6 := by
  rw [Int32.lt_iff_toInt_lt, Int32.toInt_sub, nI_toInt (by omega), nI_toInt (by omega), show (6 : Int32).toInt = 6 from rfl, Int.bmod_eq_of_le (by omega) (by omega)]
  omega
theorem l_sw {E : zE} {d : Nat} {M : zM} {ts : List Nat} {j : Nat} {ls : zL} {st : List Value} {z : Nat} {σ : zS} (hj : j < ts.length) : ∃ pc, pc ∈ ts ∧ ∀ r, z_Ev E d M pc ls st z σ r → z_EY E d M (z_sw ts[j]? ls st z σ) r :=
  ⟨ts[j], List.getElem_mem hj, fun r h => by rw [List.getElem?_eq_getElem hj]; exact z_evL h⟩
theorem l_end (L : Nat) (xs : Nat → Int32) (d i : Nat) (I : Nat → Nat → Int32) (J : Nat → Nat → Int64) (w : Nat) (hL : L ≤ 3072) (hi : i ≤ 4000) (hb : L < i + 6) : z_Ev (L, xs) d z_m285 18 [some (.ref 1006), some (.ref 0), some (.ref 127), some (.int (nI i))] [] 161 (I, J, RF w) (some (.int 1), 161, (I, J, RF w)) := by
  refine z_evG 6 (y := if nI L - 6 < nI i then z_go 1763 [some (.ref 1006), some (.ref 0), some (.ref 127), some (.int (nI i))] [] 161 (I, J, RF w) else z_go 27 [some (.ref 1006), some (.ref 0), some (.ref 127), some (.int (nI i))] [] 161 (I, J, RF w)) (fun _ => rfl) ?_
  refine z_evT ((l_cmp hL hi).mpr hb) ?_
  refine z_evL ?_
  exact z_evG 2 (y := some (.inr (some (.int 1), 161, (I, J, RF w)))) (fun _ => rfl) (z_evR rfl)
theorem l_head (L : Nat) (xs : Nat → Int32) (d i : Nat) (I : Nat → Nat → Int32) (J : Nat → Nat → Int64) (w : Nat) {r : zR} (hL : L ≤ 3072) (hi : i ≤ 4000) (hb : i + 6 ≤ L) (hz : z_Ev (L, xs) d z_m285 27 [some (.ref 1006), some (.ref 0), some (.ref 127), some (.int (nI i))] [] 161 (I, J, RF w) r) : z_Ev (L, xs) d z_m285 18 [some (.ref 1006), some (.ref 0), some (.ref 127), some (.int (nI i))] [] 161 (I, J, RF w) r := by
  refine z_evG 6 (y := if nI L - 6 < nI i then z_go 1763 [some (.ref 1006), some (.ref 0), some (.ref 127), some (.int (nI i))] [] 161 (I, J, RF w) else z_go 27 [some (.ref 1006), some (.ref 0), some (.ref 127), some (.int (nI i))] [] 161 (I, J, RF w)) (fun _ => rfl) ?_
  refine z_evF (fun q => absurd ((l_cmp hL hi).mp q) (by omega)) ?_
  exact z_evL hz
theorem l_next (L : Nat) (xs : Nat → Int32) (d i : Nat) (I : Nat → Nat → Int32) (J : Nat → Nat → Int64) (w : Nat) {r : zR} (hz : z_Ev (L, xs) d z_m285 18 [some (.ref 1006), some (.ref 0), some (.ref 127), some (.int (nI (i + 6)))] [] 161 (I, J, RF w) r) : z_Ev (L, xs) d z_m285 1757 [some (.ref 1006), some (.ref 0), some (.ref 127), some (.int (nI i))] [] 161 (I, J, RF w) r := by
  rw [show nI (i + 6) = nI i + 6 from (z_addE (a := i) (b := 6) rfl rfl).symm] at hz
  exact z_evG 2 (y := z_go 18 [some (.ref 1006), some (.ref 0), some (.ref 127), some (.int (nI i + 6))] [] 161 (I, J, RF w)) (fun _ => rfl) (z_evL hz)
theorem l_disp (L : Nat) (xs : Nat → Int32) (d i : Nat) (I : Nat → Nat → Int32) (J : Nat → Nat → Int64) (w : Nat) (hL : L ≤ 3072) (hb : i + 6 ≤ L) : ∃ pc, pc ∈ [1757, 200, 223, 316, 349, 392, 425, 448, 491, 524, 557, 600, 644, 687, 730, 793, 806, 829, 873, 926, 980, 1033, 1096, 1129, 1152, 1175, 1218, 1251, 1284, 1337, 1390, 1443, 1476, 1509, 1532, 1575, 1618, 1681, 1724] ∧ ∀ r, z_Ev (L, xs) d z_m285 pc [some (.ref 1006), some (.ref 0), some (.ref 127), some (.int (nI i))] [] 161 (I, J, RF w) r → z_Ev (L, xs) d z_m285 27 [some (.ref 1006), some (.ref 0), some (.ref 127), some (.int (nI i))] [] 161 (I, J, RF w) r := by
  have key : ∃ pc, pc ∈ [1757, 200, 223, 316, 349, 392, 425, 448, 491, 524, 557, 600, 644, 687, 730, 793, 806, 829, 873, 926, 980, 1033, 1096, 1129, 1152, 1175, 1218, 1251, 1284, 1337, 1390, 1443, 1476, 1509, 1532, 1575, 1618, 1681, 1724] ∧ ∀ r, z_Ev (L, xs) d z_m285 pc [some (.ref 1006), some (.ref 0), some (.ref 127), some (.int (nI i))] [] 161 (I, J, RF w) r → z_EY (L, xs) d z_m285 (if (xs (nI i).toNatClampNeg &&& 63).toInt < 0 ∨ 37 < (xs (nI i).toNatClampNeg &&& 63).toInt then z_go 1757 [some (.ref 1006), some (.ref 0), some (.ref 127), some (.int (nI i))] [] 161 (I, J, RF w) else z_sw ([1757, 200, 223, 316, 349, 392, 425, 448, 491, 524, 557, 600, 644, 687, 730, 793, 806, 829, 873, 926, 980, 1033, 1096, 1129, 1152, 1175, 1218, 1251, 1284, 1337, 1390, 1443, 1476, 1509, 1532, 1575, 1618, 1681, 1724] : List Nat)[((xs (nI i).toNatClampNeg &&& 63).toInt - 0).toNat + 1]? [some (.ref 1006), some (.ref 0), some (.ref 127), some (.int (nI i))] [] 161 (I, J, RF w)) r := by
    by_cases q : (xs (nI i).toNatClampNeg &&& 63).toInt < 0 ∨ 37 < (xs (nI i).toNatClampNeg &&& 63).toInt
    · exact ⟨1757, by decide, fun r h => by rw [if_pos q]; exact z_evL h⟩
    · obtain ⟨pc, p1, p2⟩ := l_sw (E := (L, xs)) (d := d) (M := z_m285) (ts := [1757, 200, 223, 316, 349, 392, 425, 448, 491, 524, 557, 600, 644, 687, 730, 793, 806, 829, 873, 926, 980, 1033, 1096, 1129, 1152, 1175, 1218, 1251, 1284, 1337, 1390, 1443, 1476, 1509, 1532, 1575, 1618, 1681, 1724]) (j := ((xs (nI i).toNatClampNeg &&& 63).toInt - 0).toNat + 1) (ls := [some (.ref 1006), some (.ref 0), some (.ref 127), some (.int (nI i))]) (st := []) (z := 161) (σ := (I, J, RF w)) (by show _ < 39; omega)
      exact ⟨pc, p1, fun r h => by rw [if_neg q]; exact p2 r h⟩
  obtain ⟨pc, p1, p2⟩ := key
  refine ⟨pc, p1, fun r h => ?_⟩
  refine z_evG 3 (y := z_ild (z_ia (L, xs) 161 (I, J, RF w) 1006) (nI i) fun vv => z_go 30 [some (.ref 1006), some (.ref 0), some (.ref 127), some (.int (nI i))] [.int vv] 161 (I, J, RF w)) (fun _ => rfl) ?_
  refine z_evB (N := L) (f := xs) rfl (l_in0 hb hL) ?_
  refine z_evL ?_
  exact z_evG 3 (fun _ => rfl) (p2 r h)
def l_ok (L : Nat) (xs : Nat → Int32) (i pc : Nat) : Prop := ∀ N I J w, v_Inv N I J → ∃ N2 I2 J2 w2, v_Inv N2 I2 J2 ∧ ∀ r, z_Ev (L, xs) 99 z_m285 1757 [some (.ref 1006), some (.ref 0), some (.ref 127), some (.int (nI i))] [] 161 (I2, J2, RF w2) r → z_Ev (L, xs) 99 z_m285 pc [some (.ref 1006), some (.ref 0), some (.ref 127), some (.int (nI i))] [] 161 (I, J, RF w) r
theorem l_r_pass (L : Nat) (xs : Nat → Int32) (d i : Nat) (I : Nat → Nat → Int32) (J : Nat → Nat → Int64) (w : Nat) (x : Int32) (I1 : Nat → Nat → Int32) (J1 : Nat → Nat → Int64) (w1 : Nat) (I2 : Nat → Nat → Int32) (J2 : Nat → Nat → Int64) (w2 : Nat) {r : zR} (hb : i + 6 ≤ L) (hL : L ≤ 3072) (e1 : z_cl (L, xs) d 128 [.ref 0, .int (xs (nI i + 1).toNatClampNeg)] (161, (I, J, RF w)) = some (some (.int x), 161, (I1, J1, RF w1))) (e2 : z_cl (L, xs) d 179 [.ref 127, .int (xs (nI i + 1).toNatClampNeg)] (161, (I1, J1, RF w1)) = some (some (.int x), 161, (I2, J2, RF w2))) (hz : z_Ev (L, xs) d z_m285 1757 [some (.ref 1006), some (.ref 0), some (.ref 127), some (.int (nI i))] [] 161 (I2, J2, RF w2) r) : z_Ev (L, xs) d z_m285 200 [some (.ref 1006), some (.ref 0), some (.ref 127), some (.int (nI i))] [] 161 (I, J, RF w) r := by
  refine z_evG 6 (y := z_ild (z_ia (L, xs) 161 (I, J, RF w) 1006) (nI i + 1) fun vv => z_go 206 [some (.ref 1006), some (.ref 0), some (.ref 127), some (.int (nI i))] [.int (vv), .ref 0] 161 (I, J, RF w)) (fun _ => rfl) ?_
  refine z_evB (N := L) (f := xs) rfl (l_in hb hL 1 (by decide)) ?_
  refine z_evL ?_
  refine z_evG 1 (y := z_ret (z_cl (L, xs) d 128 [.ref 0, .int (xs (nI i + 1).toNatClampNeg)] (161, (I, J, RF w))) 209 [some (.ref 1006), some (.ref 0), some (.ref 127), some (.int (nI i))] []) (fun _ => rfl) ?_
  refine z_evK (z' := 161) (σ' := (I1, J1, RF w1)) e1 ?_
  refine z_evG 6 (y := z_ild (z_ia (L, xs) 161 (I1, J1, RF w1) 1006) (nI i + 1) fun vv => z_go 215 [some (.ref 1006), some (.ref 0), some (.ref 127), some (.int (nI i))] [.int (vv), .ref 127, .int (x)] 161 (I1, J1, RF w1)) (fun _ => rfl) ?_
  refine z_evB (N := L) (f := xs) rfl (l_in hb hL 1 (by decide)) ?_
  refine z_evL ?_
  refine z_evG 1 (y := z_ret (z_cl (L, xs) d 179 [.ref 127, .int (xs (nI i + 1).toNatClampNeg)] (161, (I1, J1, RF w1))) 218 [some (.ref 1006), some (.ref 0), some (.ref 127), some (.int (nI i))] [.int (x)]) (fun _ => rfl) ?_
  refine z_evK (z' := 161) (σ' := (I2, J2, RF w2)) e2 ?_
  refine z_evG 1 (y := if x = x then z_go 1757 [some (.ref 1006), some (.ref 0), some (.ref 127), some (.int (nI i))] [] 161 (I2, J2, RF w2) else z_go 221 [some (.ref 1006), some (.ref 0), some (.ref 127), some (.int (nI i))] [] 161 (I2, J2, RF w2)) (fun _ => rfl) ?_
  refine z_evT rfl ?_
  exact z_evL hz
theorem l_k_pass {L : Nat} {xs : Nat → Int32} {i : Nat} (hb : i + 6 ≤ L) (hL : L ≤ 3072) : l_ok L xs i 200 := fun N I J w H => by
  obtain ⟨x, I1, J1, w1, I2, J2, w2, e1, e2, N2, H2⟩ := g_pass (L, xs) N I J w H (xs (nI i + 1).toNatClampNeg)
  exact ⟨N2, I2, J2, w2, H2, fun r hz => l_r_pass L xs 99 i I J w x I1 J1 w1 I2 J2 w2 hb hL e1 e2 hz⟩
theorem l_r_row (L : Nat) (xs : Nat → Int32) (d i : Nat) (I : Nat → Nat → Int32) (J : Nat → Nat → Int64) (w : Nat) (x : Int32) (I1 : Nat → Nat → Int32) (J1 : Nat → Nat → Int64) (w1 : Nat) (I2 : Nat → Nat → Int32) (J2 : Nat → Nat → Int64) (w2 : Nat) {r : zR} (hb : i + 6 ≤ L) (hL : L ≤ 3072) (e1 : z_cl (L, xs) d 129 [.ref 0, .long ((((xs (nI i + 1).toNatClampNeg).toInt64) <<< ((32 : Int32).toInt64 &&& 63)) ||| (((xs (nI i + 2).toNatClampNeg).toInt64) &&& (4294967295))), .long ((((xs (nI i + 3).toNatClampNeg).toInt64) <<< ((32 : Int32).toInt64 &&& 63)) ||| (((xs (nI i + 4).toNatClampNeg).toInt64) &&& (4294967295)))] (161, (I, J, RF w)) = some (some (.int x), 161, (I1, J1, RF w1))) (e2 : z_cl (L, xs) d 181 [.ref 127, .long ((((xs (nI i + 1).toNatClampNeg).toInt64) <<< ((32 : Int32).toInt64 &&& 63)) ||| (((xs (nI i + 2).toNatClampNeg).toInt64) &&& (4294967295))), .long ((((xs (nI i + 3).toNatClampNeg).toInt64) <<< ((32 : Int32).toInt64 &&& 63)) ||| (((xs (nI i + 4).toNatClampNeg).toInt64) &&& (4294967295)))] (161, (I1, J1, RF w1)) = some (some (.int x), 161, (I2, J2, RF w2))) (hz : z_Ev (L, xs) d z_m285 1757 [some (.ref 1006), some (.ref 0), some (.ref 127), some (.int (nI i))] [] 161 (I2, J2, RF w2) r) : z_Ev (L, xs) d z_m285 223 [some (.ref 1006), some (.ref 0), some (.ref 127), some (.int (nI i))] [] 161 (I, J, RF w) r := by
  refine z_evG 6 (y := z_ild (z_ia (L, xs) 161 (I, J, RF w) 1006) (nI i + 1) fun vv => z_go 229 [some (.ref 1006), some (.ref 0), some (.ref 127), some (.int (nI i))] [.int (vv), .ref 0] 161 (I, J, RF w)) (fun _ => rfl) ?_
  refine z_evB (N := L) (f := xs) rfl (l_in hb hL 1 (by decide)) ?_
  refine z_evL ?_
  refine z_evG 8 (y := z_ild (z_ia (L, xs) 161 (I, J, RF w) 1006) (nI i + 2) fun vv => z_go 238 [some (.ref 1006), some (.ref 0), some (.ref 127), some (.int (nI i))] [.int (vv), .long (((xs (nI i + 1).toNatClampNeg).toInt64) <<< ((32 : Int32).toInt64 &&& 63)), .ref 0] 161 (I, J, RF w)) (fun _ => rfl) ?_
  refine z_evB (N := L) (f := xs) rfl (l_in hb hL 2 (by decide)) ?_
  refine z_evL ?_
  refine z_evG 9 (y := z_ild (z_ia (L, xs) 161 (I, J, RF w) 1006) (nI i + 3) fun vv => z_go 249 [some (.ref 1006), some (.ref 0), some (.ref 127), some (.int (nI i))] [.int (vv), .long ((((xs (nI i + 1).toNatClampNeg).toInt64) <<< ((32 : Int32).toInt64 &&& 63)) ||| (((xs (nI i + 2).toNatClampNeg).toInt64) &&& (4294967295))), .ref 0] 161 (I, J, RF w)) (fun _ => rfl) ?_
  refine z_evB (N := L) (f := xs) rfl (l_in hb hL 3 (by decide)) ?_
  refine z_evL ?_
  refine z_evG 8 (y := z_ild (z_ia (L, xs) 161 (I, J, RF w) 1006) (nI i + 4) fun vv => z_go 258 [some (.ref 1006), some (.ref 0), some (.ref 127), some (.int (nI i))] [.int (vv), .long (((xs (nI i + 3).toNatClampNeg).toInt64) <<< ((32 : Int32).toInt64 &&& 63)), .long ((((xs (nI i + 1).toNatClampNeg).toInt64) <<< ((32 : Int32).toInt64 &&& 63)) ||| (((xs (nI i + 2).toNatClampNeg).toInt64) &&& (4294967295))), .ref 0] 161 (I, J, RF w)) (fun _ => rfl) ?_
  refine z_evB (N := L) (f := xs) rfl (l_in hb hL 4 (by decide)) ?_
  refine z_evL ?_
  refine z_evG 5 (y := z_ret (z_cl (L, xs) d 129 [.ref 0, .long ((((xs (nI i + 1).toNatClampNeg).toInt64) <<< ((32 : Int32).toInt64 &&& 63)) ||| (((xs (nI i + 2).toNatClampNeg).toInt64) &&& (4294967295))), .long ((((xs (nI i + 3).toNatClampNeg).toInt64) <<< ((32 : Int32).toInt64 &&& 63)) ||| (((xs (nI i + 4).toNatClampNeg).toInt64) &&& (4294967295)))] (161, (I, J, RF w))) 267 [some (.ref 1006), some (.ref 0), some (.ref 127), some (.int (nI i))] []) (fun _ => rfl) ?_
  refine z_evK (z' := 161) (σ' := (I1, J1, RF w1)) e1 ?_
  refine z_evG 6 (y := z_ild (z_ia (L, xs) 161 (I1, J1, RF w1) 1006) (nI i + 1) fun vv => z_go 273 [some (.ref 1006), some (.ref 0), some (.ref 127), some (.int (nI i))] [.int (vv), .ref 127, .int (x)] 161 (I1, J1, RF w1)) (fun _ => rfl) ?_
  refine z_evB (N := L) (f := xs) rfl (l_in hb hL 1 (by decide)) ?_
  refine z_evL ?_
  refine z_evG 8 (y := z_ild (z_ia (L, xs) 161 (I1, J1, RF w1) 1006) (nI i + 2) fun vv => z_go 282 [some (.ref 1006), some (.ref 0), some (.ref 127), some (.int (nI i))] [.int (vv), .long (((xs (nI i + 1).toNatClampNeg).toInt64) <<< ((32 : Int32).toInt64 &&& 63)), .ref 127, .int (x)] 161 (I1, J1, RF w1)) (fun _ => rfl) ?_
  refine z_evB (N := L) (f := xs) rfl (l_in hb hL 2 (by decide)) ?_
  refine z_evL ?_
  refine z_evG 9 (y := z_ild (z_ia (L, xs) 161 (I1, J1, RF w1) 1006) (nI i + 3) fun vv => z_go 293 [some (.ref 1006), some (.ref 0), some (.ref 127), some (.int (nI i))] [.int (vv), .long ((((xs (nI i + 1).toNatClampNeg).toInt64) <<< ((32 : Int32).toInt64 &&& 63)) ||| (((xs (nI i + 2).toNatClampNeg).toInt64) &&& (4294967295))), .ref 127, .int (x)] 161 (I1, J1, RF w1)) (fun _ => rfl) ?_
  refine z_evB (N := L) (f := xs) rfl (l_in hb hL 3 (by decide)) ?_
  refine z_evL ?_
  refine z_evG 8 (y := z_ild (z_ia (L, xs) 161 (I1, J1, RF w1) 1006) (nI i + 4) fun vv => z_go 302 [some (.ref 1006), some (.ref 0), some (.ref 127), some (.int (nI i))] [.int (vv), .long (((xs (nI i + 3).toNatClampNeg).toInt64) <<< ((32 : Int32).toInt64 &&& 63)), .long ((((xs (nI i + 1).toNatClampNeg).toInt64) <<< ((32 : Int32).toInt64 &&& 63)) ||| (((xs (nI i + 2).toNatClampNeg).toInt64) &&& (4294967295))), .ref 127, .int (x)] 161 (I1, J1, RF w1)) (fun _ => rfl) ?_
  refine z_evB (N := L) (f := xs) rfl (l_in hb hL 4 (by decide)) ?_
  refine z_evL ?_
  refine z_evG 5 (y := z_ret (z_cl (L, xs) d 181 [.ref 127, .long ((((xs (nI i + 1).toNatClampNeg).toInt64) <<< ((32 : Int32).toInt64 &&& 63)) ||| (((xs (nI i + 2).toNatClampNeg).toInt64) &&& (4294967295))), .long ((((xs (nI i + 3).toNatClampNeg).toInt64) <<< ((32 : Int32).toInt64 &&& 63)) ||| (((xs (nI i + 4).toNatClampNeg).toInt64) &&& (4294967295)))] (161, (I1, J1, RF w1))) 311 [some (.ref 1006), some (.ref 0), some (.ref 127), some (.int (nI i))] [.int (x)]) (fun _ => rfl) ?_
  refine z_evK (z' := 161) (σ' := (I2, J2, RF w2)) e2 ?_
  refine z_evG 1 (y := if x = x then z_go 1757 [some (.ref 1006), some (.ref 0), some (.ref 127), some (.int (nI i))] [] 161 (I2, J2, RF w2) else z_go 314 [some (.ref 1006), some (.ref 0), some (.ref 127), some (.int (nI i))] [] 161 (I2, J2, RF w2)) (fun _ => rfl) ?_
  refine z_evT rfl ?_
  exact z_evL hz
theorem l_k_row {L : Nat} {xs : Nat → Int32} {i : Nat} (hb : i + 6 ≤ L) (hL : L ≤ 3072) : l_ok L xs i 223 := fun N I J w H => by
  obtain ⟨x, I1, J1, w1, I2, J2, w2, e1, e2, N2, H2⟩ := g_row (L, xs) N I J w H ((((xs (nI i + 1).toNatClampNeg).toInt64) <<< ((32 : Int32).toInt64 &&& 63)) ||| (((xs (nI i + 2).toNatClampNeg).toInt64) &&& (4294967295))) ((((xs (nI i + 3).toNatClampNeg).toInt64) <<< ((32 : Int32).toInt64 &&& 63)) ||| (((xs (nI i + 4).toNatClampNeg).toInt64) &&& (4294967295)))
  exact ⟨N2, I2, J2, w2, H2, fun r hz => l_r_row L xs 99 i I J w x I1 J1 w1 I2 J2 w2 hb hL e1 e2 hz⟩
theorem l_r_rowTold (L : Nat) (xs : Nat → Int32) (d i : Nat) (I : Nat → Nat → Int32) (J : Nat → Nat → Int64) (w : Nat) (x : Int32) (I1 : Nat → Nat → Int32) (J1 : Nat → Nat → Int64) (w1 : Nat) (I2 : Nat → Nat → Int32) (J2 : Nat → Nat → Int64) (w2 : Nat) {r : zR} (hb : i + 6 ≤ L) (hL : L ≤ 3072) (e1 : z_cl (L, xs) d 130 [.ref 0, .int (xs (nI i + 1).toNatClampNeg), .int (xs (nI i + 2).toNatClampNeg)] (161, (I, J, RF w)) = some (some (.int x), 161, (I1, J1, RF w1))) (e2 : z_cl (L, xs) d 186 [.ref 127, .int (xs (nI i + 1).toNatClampNeg), .int (xs (nI i + 2).toNatClampNeg)] (161, (I1, J1, RF w1)) = some (some (.int x), 161, (I2, J2, RF w2))) (hz : z_Ev (L, xs) d z_m285 1757 [some (.ref 1006), some (.ref 0), some (.ref 127), some (.int (nI i))] [] 161 (I2, J2, RF w2) r) : z_Ev (L, xs) d z_m285 316 [some (.ref 1006), some (.ref 0), some (.ref 127), some (.int (nI i))] [] 161 (I, J, RF w) r := by
  refine z_evG 6 (y := z_ild (z_ia (L, xs) 161 (I, J, RF w) 1006) (nI i + 1) fun vv => z_go 322 [some (.ref 1006), some (.ref 0), some (.ref 127), some (.int (nI i))] [.int (vv), .ref 0] 161 (I, J, RF w)) (fun _ => rfl) ?_
  refine z_evB (N := L) (f := xs) rfl (l_in hb hL 1 (by decide)) ?_
  refine z_evL ?_
  refine z_evG 5 (y := z_ild (z_ia (L, xs) 161 (I, J, RF w) 1006) (nI i + 2) fun vv => z_go 327 [some (.ref 1006), some (.ref 0), some (.ref 127), some (.int (nI i))] [.int (vv), .int (xs (nI i + 1).toNatClampNeg), .ref 0] 161 (I, J, RF w)) (fun _ => rfl) ?_
  refine z_evB (N := L) (f := xs) rfl (l_in hb hL 2 (by decide)) ?_
  refine z_evL ?_
  refine z_evG 1 (y := z_ret (z_cl (L, xs) d 130 [.ref 0, .int (xs (nI i + 1).toNatClampNeg), .int (xs (nI i + 2).toNatClampNeg)] (161, (I, J, RF w))) 330 [some (.ref 1006), some (.ref 0), some (.ref 127), some (.int (nI i))] []) (fun _ => rfl) ?_
  refine z_evK (z' := 161) (σ' := (I1, J1, RF w1)) e1 ?_
  refine z_evG 6 (y := z_ild (z_ia (L, xs) 161 (I1, J1, RF w1) 1006) (nI i + 1) fun vv => z_go 336 [some (.ref 1006), some (.ref 0), some (.ref 127), some (.int (nI i))] [.int (vv), .ref 127, .int (x)] 161 (I1, J1, RF w1)) (fun _ => rfl) ?_
  refine z_evB (N := L) (f := xs) rfl (l_in hb hL 1 (by decide)) ?_
  refine z_evL ?_
  refine z_evG 5 (y := z_ild (z_ia (L, xs) 161 (I1, J1, RF w1) 1006) (nI i + 2) fun vv => z_go 341 [some (.ref 1006), some (.ref 0), some (.ref 127), some (.int (nI i))] [.int (vv), .int (xs (nI i + 1).toNatClampNeg), .ref 127, .int (x)] 161 (I1, J1, RF w1)) (fun _ => rfl) ?_
  refine z_evB (N := L) (f := xs) rfl (l_in hb hL 2 (by decide)) ?_
  refine z_evL ?_
  refine z_evG 1 (y := z_ret (z_cl (L, xs) d 186 [.ref 127, .int (xs (nI i + 1).toNatClampNeg), .int (xs (nI i + 2).toNatClampNeg)] (161, (I1, J1, RF w1))) 344 [some (.ref 1006), some (.ref 0), some (.ref 127), some (.int (nI i))] [.int (x)]) (fun _ => rfl) ?_
  refine z_evK (z' := 161) (σ' := (I2, J2, RF w2)) e2 ?_
  refine z_evG 1 (y := if x = x then z_go 1757 [some (.ref 1006), some (.ref 0), some (.ref 127), some (.int (nI i))] [] 161 (I2, J2, RF w2) else z_go 347 [some (.ref 1006), some (.ref 0), some (.ref 127), some (.int (nI i))] [] 161 (I2, J2, RF w2)) (fun _ => rfl) ?_
  refine z_evT rfl ?_
  exact z_evL hz
theorem l_k_rowTold {L : Nat} {xs : Nat → Int32} {i : Nat} (hb : i + 6 ≤ L) (hL : L ≤ 3072) : l_ok L xs i 316 := fun N I J w H => by
  obtain ⟨x, I1, J1, w1, I2, J2, w2, e1, e2, N2, H2⟩ := g_rowTold (L, xs) N I J w H (xs (nI i + 1).toNatClampNeg) (xs (nI i + 2).toNatClampNeg)
  exact ⟨N2, I2, J2, w2, H2, fun r hz => l_r_rowTold L xs 99 i I J w x I1 J1 w1 I2 J2 w2 hb hL e1 e2 hz⟩
theorem l_r_thing (L : Nat) (xs : Nat → Int32) (d i : Nat) (I : Nat → Nat → Int32) (J : Nat → Nat → Int64) (w : Nat) (x : Int32) (I1 : Nat → Nat → Int32) (J1 : Nat → Nat → Int64) (w1 : Nat) (I2 : Nat → Nat → Int32) (J2 : Nat → Nat → Int64) (w2 : Nat) {r : zR} (hb : i + 6 ≤ L) (hL : L ≤ 3072) (e1 : z_cl (L, xs) d 131 [.ref 0, .int (xs (nI i + 1).toNatClampNeg), .int (xs (nI i + 2).toNatClampNeg), .int (xs (nI i + 3).toNatClampNeg)] (161, (I, J, RF w)) = some (some (.int x), 161, (I1, J1, RF w1))) (e2 : z_cl (L, xs) d 187 [.ref 127, .int (xs (nI i + 1).toNatClampNeg), .int (xs (nI i + 2).toNatClampNeg), .int (xs (nI i + 3).toNatClampNeg)] (161, (I1, J1, RF w1)) = some (some (.int x), 161, (I2, J2, RF w2))) (hz : z_Ev (L, xs) d z_m285 1757 [some (.ref 1006), some (.ref 0), some (.ref 127), some (.int (nI i))] [] 161 (I2, J2, RF w2) r) : z_Ev (L, xs) d z_m285 349 [some (.ref 1006), some (.ref 0), some (.ref 127), some (.int (nI i))] [] 161 (I, J, RF w) r := by
  refine z_evG 6 (y := z_ild (z_ia (L, xs) 161 (I, J, RF w) 1006) (nI i + 1) fun vv => z_go 355 [some (.ref 1006), some (.ref 0), some (.ref 127), some (.int (nI i))] [.int (vv), .ref 0] 161 (I, J, RF w)) (fun _ => rfl) ?_
  refine z_evB (N := L) (f := xs) rfl (l_in hb hL 1 (by decide)) ?_
  refine z_evL ?_
  refine z_evG 5 (y := z_ild (z_ia (L, xs) 161 (I, J, RF w) 1006) (nI i + 2) fun vv => z_go 360 [some (.ref 1006), some (.ref 0), some (.ref 127), some (.int (nI i))] [.int (vv), .int (xs (nI i + 1).toNatClampNeg), .ref 0] 161 (I, J, RF w)) (fun _ => rfl) ?_
  refine z_evB (N := L) (f := xs) rfl (l_in hb hL 2 (by decide)) ?_
  refine z_evL ?_
  refine z_evG 5 (y := z_ild (z_ia (L, xs) 161 (I, J, RF w) 1006) (nI i + 3) fun vv => z_go 365 [some (.ref 1006), some (.ref 0), some (.ref 127), some (.int (nI i))] [.int (vv), .int (xs (nI i + 2).toNatClampNeg), .int (xs (nI i + 1).toNatClampNeg), .ref 0] 161 (I, J, RF w)) (fun _ => rfl) ?_
  refine z_evB (N := L) (f := xs) rfl (l_in hb hL 3 (by decide)) ?_
  refine z_evL ?_
  refine z_evG 1 (y := z_ret (z_cl (L, xs) d 131 [.ref 0, .int (xs (nI i + 1).toNatClampNeg), .int (xs (nI i + 2).toNatClampNeg), .int (xs (nI i + 3).toNatClampNeg)] (161, (I, J, RF w))) 368 [some (.ref 1006), some (.ref 0), some (.ref 127), some (.int (nI i))] []) (fun _ => rfl) ?_
  refine z_evK (z' := 161) (σ' := (I1, J1, RF w1)) e1 ?_
  refine z_evG 6 (y := z_ild (z_ia (L, xs) 161 (I1, J1, RF w1) 1006) (nI i + 1) fun vv => z_go 374 [some (.ref 1006), some (.ref 0), some (.ref 127), some (.int (nI i))] [.int (vv), .ref 127, .int (x)] 161 (I1, J1, RF w1)) (fun _ => rfl) ?_
  refine z_evB (N := L) (f := xs) rfl (l_in hb hL 1 (by decide)) ?_
  refine z_evL ?_
  refine z_evG 5 (y := z_ild (z_ia (L, xs) 161 (I1, J1, RF w1) 1006) (nI i + 2) fun vv => z_go 379 [some (.ref 1006), some (.ref 0), some (.ref 127), some (.int (nI i))] [.int (vv), .int (xs (nI i + 1).toNatClampNeg), .ref 127, .int (x)] 161 (I1, J1, RF w1)) (fun _ => rfl) ?_
  refine z_evB (N := L) (f := xs) rfl (l_in hb hL 2 (by decide)) ?_
  refine z_evL ?_
  refine z_evG 5 (y := z_ild (z_ia (L, xs) 161 (I1, J1, RF w1) 1006) (nI i + 3) fun vv => z_go 384 [some (.ref 1006), some (.ref 0), some (.ref 127), some (.int (nI i))] [.int (vv), .int (xs (nI i + 2).toNatClampNeg), .int (xs (nI i + 1).toNatClampNeg), .ref 127, .int (x)] 161 (I1, J1, RF w1)) (fun _ => rfl) ?_
  refine z_evB (N := L) (f := xs) rfl (l_in hb hL 3 (by decide)) ?_
  refine z_evL ?_
  refine z_evG 1 (y := z_ret (z_cl (L, xs) d 187 [.ref 127, .int (xs (nI i + 1).toNatClampNeg), .int (xs (nI i + 2).toNatClampNeg), .int (xs (nI i + 3).toNatClampNeg)] (161, (I1, J1, RF w1))) 387 [some (.ref 1006), some (.ref 0), some (.ref 127), some (.int (nI i))] [.int (x)]) (fun _ => rfl) ?_
  refine z_evK (z' := 161) (σ' := (I2, J2, RF w2)) e2 ?_
  refine z_evG 1 (y := if x = x then z_go 1757 [some (.ref 1006), some (.ref 0), some (.ref 127), some (.int (nI i))] [] 161 (I2, J2, RF w2) else z_go 390 [some (.ref 1006), some (.ref 0), some (.ref 127), some (.int (nI i))] [] 161 (I2, J2, RF w2)) (fun _ => rfl) ?_
  refine z_evT rfl ?_
  exact z_evL hz
theorem l_k_thing {L : Nat} {xs : Nat → Int32} {i : Nat} (hb : i + 6 ≤ L) (hL : L ≤ 3072) : l_ok L xs i 349 := fun N I J w H => by
  obtain ⟨x, I1, J1, w1, I2, J2, w2, e1, e2, N2, H2⟩ := g_thing (L, xs) N I J w H (xs (nI i + 1).toNatClampNeg) (xs (nI i + 2).toNatClampNeg) (xs (nI i + 3).toNatClampNeg)
  exact ⟨N2, I2, J2, w2, H2, fun r hz => l_r_thing L xs 99 i I J w x I1 J1 w1 I2 J2 w2 hb hL e1 e2 hz⟩
theorem l_r_thingTold (L : Nat) (xs : Nat → Int32) (d i : Nat) (I : Nat → Nat → Int32) (J : Nat → Nat → Int64) (w : Nat) (x : Int32) (I1 : Nat → Nat → Int32) (J1 : Nat → Nat → Int64) (w1 : Nat) (I2 : Nat → Nat → Int32) (J2 : Nat → Nat → Int64) (w2 : Nat) {r : zR} (hb : i + 6 ≤ L) (hL : L ≤ 3072) (e1 : z_cl (L, xs) d 132 [.ref 0, .int (xs (nI i + 1).toNatClampNeg), .int (xs (nI i + 2).toNatClampNeg)] (161, (I, J, RF w)) = some (some (.int x), 161, (I1, J1, RF w1))) (e2 : z_cl (L, xs) d 188 [.ref 127, .int (xs (nI i + 1).toNatClampNeg), .int (xs (nI i + 2).toNatClampNeg)] (161, (I1, J1, RF w1)) = some (some (.int x), 161, (I2, J2, RF w2))) (hz : z_Ev (L, xs) d z_m285 1757 [some (.ref 1006), some (.ref 0), some (.ref 127), some (.int (nI i))] [] 161 (I2, J2, RF w2) r) : z_Ev (L, xs) d z_m285 392 [some (.ref 1006), some (.ref 0), some (.ref 127), some (.int (nI i))] [] 161 (I, J, RF w) r := by
  refine z_evG 6 (y := z_ild (z_ia (L, xs) 161 (I, J, RF w) 1006) (nI i + 1) fun vv => z_go 398 [some (.ref 1006), some (.ref 0), some (.ref 127), some (.int (nI i))] [.int (vv), .ref 0] 161 (I, J, RF w)) (fun _ => rfl) ?_
  refine z_evB (N := L) (f := xs) rfl (l_in hb hL 1 (by decide)) ?_
  refine z_evL ?_
  refine z_evG 5 (y := z_ild (z_ia (L, xs) 161 (I, J, RF w) 1006) (nI i + 2) fun vv => z_go 403 [some (.ref 1006), some (.ref 0), some (.ref 127), some (.int (nI i))] [.int (vv), .int (xs (nI i + 1).toNatClampNeg), .ref 0] 161 (I, J, RF w)) (fun _ => rfl) ?_
  refine z_evB (N := L) (f := xs) rfl (l_in hb hL 2 (by decide)) ?_
  refine z_evL ?_
  refine z_evG 1 (y := z_ret (z_cl (L, xs) d 132 [.ref 0, .int (xs (nI i + 1).toNatClampNeg), .int (xs (nI i + 2).toNatClampNeg)] (161, (I, J, RF w))) 406 [some (.ref 1006), some (.ref 0), some (.ref 127), some (.int (nI i))] []) (fun _ => rfl) ?_
  refine z_evK (z' := 161) (σ' := (I1, J1, RF w1)) e1 ?_
  refine z_evG 6 (y := z_ild (z_ia (L, xs) 161 (I1, J1, RF w1) 1006) (nI i + 1) fun vv => z_go 412 [some (.ref 1006), some (.ref 0), some (.ref 127), some (.int (nI i))] [.int (vv), .ref 127, .int (x)] 161 (I1, J1, RF w1)) (fun _ => rfl) ?_
  refine z_evB (N := L) (f := xs) rfl (l_in hb hL 1 (by decide)) ?_
  refine z_evL ?_
  refine z_evG 5 (y := z_ild (z_ia (L, xs) 161 (I1, J1, RF w1) 1006) (nI i + 2) fun vv => z_go 417 [some (.ref 1006), some (.ref 0), some (.ref 127), some (.int (nI i))] [.int (vv), .int (xs (nI i + 1).toNatClampNeg), .ref 127, .int (x)] 161 (I1, J1, RF w1)) (fun _ => rfl) ?_
  refine z_evB (N := L) (f := xs) rfl (l_in hb hL 2 (by decide)) ?_
  refine z_evL ?_
  refine z_evG 1 (y := z_ret (z_cl (L, xs) d 188 [.ref 127, .int (xs (nI i + 1).toNatClampNeg), .int (xs (nI i + 2).toNatClampNeg)] (161, (I1, J1, RF w1))) 420 [some (.ref 1006), some (.ref 0), some (.ref 127), some (.int (nI i))] [.int (x)]) (fun _ => rfl) ?_
  refine z_evK (z' := 161) (σ' := (I2, J2, RF w2)) e2 ?_
  refine z_evG 1 (y := if x = x then z_go 1757 [some (.ref 1006), some (.ref 0), some (.ref 127), some (.int (nI i))] [] 161 (I2, J2, RF w2) else z_go 423 [some (.ref 1006), some (.ref 0), some (.ref 127), some (.int (nI i))] [] 161 (I2, J2, RF w2)) (fun _ => rfl) ?_
  refine z_evT rfl ?_
  exact z_evL hz
theorem l_k_thingTold {L : Nat} {xs : Nat → Int32} {i : Nat} (hb : i + 6 ≤ L) (hL : L ≤ 3072) : l_ok L xs i 392 := fun N I J w H => by
  obtain ⟨x, I1, J1, w1, I2, J2, w2, e1, e2, N2, H2⟩ := g_thingTold (L, xs) N I J w H (xs (nI i + 1).toNatClampNeg) (xs (nI i + 2).toNatClampNeg)
  exact ⟨N2, I2, J2, w2, H2, fun r hz => l_r_thingTold L xs 99 i I J w x I1 J1 w1 I2 J2 w2 hb hL e1 e2 hz⟩
theorem l_r_light (L : Nat) (xs : Nat → Int32) (d i : Nat) (I : Nat → Nat → Int32) (J : Nat → Nat → Int64) (w : Nat) (x : Int32) (I1 : Nat → Nat → Int32) (J1 : Nat → Nat → Int64) (w1 : Nat) (I2 : Nat → Nat → Int32) (J2 : Nat → Nat → Int64) (w2 : Nat) {r : zR} (hb : i + 6 ≤ L) (hL : L ≤ 3072) (e1 : z_cl (L, xs) d 133 [.ref 0, .int (xs (nI i + 1).toNatClampNeg)] (161, (I, J, RF w)) = some (some (.int x), 161, (I1, J1, RF w1))) (e2 : z_cl (L, xs) d 191 [.ref 127, .int (xs (nI i + 1).toNatClampNeg)] (161, (I1, J1, RF w1)) = some (some (.int x), 161, (I2, J2, RF w2))) (hz : z_Ev (L, xs) d z_m285 1757 [some (.ref 1006), some (.ref 0), some (.ref 127), some (.int (nI i))] [] 161 (I2, J2, RF w2) r) : z_Ev (L, xs) d z_m285 425 [some (.ref 1006), some (.ref 0), some (.ref 127), some (.int (nI i))] [] 161 (I, J, RF w) r := by
  refine z_evG 6 (y := z_ild (z_ia (L, xs) 161 (I, J, RF w) 1006) (nI i + 1) fun vv => z_go 431 [some (.ref 1006), some (.ref 0), some (.ref 127), some (.int (nI i))] [.int (vv), .ref 0] 161 (I, J, RF w)) (fun _ => rfl) ?_
  refine z_evB (N := L) (f := xs) rfl (l_in hb hL 1 (by decide)) ?_
  refine z_evL ?_
  refine z_evG 1 (y := z_ret (z_cl (L, xs) d 133 [.ref 0, .int (xs (nI i + 1).toNatClampNeg)] (161, (I, J, RF w))) 434 [some (.ref 1006), some (.ref 0), some (.ref 127), some (.int (nI i))] []) (fun _ => rfl) ?_
  refine z_evK (z' := 161) (σ' := (I1, J1, RF w1)) e1 ?_
  refine z_evG 6 (y := z_ild (z_ia (L, xs) 161 (I1, J1, RF w1) 1006) (nI i + 1) fun vv => z_go 440 [some (.ref 1006), some (.ref 0), some (.ref 127), some (.int (nI i))] [.int (vv), .ref 127, .int (x)] 161 (I1, J1, RF w1)) (fun _ => rfl) ?_
  refine z_evB (N := L) (f := xs) rfl (l_in hb hL 1 (by decide)) ?_
  refine z_evL ?_
  refine z_evG 1 (y := z_ret (z_cl (L, xs) d 191 [.ref 127, .int (xs (nI i + 1).toNatClampNeg)] (161, (I1, J1, RF w1))) 443 [some (.ref 1006), some (.ref 0), some (.ref 127), some (.int (nI i))] [.int (x)]) (fun _ => rfl) ?_
  refine z_evK (z' := 161) (σ' := (I2, J2, RF w2)) e2 ?_
  refine z_evG 1 (y := if x = x then z_go 1757 [some (.ref 1006), some (.ref 0), some (.ref 127), some (.int (nI i))] [] 161 (I2, J2, RF w2) else z_go 446 [some (.ref 1006), some (.ref 0), some (.ref 127), some (.int (nI i))] [] 161 (I2, J2, RF w2)) (fun _ => rfl) ?_
  refine z_evT rfl ?_
  exact z_evL hz
theorem l_k_light {L : Nat} {xs : Nat → Int32} {i : Nat} (hb : i + 6 ≤ L) (hL : L ≤ 3072) : l_ok L xs i 425 := fun N I J w H => by
  obtain ⟨x, I1, J1, w1, I2, J2, w2, e1, e2, N2, H2⟩ := g_light (L, xs) N I J w H (xs (nI i + 1).toNatClampNeg)
  exact ⟨N2, I2, J2, w2, H2, fun r hz => l_r_light L xs 99 i I J w x I1 J1 w1 I2 J2 w2 hb hL e1 e2 hz⟩
theorem l_r_shine (L : Nat) (xs : Nat → Int32) (d i : Nat) (I : Nat → Nat → Int32) (J : Nat → Nat → Int64) (w : Nat) (x : Int32) (I1 : Nat → Nat → Int32) (J1 : Nat → Nat → Int64) (w1 : Nat) (I2 : Nat → Nat → Int32) (J2 : Nat → Nat → Int64) (w2 : Nat) {r : zR} (hb : i + 6 ≤ L) (hL : L ≤ 3072) (e1 : z_cl (L, xs) d 134 [.ref 0, .int (xs (nI i + 1).toNatClampNeg), .int (xs (nI i + 2).toNatClampNeg), .int (xs (nI i + 3).toNatClampNeg)] (161, (I, J, RF w)) = some (some (.int x), 161, (I1, J1, RF w1))) (e2 : z_cl (L, xs) d 192 [.ref 127, .int (xs (nI i + 1).toNatClampNeg), .int (xs (nI i + 2).toNatClampNeg), .int (xs (nI i + 3).toNatClampNeg)] (161, (I1, J1, RF w1)) = some (some (.int x), 161, (I2, J2, RF w2))) (hz : z_Ev (L, xs) d z_m285 1757 [some (.ref 1006), some (.ref 0), some (.ref 127), some (.int (nI i))] [] 161 (I2, J2, RF w2) r) : z_Ev (L, xs) d z_m285 448 [some (.ref 1006), some (.ref 0), some (.ref 127), some (.int (nI i))] [] 161 (I, J, RF w) r := by
  refine z_evG 6 (y := z_ild (z_ia (L, xs) 161 (I, J, RF w) 1006) (nI i + 1) fun vv => z_go 454 [some (.ref 1006), some (.ref 0), some (.ref 127), some (.int (nI i))] [.int (vv), .ref 0] 161 (I, J, RF w)) (fun _ => rfl) ?_
  refine z_evB (N := L) (f := xs) rfl (l_in hb hL 1 (by decide)) ?_
  refine z_evL ?_
  refine z_evG 5 (y := z_ild (z_ia (L, xs) 161 (I, J, RF w) 1006) (nI i + 2) fun vv => z_go 459 [some (.ref 1006), some (.ref 0), some (.ref 127), some (.int (nI i))] [.int (vv), .int (xs (nI i + 1).toNatClampNeg), .ref 0] 161 (I, J, RF w)) (fun _ => rfl) ?_
  refine z_evB (N := L) (f := xs) rfl (l_in hb hL 2 (by decide)) ?_
  refine z_evL ?_
  refine z_evG 5 (y := z_ild (z_ia (L, xs) 161 (I, J, RF w) 1006) (nI i + 3) fun vv => z_go 464 [some (.ref 1006), some (.ref 0), some (.ref 127), some (.int (nI i))] [.int (vv), .int (xs (nI i + 2).toNatClampNeg), .int (xs (nI i + 1).toNatClampNeg), .ref 0] 161 (I, J, RF w)) (fun _ => rfl) ?_
  refine z_evB (N := L) (f := xs) rfl (l_in hb hL 3 (by decide)) ?_
  refine z_evL ?_
  refine z_evG 1 (y := z_ret (z_cl (L, xs) d 134 [.ref 0, .int (xs (nI i + 1).toNatClampNeg), .int (xs (nI i + 2).toNatClampNeg), .int (xs (nI i + 3).toNatClampNeg)] (161, (I, J, RF w))) 467 [some (.ref 1006), some (.ref 0), some (.ref 127), some (.int (nI i))] []) (fun _ => rfl) ?_
  refine z_evK (z' := 161) (σ' := (I1, J1, RF w1)) e1 ?_
  refine z_evG 6 (y := z_ild (z_ia (L, xs) 161 (I1, J1, RF w1) 1006) (nI i + 1) fun vv => z_go 473 [some (.ref 1006), some (.ref 0), some (.ref 127), some (.int (nI i))] [.int (vv), .ref 127, .int (x)] 161 (I1, J1, RF w1)) (fun _ => rfl) ?_
  refine z_evB (N := L) (f := xs) rfl (l_in hb hL 1 (by decide)) ?_
  refine z_evL ?_
  refine z_evG 5 (y := z_ild (z_ia (L, xs) 161 (I1, J1, RF w1) 1006) (nI i + 2) fun vv => z_go 478 [some (.ref 1006), some (.ref 0), some (.ref 127), some (.int (nI i))] [.int (vv), .int (xs (nI i + 1).toNatClampNeg), .ref 127, .int (x)] 161 (I1, J1, RF w1)) (fun _ => rfl) ?_
  refine z_evB (N := L) (f := xs) rfl (l_in hb hL 2 (by decide)) ?_
  refine z_evL ?_
  refine z_evG 5 (y := z_ild (z_ia (L, xs) 161 (I1, J1, RF w1) 1006) (nI i + 3) fun vv => z_go 483 [some (.ref 1006), some (.ref 0), some (.ref 127), some (.int (nI i))] [.int (vv), .int (xs (nI i + 2).toNatClampNeg), .int (xs (nI i + 1).toNatClampNeg), .ref 127, .int (x)] 161 (I1, J1, RF w1)) (fun _ => rfl) ?_
  refine z_evB (N := L) (f := xs) rfl (l_in hb hL 3 (by decide)) ?_
  refine z_evL ?_
  refine z_evG 1 (y := z_ret (z_cl (L, xs) d 192 [.ref 127, .int (xs (nI i + 1).toNatClampNeg), .int (xs (nI i + 2).toNatClampNeg), .int (xs (nI i + 3).toNatClampNeg)] (161, (I1, J1, RF w1))) 486 [some (.ref 1006), some (.ref 0), some (.ref 127), some (.int (nI i))] [.int (x)]) (fun _ => rfl) ?_
  refine z_evK (z' := 161) (σ' := (I2, J2, RF w2)) e2 ?_
  refine z_evG 1 (y := if x = x then z_go 1757 [some (.ref 1006), some (.ref 0), some (.ref 127), some (.int (nI i))] [] 161 (I2, J2, RF w2) else z_go 489 [some (.ref 1006), some (.ref 0), some (.ref 127), some (.int (nI i))] [] 161 (I2, J2, RF w2)) (fun _ => rfl) ?_
  refine z_evT rfl ?_
  exact z_evL hz
theorem l_k_shine {L : Nat} {xs : Nat → Int32} {i : Nat} (hb : i + 6 ≤ L) (hL : L ≤ 3072) : l_ok L xs i 448 := fun N I J w H => by
  obtain ⟨x, I1, J1, w1, I2, J2, w2, e1, e2, N2, H2⟩ := g_shine (L, xs) N I J w H (xs (nI i + 1).toNatClampNeg) (xs (nI i + 2).toNatClampNeg) (xs (nI i + 3).toNatClampNeg)
  exact ⟨N2, I2, J2, w2, H2, fun r hz => l_r_shine L xs 99 i I J w x I1 J1 w1 I2 J2 w2 hb hL e1 e2 hz⟩
theorem l_r_both (L : Nat) (xs : Nat → Int32) (d i : Nat) (I : Nat → Nat → Int32) (J : Nat → Nat → Int64) (w : Nat) (x : Int32) (I1 : Nat → Nat → Int32) (J1 : Nat → Nat → Int64) (w1 : Nat) (I2 : Nat → Nat → Int32) (J2 : Nat → Nat → Int64) (w2 : Nat) {r : zR} (hb : i + 6 ≤ L) (hL : L ≤ 3072) (e1 : z_cl (L, xs) d 135 [.ref 0, .int (xs (nI i + 1).toNatClampNeg), .int (xs (nI i + 2).toNatClampNeg)] (161, (I, J, RF w)) = some (some (.int x), 161, (I1, J1, RF w1))) (e2 : z_cl (L, xs) d 193 [.ref 127, .int (xs (nI i + 1).toNatClampNeg), .int (xs (nI i + 2).toNatClampNeg)] (161, (I1, J1, RF w1)) = some (some (.int x), 161, (I2, J2, RF w2))) (hz : z_Ev (L, xs) d z_m285 1757 [some (.ref 1006), some (.ref 0), some (.ref 127), some (.int (nI i))] [] 161 (I2, J2, RF w2) r) : z_Ev (L, xs) d z_m285 491 [some (.ref 1006), some (.ref 0), some (.ref 127), some (.int (nI i))] [] 161 (I, J, RF w) r := by
  refine z_evG 6 (y := z_ild (z_ia (L, xs) 161 (I, J, RF w) 1006) (nI i + 1) fun vv => z_go 497 [some (.ref 1006), some (.ref 0), some (.ref 127), some (.int (nI i))] [.int (vv), .ref 0] 161 (I, J, RF w)) (fun _ => rfl) ?_
  refine z_evB (N := L) (f := xs) rfl (l_in hb hL 1 (by decide)) ?_
  refine z_evL ?_
  refine z_evG 5 (y := z_ild (z_ia (L, xs) 161 (I, J, RF w) 1006) (nI i + 2) fun vv => z_go 502 [some (.ref 1006), some (.ref 0), some (.ref 127), some (.int (nI i))] [.int (vv), .int (xs (nI i + 1).toNatClampNeg), .ref 0] 161 (I, J, RF w)) (fun _ => rfl) ?_
  refine z_evB (N := L) (f := xs) rfl (l_in hb hL 2 (by decide)) ?_
  refine z_evL ?_
  refine z_evG 1 (y := z_ret (z_cl (L, xs) d 135 [.ref 0, .int (xs (nI i + 1).toNatClampNeg), .int (xs (nI i + 2).toNatClampNeg)] (161, (I, J, RF w))) 505 [some (.ref 1006), some (.ref 0), some (.ref 127), some (.int (nI i))] []) (fun _ => rfl) ?_
  refine z_evK (z' := 161) (σ' := (I1, J1, RF w1)) e1 ?_
  refine z_evG 6 (y := z_ild (z_ia (L, xs) 161 (I1, J1, RF w1) 1006) (nI i + 1) fun vv => z_go 511 [some (.ref 1006), some (.ref 0), some (.ref 127), some (.int (nI i))] [.int (vv), .ref 127, .int (x)] 161 (I1, J1, RF w1)) (fun _ => rfl) ?_
  refine z_evB (N := L) (f := xs) rfl (l_in hb hL 1 (by decide)) ?_
  refine z_evL ?_
  refine z_evG 5 (y := z_ild (z_ia (L, xs) 161 (I1, J1, RF w1) 1006) (nI i + 2) fun vv => z_go 516 [some (.ref 1006), some (.ref 0), some (.ref 127), some (.int (nI i))] [.int (vv), .int (xs (nI i + 1).toNatClampNeg), .ref 127, .int (x)] 161 (I1, J1, RF w1)) (fun _ => rfl) ?_
  refine z_evB (N := L) (f := xs) rfl (l_in hb hL 2 (by decide)) ?_
  refine z_evL ?_
  refine z_evG 1 (y := z_ret (z_cl (L, xs) d 193 [.ref 127, .int (xs (nI i + 1).toNatClampNeg), .int (xs (nI i + 2).toNatClampNeg)] (161, (I1, J1, RF w1))) 519 [some (.ref 1006), some (.ref 0), some (.ref 127), some (.int (nI i))] [.int (x)]) (fun _ => rfl) ?_
  refine z_evK (z' := 161) (σ' := (I2, J2, RF w2)) e2 ?_
  refine z_evG 1 (y := if x = x then z_go 1757 [some (.ref 1006), some (.ref 0), some (.ref 127), some (.int (nI i))] [] 161 (I2, J2, RF w2) else z_go 522 [some (.ref 1006), some (.ref 0), some (.ref 127), some (.int (nI i))] [] 161 (I2, J2, RF w2)) (fun _ => rfl) ?_
  refine z_evT rfl ?_
  exact z_evL hz
theorem l_k_both {L : Nat} {xs : Nat → Int32} {i : Nat} (hb : i + 6 ≤ L) (hL : L ≤ 3072) : l_ok L xs i 491 := fun N I J w H => by
  obtain ⟨x, I1, J1, w1, I2, J2, w2, e1, e2, N2, H2⟩ := g_both (L, xs) N I J w H (xs (nI i + 1).toNatClampNeg) (xs (nI i + 2).toNatClampNeg)
  exact ⟨N2, I2, J2, w2, H2, fun r hz => l_r_both L xs 99 i I J w x I1 J1 w1 I2 J2 w2 hb hL e1 e2 hz⟩
theorem l_r_lightTold (L : Nat) (xs : Nat → Int32) (d i : Nat) (I : Nat → Nat → Int32) (J : Nat → Nat → Int64) (w : Nat) (x : Int32) (I1 : Nat → Nat → Int32) (J1 : Nat → Nat → Int64) (w1 : Nat) (I2 : Nat → Nat → Int32) (J2 : Nat → Nat → Int64) (w2 : Nat) {r : zR} (hb : i + 6 ≤ L) (hL : L ≤ 3072) (e1 : z_cl (L, xs) d 136 [.ref 0, .int (xs (nI i + 1).toNatClampNeg), .int (xs (nI i + 2).toNatClampNeg)] (161, (I, J, RF w)) = some (some (.int x), 161, (I1, J1, RF w1))) (e2 : z_cl (L, xs) d 194 [.ref 127, .int (xs (nI i + 1).toNatClampNeg), .int (xs (nI i + 2).toNatClampNeg)] (161, (I1, J1, RF w1)) = some (some (.int x), 161, (I2, J2, RF w2))) (hz : z_Ev (L, xs) d z_m285 1757 [some (.ref 1006), some (.ref 0), some (.ref 127), some (.int (nI i))] [] 161 (I2, J2, RF w2) r) : z_Ev (L, xs) d z_m285 524 [some (.ref 1006), some (.ref 0), some (.ref 127), some (.int (nI i))] [] 161 (I, J, RF w) r := by
  refine z_evG 6 (y := z_ild (z_ia (L, xs) 161 (I, J, RF w) 1006) (nI i + 1) fun vv => z_go 530 [some (.ref 1006), some (.ref 0), some (.ref 127), some (.int (nI i))] [.int (vv), .ref 0] 161 (I, J, RF w)) (fun _ => rfl) ?_
  refine z_evB (N := L) (f := xs) rfl (l_in hb hL 1 (by decide)) ?_
  refine z_evL ?_
  refine z_evG 5 (y := z_ild (z_ia (L, xs) 161 (I, J, RF w) 1006) (nI i + 2) fun vv => z_go 535 [some (.ref 1006), some (.ref 0), some (.ref 127), some (.int (nI i))] [.int (vv), .int (xs (nI i + 1).toNatClampNeg), .ref 0] 161 (I, J, RF w)) (fun _ => rfl) ?_
  refine z_evB (N := L) (f := xs) rfl (l_in hb hL 2 (by decide)) ?_
  refine z_evL ?_
  refine z_evG 1 (y := z_ret (z_cl (L, xs) d 136 [.ref 0, .int (xs (nI i + 1).toNatClampNeg), .int (xs (nI i + 2).toNatClampNeg)] (161, (I, J, RF w))) 538 [some (.ref 1006), some (.ref 0), some (.ref 127), some (.int (nI i))] []) (fun _ => rfl) ?_
  refine z_evK (z' := 161) (σ' := (I1, J1, RF w1)) e1 ?_
  refine z_evG 6 (y := z_ild (z_ia (L, xs) 161 (I1, J1, RF w1) 1006) (nI i + 1) fun vv => z_go 544 [some (.ref 1006), some (.ref 0), some (.ref 127), some (.int (nI i))] [.int (vv), .ref 127, .int (x)] 161 (I1, J1, RF w1)) (fun _ => rfl) ?_
  refine z_evB (N := L) (f := xs) rfl (l_in hb hL 1 (by decide)) ?_
  refine z_evL ?_
  refine z_evG 5 (y := z_ild (z_ia (L, xs) 161 (I1, J1, RF w1) 1006) (nI i + 2) fun vv => z_go 549 [some (.ref 1006), some (.ref 0), some (.ref 127), some (.int (nI i))] [.int (vv), .int (xs (nI i + 1).toNatClampNeg), .ref 127, .int (x)] 161 (I1, J1, RF w1)) (fun _ => rfl) ?_
  refine z_evB (N := L) (f := xs) rfl (l_in hb hL 2 (by decide)) ?_
  refine z_evL ?_
  refine z_evG 1 (y := z_ret (z_cl (L, xs) d 194 [.ref 127, .int (xs (nI i + 1).toNatClampNeg), .int (xs (nI i + 2).toNatClampNeg)] (161, (I1, J1, RF w1))) 552 [some (.ref 1006), some (.ref 0), some (.ref 127), some (.int (nI i))] [.int (x)]) (fun _ => rfl) ?_
  refine z_evK (z' := 161) (σ' := (I2, J2, RF w2)) e2 ?_
  refine z_evG 1 (y := if x = x then z_go 1757 [some (.ref 1006), some (.ref 0), some (.ref 127), some (.int (nI i))] [] 161 (I2, J2, RF w2) else z_go 555 [some (.ref 1006), some (.ref 0), some (.ref 127), some (.int (nI i))] [] 161 (I2, J2, RF w2)) (fun _ => rfl) ?_
  refine z_evT rfl ?_
  exact z_evL hz
theorem l_k_lightTold {L : Nat} {xs : Nat → Int32} {i : Nat} (hb : i + 6 ≤ L) (hL : L ≤ 3072) : l_ok L xs i 524 := fun N I J w H => by
  obtain ⟨x, I1, J1, w1, I2, J2, w2, e1, e2, N2, H2⟩ := g_lightTold (L, xs) N I J w H (xs (nI i + 1).toNatClampNeg) (xs (nI i + 2).toNatClampNeg)
  exact ⟨N2, I2, J2, w2, H2, fun r hz => l_r_lightTold L xs 99 i I J w x I1 J1 w1 I2 J2 w2 hb hL e1 e2 hz⟩
theorem l_r_eye (L : Nat) (xs : Nat → Int32) (d i : Nat) (I : Nat → Nat → Int32) (J : Nat → Nat → Int64) (w : Nat) (x : Int32) (I1 : Nat → Nat → Int32) (J1 : Nat → Nat → Int64) (w1 : Nat) (I2 : Nat → Nat → Int32) (J2 : Nat → Nat → Int64) (w2 : Nat) {r : zR} (hb : i + 6 ≤ L) (hL : L ≤ 3072) (e1 : z_cl (L, xs) d 137 [.ref 0, .int (xs (nI i + 1).toNatClampNeg), .int (xs (nI i + 2).toNatClampNeg), .int (xs (nI i + 3).toNatClampNeg)] (161, (I, J, RF w)) = some (some (.int x), 161, (I1, J1, RF w1))) (e2 : z_cl (L, xs) d 195 [.ref 127, .int (xs (nI i + 1).toNatClampNeg), .int (xs (nI i + 2).toNatClampNeg), .int (xs (nI i + 3).toNatClampNeg)] (161, (I1, J1, RF w1)) = some (some (.int x), 161, (I2, J2, RF w2))) (hz : z_Ev (L, xs) d z_m285 1757 [some (.ref 1006), some (.ref 0), some (.ref 127), some (.int (nI i))] [] 161 (I2, J2, RF w2) r) : z_Ev (L, xs) d z_m285 557 [some (.ref 1006), some (.ref 0), some (.ref 127), some (.int (nI i))] [] 161 (I, J, RF w) r := by
  refine z_evG 6 (y := z_ild (z_ia (L, xs) 161 (I, J, RF w) 1006) (nI i + 1) fun vv => z_go 563 [some (.ref 1006), some (.ref 0), some (.ref 127), some (.int (nI i))] [.int (vv), .ref 0] 161 (I, J, RF w)) (fun _ => rfl) ?_
  refine z_evB (N := L) (f := xs) rfl (l_in hb hL 1 (by decide)) ?_
  refine z_evL ?_
  refine z_evG 5 (y := z_ild (z_ia (L, xs) 161 (I, J, RF w) 1006) (nI i + 2) fun vv => z_go 568 [some (.ref 1006), some (.ref 0), some (.ref 127), some (.int (nI i))] [.int (vv), .int (xs (nI i + 1).toNatClampNeg), .ref 0] 161 (I, J, RF w)) (fun _ => rfl) ?_
  refine z_evB (N := L) (f := xs) rfl (l_in hb hL 2 (by decide)) ?_
  refine z_evL ?_
  refine z_evG 5 (y := z_ild (z_ia (L, xs) 161 (I, J, RF w) 1006) (nI i + 3) fun vv => z_go 573 [some (.ref 1006), some (.ref 0), some (.ref 127), some (.int (nI i))] [.int (vv), .int (xs (nI i + 2).toNatClampNeg), .int (xs (nI i + 1).toNatClampNeg), .ref 0] 161 (I, J, RF w)) (fun _ => rfl) ?_
  refine z_evB (N := L) (f := xs) rfl (l_in hb hL 3 (by decide)) ?_
  refine z_evL ?_
  refine z_evG 1 (y := z_ret (z_cl (L, xs) d 137 [.ref 0, .int (xs (nI i + 1).toNatClampNeg), .int (xs (nI i + 2).toNatClampNeg), .int (xs (nI i + 3).toNatClampNeg)] (161, (I, J, RF w))) 576 [some (.ref 1006), some (.ref 0), some (.ref 127), some (.int (nI i))] []) (fun _ => rfl) ?_
  refine z_evK (z' := 161) (σ' := (I1, J1, RF w1)) e1 ?_
  refine z_evG 6 (y := z_ild (z_ia (L, xs) 161 (I1, J1, RF w1) 1006) (nI i + 1) fun vv => z_go 582 [some (.ref 1006), some (.ref 0), some (.ref 127), some (.int (nI i))] [.int (vv), .ref 127, .int (x)] 161 (I1, J1, RF w1)) (fun _ => rfl) ?_
  refine z_evB (N := L) (f := xs) rfl (l_in hb hL 1 (by decide)) ?_
  refine z_evL ?_
  refine z_evG 5 (y := z_ild (z_ia (L, xs) 161 (I1, J1, RF w1) 1006) (nI i + 2) fun vv => z_go 587 [some (.ref 1006), some (.ref 0), some (.ref 127), some (.int (nI i))] [.int (vv), .int (xs (nI i + 1).toNatClampNeg), .ref 127, .int (x)] 161 (I1, J1, RF w1)) (fun _ => rfl) ?_
  refine z_evB (N := L) (f := xs) rfl (l_in hb hL 2 (by decide)) ?_
  refine z_evL ?_
  refine z_evG 5 (y := z_ild (z_ia (L, xs) 161 (I1, J1, RF w1) 1006) (nI i + 3) fun vv => z_go 592 [some (.ref 1006), some (.ref 0), some (.ref 127), some (.int (nI i))] [.int (vv), .int (xs (nI i + 2).toNatClampNeg), .int (xs (nI i + 1).toNatClampNeg), .ref 127, .int (x)] 161 (I1, J1, RF w1)) (fun _ => rfl) ?_
  refine z_evB (N := L) (f := xs) rfl (l_in hb hL 3 (by decide)) ?_
  refine z_evL ?_
  refine z_evG 1 (y := z_ret (z_cl (L, xs) d 195 [.ref 127, .int (xs (nI i + 1).toNatClampNeg), .int (xs (nI i + 2).toNatClampNeg), .int (xs (nI i + 3).toNatClampNeg)] (161, (I1, J1, RF w1))) 595 [some (.ref 1006), some (.ref 0), some (.ref 127), some (.int (nI i))] [.int (x)]) (fun _ => rfl) ?_
  refine z_evK (z' := 161) (σ' := (I2, J2, RF w2)) e2 ?_
  refine z_evG 1 (y := if x = x then z_go 1757 [some (.ref 1006), some (.ref 0), some (.ref 127), some (.int (nI i))] [] 161 (I2, J2, RF w2) else z_go 598 [some (.ref 1006), some (.ref 0), some (.ref 127), some (.int (nI i))] [] 161 (I2, J2, RF w2)) (fun _ => rfl) ?_
  refine z_evT rfl ?_
  exact z_evL hz
theorem l_k_eye {L : Nat} {xs : Nat → Int32} {i : Nat} (hb : i + 6 ≤ L) (hL : L ≤ 3072) : l_ok L xs i 557 := fun N I J w H => by
  obtain ⟨x, I1, J1, w1, I2, J2, w2, e1, e2, N2, H2⟩ := g_eye (L, xs) N I J w H (xs (nI i + 1).toNatClampNeg) (xs (nI i + 2).toNatClampNeg) (xs (nI i + 3).toNatClampNeg)
  exact ⟨N2, I2, J2, w2, H2, fun r hz => l_r_eye L xs 99 i I J w x I1 J1 w1 I2 J2 w2 hb hL e1 e2 hz⟩
theorem l_r_seen (L : Nat) (xs : Nat → Int32) (d i : Nat) (I : Nat → Nat → Int32) (J : Nat → Nat → Int64) (w : Nat) (x : Int64) (I1 : Nat → Nat → Int32) (J1 : Nat → Nat → Int64) (w1 : Nat) (I2 : Nat → Nat → Int32) (J2 : Nat → Nat → Int64) (w2 : Nat) {r : zR} (hb : i + 6 ≤ L) (hL : L ≤ 3072) (e1 : z_cl (L, xs) d 138 [.ref 0, .int (xs (nI i + 1).toNatClampNeg), .int (xs (nI i + 2).toNatClampNeg), .int (xs (nI i + 3).toNatClampNeg)] (161, (I, J, RF w)) = some (some (.long x), 161, (I1, J1, RF w1))) (e2 : z_cl (L, xs) d 197 [.ref 127, .int (xs (nI i + 1).toNatClampNeg), .int (xs (nI i + 2).toNatClampNeg), .int (xs (nI i + 3).toNatClampNeg)] (161, (I1, J1, RF w1)) = some (some (.long x), 161, (I2, J2, RF w2))) (hz : z_Ev (L, xs) d z_m285 1757 [some (.ref 1006), some (.ref 0), some (.ref 127), some (.int (nI i))] [] 161 (I2, J2, RF w2) r) : z_Ev (L, xs) d z_m285 600 [some (.ref 1006), some (.ref 0), some (.ref 127), some (.int (nI i))] [] 161 (I, J, RF w) r := by
  refine z_evG 6 (y := z_ild (z_ia (L, xs) 161 (I, J, RF w) 1006) (nI i + 1) fun vv => z_go 606 [some (.ref 1006), some (.ref 0), some (.ref 127), some (.int (nI i))] [.int (vv), .ref 0] 161 (I, J, RF w)) (fun _ => rfl) ?_
  refine z_evB (N := L) (f := xs) rfl (l_in hb hL 1 (by decide)) ?_
  refine z_evL ?_
  refine z_evG 5 (y := z_ild (z_ia (L, xs) 161 (I, J, RF w) 1006) (nI i + 2) fun vv => z_go 611 [some (.ref 1006), some (.ref 0), some (.ref 127), some (.int (nI i))] [.int (vv), .int (xs (nI i + 1).toNatClampNeg), .ref 0] 161 (I, J, RF w)) (fun _ => rfl) ?_
  refine z_evB (N := L) (f := xs) rfl (l_in hb hL 2 (by decide)) ?_
  refine z_evL ?_
  refine z_evG 5 (y := z_ild (z_ia (L, xs) 161 (I, J, RF w) 1006) (nI i + 3) fun vv => z_go 616 [some (.ref 1006), some (.ref 0), some (.ref 127), some (.int (nI i))] [.int (vv), .int (xs (nI i + 2).toNatClampNeg), .int (xs (nI i + 1).toNatClampNeg), .ref 0] 161 (I, J, RF w)) (fun _ => rfl) ?_
  refine z_evB (N := L) (f := xs) rfl (l_in hb hL 3 (by decide)) ?_
  refine z_evL ?_
  refine z_evG 1 (y := z_ret (z_cl (L, xs) d 138 [.ref 0, .int (xs (nI i + 1).toNatClampNeg), .int (xs (nI i + 2).toNatClampNeg), .int (xs (nI i + 3).toNatClampNeg)] (161, (I, J, RF w))) 619 [some (.ref 1006), some (.ref 0), some (.ref 127), some (.int (nI i))] []) (fun _ => rfl) ?_
  refine z_evK (z' := 161) (σ' := (I1, J1, RF w1)) e1 ?_
  refine z_evG 6 (y := z_ild (z_ia (L, xs) 161 (I1, J1, RF w1) 1006) (nI i + 1) fun vv => z_go 625 [some (.ref 1006), some (.ref 0), some (.ref 127), some (.int (nI i))] [.int (vv), .ref 127, .long (x)] 161 (I1, J1, RF w1)) (fun _ => rfl) ?_
  refine z_evB (N := L) (f := xs) rfl (l_in hb hL 1 (by decide)) ?_
  refine z_evL ?_
  refine z_evG 5 (y := z_ild (z_ia (L, xs) 161 (I1, J1, RF w1) 1006) (nI i + 2) fun vv => z_go 630 [some (.ref 1006), some (.ref 0), some (.ref 127), some (.int (nI i))] [.int (vv), .int (xs (nI i + 1).toNatClampNeg), .ref 127, .long (x)] 161 (I1, J1, RF w1)) (fun _ => rfl) ?_
  refine z_evB (N := L) (f := xs) rfl (l_in hb hL 2 (by decide)) ?_
  refine z_evL ?_
  refine z_evG 5 (y := z_ild (z_ia (L, xs) 161 (I1, J1, RF w1) 1006) (nI i + 3) fun vv => z_go 635 [some (.ref 1006), some (.ref 0), some (.ref 127), some (.int (nI i))] [.int (vv), .int (xs (nI i + 2).toNatClampNeg), .int (xs (nI i + 1).toNatClampNeg), .ref 127, .long (x)] 161 (I1, J1, RF w1)) (fun _ => rfl) ?_
  refine z_evB (N := L) (f := xs) rfl (l_in hb hL 3 (by decide)) ?_
  refine z_evL ?_
  refine z_evG 1 (y := z_ret (z_cl (L, xs) d 197 [.ref 127, .int (xs (nI i + 1).toNatClampNeg), .int (xs (nI i + 2).toNatClampNeg), .int (xs (nI i + 3).toNatClampNeg)] (161, (I1, J1, RF w1))) 638 [some (.ref 1006), some (.ref 0), some (.ref 127), some (.int (nI i))] [.long (x)]) (fun _ => rfl) ?_
  refine z_evK (z' := 161) (σ' := (I2, J2, RF w2)) e2 ?_
  refine z_evG 2 (y := if lg_cmp x x = 0 then z_go 1757 [some (.ref 1006), some (.ref 0), some (.ref 127), some (.int (nI i))] [] 161 (I2, J2, RF w2) else z_go 642 [some (.ref 1006), some (.ref 0), some (.ref 127), some (.int (nI i))] [] 161 (I2, J2, RF w2)) (fun _ => rfl) ?_
  refine z_evT ((lg_cmp_eq x x).mpr rfl) ?_
  exact z_evL hz
theorem l_k_seen {L : Nat} {xs : Nat → Int32} {i : Nat} (hb : i + 6 ≤ L) (hL : L ≤ 3072) : l_ok L xs i 600 := fun N I J w H => by
  obtain ⟨x, I1, J1, w1, I2, J2, w2, e1, e2, N2, H2⟩ := g_seen (L, xs) N I J w H (xs (nI i + 1).toNatClampNeg) (xs (nI i + 2).toNatClampNeg) (xs (nI i + 3).toNatClampNeg)
  exact ⟨N2, I2, J2, w2, H2, fun r hz => l_r_seen L xs 99 i I J w x I1 J1 w1 I2 J2 w2 hb hL e1 e2 hz⟩
theorem l_r_same (L : Nat) (xs : Nat → Int32) (d i : Nat) (I : Nat → Nat → Int32) (J : Nat → Nat → Int64) (w : Nat) (x : Int32) (I1 : Nat → Nat → Int32) (J1 : Nat → Nat → Int64) (w1 : Nat) (I2 : Nat → Nat → Int32) (J2 : Nat → Nat → Int64) (w2 : Nat) {r : zR} (hb : i + 6 ≤ L) (hL : L ≤ 3072) (e1 : z_cl (L, xs) d 139 [.ref 0, .int (xs (nI i + 1).toNatClampNeg), .int (xs (nI i + 2).toNatClampNeg), .int (xs (nI i + 3).toNatClampNeg)] (161, (I, J, RF w)) = some (some (.int x), 161, (I1, J1, RF w1))) (e2 : z_cl (L, xs) d 199 [.ref 127, .int (xs (nI i + 1).toNatClampNeg), .int (xs (nI i + 2).toNatClampNeg), .int (xs (nI i + 3).toNatClampNeg)] (161, (I1, J1, RF w1)) = some (some (.int x), 161, (I2, J2, RF w2))) (hz : z_Ev (L, xs) d z_m285 1757 [some (.ref 1006), some (.ref 0), some (.ref 127), some (.int (nI i))] [] 161 (I2, J2, RF w2) r) : z_Ev (L, xs) d z_m285 644 [some (.ref 1006), some (.ref 0), some (.ref 127), some (.int (nI i))] [] 161 (I, J, RF w) r := by
  refine z_evG 6 (y := z_ild (z_ia (L, xs) 161 (I, J, RF w) 1006) (nI i + 1) fun vv => z_go 650 [some (.ref 1006), some (.ref 0), some (.ref 127), some (.int (nI i))] [.int (vv), .ref 0] 161 (I, J, RF w)) (fun _ => rfl) ?_
  refine z_evB (N := L) (f := xs) rfl (l_in hb hL 1 (by decide)) ?_
  refine z_evL ?_
  refine z_evG 5 (y := z_ild (z_ia (L, xs) 161 (I, J, RF w) 1006) (nI i + 2) fun vv => z_go 655 [some (.ref 1006), some (.ref 0), some (.ref 127), some (.int (nI i))] [.int (vv), .int (xs (nI i + 1).toNatClampNeg), .ref 0] 161 (I, J, RF w)) (fun _ => rfl) ?_
  refine z_evB (N := L) (f := xs) rfl (l_in hb hL 2 (by decide)) ?_
  refine z_evL ?_
  refine z_evG 5 (y := z_ild (z_ia (L, xs) 161 (I, J, RF w) 1006) (nI i + 3) fun vv => z_go 660 [some (.ref 1006), some (.ref 0), some (.ref 127), some (.int (nI i))] [.int (vv), .int (xs (nI i + 2).toNatClampNeg), .int (xs (nI i + 1).toNatClampNeg), .ref 0] 161 (I, J, RF w)) (fun _ => rfl) ?_
  refine z_evB (N := L) (f := xs) rfl (l_in hb hL 3 (by decide)) ?_
  refine z_evL ?_
  refine z_evG 1 (y := z_ret (z_cl (L, xs) d 139 [.ref 0, .int (xs (nI i + 1).toNatClampNeg), .int (xs (nI i + 2).toNatClampNeg), .int (xs (nI i + 3).toNatClampNeg)] (161, (I, J, RF w))) 663 [some (.ref 1006), some (.ref 0), some (.ref 127), some (.int (nI i))] []) (fun _ => rfl) ?_
  refine z_evK (z' := 161) (σ' := (I1, J1, RF w1)) e1 ?_
  refine z_evG 6 (y := z_ild (z_ia (L, xs) 161 (I1, J1, RF w1) 1006) (nI i + 1) fun vv => z_go 669 [some (.ref 1006), some (.ref 0), some (.ref 127), some (.int (nI i))] [.int (vv), .ref 127, .int (x)] 161 (I1, J1, RF w1)) (fun _ => rfl) ?_
  refine z_evB (N := L) (f := xs) rfl (l_in hb hL 1 (by decide)) ?_
  refine z_evL ?_
  refine z_evG 5 (y := z_ild (z_ia (L, xs) 161 (I1, J1, RF w1) 1006) (nI i + 2) fun vv => z_go 674 [some (.ref 1006), some (.ref 0), some (.ref 127), some (.int (nI i))] [.int (vv), .int (xs (nI i + 1).toNatClampNeg), .ref 127, .int (x)] 161 (I1, J1, RF w1)) (fun _ => rfl) ?_
  refine z_evB (N := L) (f := xs) rfl (l_in hb hL 2 (by decide)) ?_
  refine z_evL ?_
  refine z_evG 5 (y := z_ild (z_ia (L, xs) 161 (I1, J1, RF w1) 1006) (nI i + 3) fun vv => z_go 679 [some (.ref 1006), some (.ref 0), some (.ref 127), some (.int (nI i))] [.int (vv), .int (xs (nI i + 2).toNatClampNeg), .int (xs (nI i + 1).toNatClampNeg), .ref 127, .int (x)] 161 (I1, J1, RF w1)) (fun _ => rfl) ?_
  refine z_evB (N := L) (f := xs) rfl (l_in hb hL 3 (by decide)) ?_
  refine z_evL ?_
  refine z_evG 1 (y := z_ret (z_cl (L, xs) d 199 [.ref 127, .int (xs (nI i + 1).toNatClampNeg), .int (xs (nI i + 2).toNatClampNeg), .int (xs (nI i + 3).toNatClampNeg)] (161, (I1, J1, RF w1))) 682 [some (.ref 1006), some (.ref 0), some (.ref 127), some (.int (nI i))] [.int (x)]) (fun _ => rfl) ?_
  refine z_evK (z' := 161) (σ' := (I2, J2, RF w2)) e2 ?_
  refine z_evG 1 (y := if x = x then z_go 1757 [some (.ref 1006), some (.ref 0), some (.ref 127), some (.int (nI i))] [] 161 (I2, J2, RF w2) else z_go 685 [some (.ref 1006), some (.ref 0), some (.ref 127), some (.int (nI i))] [] 161 (I2, J2, RF w2)) (fun _ => rfl) ?_
  refine z_evT rfl ?_
  exact z_evL hz
theorem l_k_same {L : Nat} {xs : Nat → Int32} {i : Nat} (hb : i + 6 ≤ L) (hL : L ≤ 3072) : l_ok L xs i 644 := fun N I J w H => by
  obtain ⟨x, I1, J1, w1, I2, J2, w2, e1, e2, N2, H2⟩ := g_same (L, xs) N I J w H (xs (nI i + 1).toNatClampNeg) (xs (nI i + 2).toNatClampNeg) (xs (nI i + 3).toNatClampNeg)
  exact ⟨N2, I2, J2, w2, H2, fun r hz => l_r_same L xs 99 i I J w x I1 J1 w1 I2 J2 w2 hb hL e1 e2 hz⟩
theorem l_r_twins (L : Nat) (xs : Nat → Int32) (d i : Nat) (I : Nat → Nat → Int32) (J : Nat → Nat → Int64) (w : Nat) (x : Int32) (I1 : Nat → Nat → Int32) (J1 : Nat → Nat → Int64) (w1 : Nat) (I2 : Nat → Nat → Int32) (J2 : Nat → Nat → Int64) (w2 : Nat) {r : zR} (hb : i + 6 ≤ L) (hL : L ≤ 3072) (e1 : z_cl (L, xs) d 140 [.ref 0, .int (xs (nI i + 1).toNatClampNeg), .int (xs (nI i + 2).toNatClampNeg), .int (xs (nI i + 3).toNatClampNeg)] (161, (I, J, RF w)) = some (some (.int x), 161, (I1, J1, RF w1))) (e2 : z_cl (L, xs) d 200 [.ref 127, .int (xs (nI i + 1).toNatClampNeg), .int (xs (nI i + 2).toNatClampNeg), .int (xs (nI i + 3).toNatClampNeg)] (161, (I1, J1, RF w1)) = some (some (.int x), 161, (I2, J2, RF w2))) (hz : z_Ev (L, xs) d z_m285 1757 [some (.ref 1006), some (.ref 0), some (.ref 127), some (.int (nI i))] [] 161 (I2, J2, RF w2) r) : z_Ev (L, xs) d z_m285 687 [some (.ref 1006), some (.ref 0), some (.ref 127), some (.int (nI i))] [] 161 (I, J, RF w) r := by
  refine z_evG 6 (y := z_ild (z_ia (L, xs) 161 (I, J, RF w) 1006) (nI i + 1) fun vv => z_go 693 [some (.ref 1006), some (.ref 0), some (.ref 127), some (.int (nI i))] [.int (vv), .ref 0] 161 (I, J, RF w)) (fun _ => rfl) ?_
  refine z_evB (N := L) (f := xs) rfl (l_in hb hL 1 (by decide)) ?_
  refine z_evL ?_
  refine z_evG 5 (y := z_ild (z_ia (L, xs) 161 (I, J, RF w) 1006) (nI i + 2) fun vv => z_go 698 [some (.ref 1006), some (.ref 0), some (.ref 127), some (.int (nI i))] [.int (vv), .int (xs (nI i + 1).toNatClampNeg), .ref 0] 161 (I, J, RF w)) (fun _ => rfl) ?_
  refine z_evB (N := L) (f := xs) rfl (l_in hb hL 2 (by decide)) ?_
  refine z_evL ?_
  refine z_evG 5 (y := z_ild (z_ia (L, xs) 161 (I, J, RF w) 1006) (nI i + 3) fun vv => z_go 703 [some (.ref 1006), some (.ref 0), some (.ref 127), some (.int (nI i))] [.int (vv), .int (xs (nI i + 2).toNatClampNeg), .int (xs (nI i + 1).toNatClampNeg), .ref 0] 161 (I, J, RF w)) (fun _ => rfl) ?_
  refine z_evB (N := L) (f := xs) rfl (l_in hb hL 3 (by decide)) ?_
  refine z_evL ?_
  refine z_evG 1 (y := z_ret (z_cl (L, xs) d 140 [.ref 0, .int (xs (nI i + 1).toNatClampNeg), .int (xs (nI i + 2).toNatClampNeg), .int (xs (nI i + 3).toNatClampNeg)] (161, (I, J, RF w))) 706 [some (.ref 1006), some (.ref 0), some (.ref 127), some (.int (nI i))] []) (fun _ => rfl) ?_
  refine z_evK (z' := 161) (σ' := (I1, J1, RF w1)) e1 ?_
  refine z_evG 6 (y := z_ild (z_ia (L, xs) 161 (I1, J1, RF w1) 1006) (nI i + 1) fun vv => z_go 712 [some (.ref 1006), some (.ref 0), some (.ref 127), some (.int (nI i))] [.int (vv), .ref 127, .int (x)] 161 (I1, J1, RF w1)) (fun _ => rfl) ?_
  refine z_evB (N := L) (f := xs) rfl (l_in hb hL 1 (by decide)) ?_
  refine z_evL ?_
  refine z_evG 5 (y := z_ild (z_ia (L, xs) 161 (I1, J1, RF w1) 1006) (nI i + 2) fun vv => z_go 717 [some (.ref 1006), some (.ref 0), some (.ref 127), some (.int (nI i))] [.int (vv), .int (xs (nI i + 1).toNatClampNeg), .ref 127, .int (x)] 161 (I1, J1, RF w1)) (fun _ => rfl) ?_
  refine z_evB (N := L) (f := xs) rfl (l_in hb hL 2 (by decide)) ?_
  refine z_evL ?_
  refine z_evG 5 (y := z_ild (z_ia (L, xs) 161 (I1, J1, RF w1) 1006) (nI i + 3) fun vv => z_go 722 [some (.ref 1006), some (.ref 0), some (.ref 127), some (.int (nI i))] [.int (vv), .int (xs (nI i + 2).toNatClampNeg), .int (xs (nI i + 1).toNatClampNeg), .ref 127, .int (x)] 161 (I1, J1, RF w1)) (fun _ => rfl) ?_
  refine z_evB (N := L) (f := xs) rfl (l_in hb hL 3 (by decide)) ?_
  refine z_evL ?_
  refine z_evG 1 (y := z_ret (z_cl (L, xs) d 200 [.ref 127, .int (xs (nI i + 1).toNatClampNeg), .int (xs (nI i + 2).toNatClampNeg), .int (xs (nI i + 3).toNatClampNeg)] (161, (I1, J1, RF w1))) 725 [some (.ref 1006), some (.ref 0), some (.ref 127), some (.int (nI i))] [.int (x)]) (fun _ => rfl) ?_
  refine z_evK (z' := 161) (σ' := (I2, J2, RF w2)) e2 ?_
  refine z_evG 1 (y := if x = x then z_go 1757 [some (.ref 1006), some (.ref 0), some (.ref 127), some (.int (nI i))] [] 161 (I2, J2, RF w2) else z_go 728 [some (.ref 1006), some (.ref 0), some (.ref 127), some (.int (nI i))] [] 161 (I2, J2, RF w2)) (fun _ => rfl) ?_
  refine z_evT rfl ?_
  exact z_evL hz
theorem l_k_twins {L : Nat} {xs : Nat → Int32} {i : Nat} (hb : i + 6 ≤ L) (hL : L ≤ 3072) : l_ok L xs i 687 := fun N I J w H => by
  obtain ⟨x, I1, J1, w1, I2, J2, w2, e1, e2, N2, H2⟩ := g_twins (L, xs) N I J w H (xs (nI i + 1).toNatClampNeg) (xs (nI i + 2).toNatClampNeg) (xs (nI i + 3).toNatClampNeg)
  exact ⟨N2, I2, J2, w2, H2, fun r hz => l_r_twins L xs 99 i I J w x I1 J1 w1 I2 J2 w2 hb hL e1 e2 hz⟩
theorem l_r_feed (L : Nat) (xs : Nat → Int32) (d i : Nat) (I : Nat → Nat → Int32) (J : Nat → Nat → Int64) (w : Nat) (x : Int32) (I1 : Nat → Nat → Int32) (J1 : Nat → Nat → Int64) (w1 : Nat) (I2 : Nat → Nat → Int32) (J2 : Nat → Nat → Int64) (w2 : Nat) {r : zR} (hb : i + 6 ≤ L) (hL : L ≤ 3072) (e1 : z_cl (L, xs) d 141 [.ref 0, .int (xs (nI i + 1).toNatClampNeg), .long ((((xs (nI i + 2).toNatClampNeg).toInt64) <<< ((32 : Int32).toInt64 &&& 63)) ||| (((xs (nI i + 3).toNatClampNeg).toInt64) &&& (4294967295)))] (161, (I, J, RF w)) = some (some (.int x), 161, (I1, J1, RF w1))) (e2 : z_cl (L, xs) d 201 [.ref 127, .int (xs (nI i + 1).toNatClampNeg), .long ((((xs (nI i + 2).toNatClampNeg).toInt64) <<< ((32 : Int32).toInt64 &&& 63)) ||| (((xs (nI i + 3).toNatClampNeg).toInt64) &&& (4294967295)))] (161, (I1, J1, RF w1)) = some (some (.int x), 161, (I2, J2, RF w2))) (hz : z_Ev (L, xs) d z_m285 1757 [some (.ref 1006), some (.ref 0), some (.ref 127), some (.int (nI i))] [] 161 (I2, J2, RF w2) r) : z_Ev (L, xs) d z_m285 730 [some (.ref 1006), some (.ref 0), some (.ref 127), some (.int (nI i))] [] 161 (I, J, RF w) r := by
  refine z_evG 6 (y := z_ild (z_ia (L, xs) 161 (I, J, RF w) 1006) (nI i + 1) fun vv => z_go 736 [some (.ref 1006), some (.ref 0), some (.ref 127), some (.int (nI i))] [.int (vv), .ref 0] 161 (I, J, RF w)) (fun _ => rfl) ?_
  refine z_evB (N := L) (f := xs) rfl (l_in hb hL 1 (by decide)) ?_
  refine z_evL ?_
  refine z_evG 5 (y := z_ild (z_ia (L, xs) 161 (I, J, RF w) 1006) (nI i + 2) fun vv => z_go 741 [some (.ref 1006), some (.ref 0), some (.ref 127), some (.int (nI i))] [.int (vv), .int (xs (nI i + 1).toNatClampNeg), .ref 0] 161 (I, J, RF w)) (fun _ => rfl) ?_
  refine z_evB (N := L) (f := xs) rfl (l_in hb hL 2 (by decide)) ?_
  refine z_evL ?_
  refine z_evG 8 (y := z_ild (z_ia (L, xs) 161 (I, J, RF w) 1006) (nI i + 3) fun vv => z_go 750 [some (.ref 1006), some (.ref 0), some (.ref 127), some (.int (nI i))] [.int (vv), .long (((xs (nI i + 2).toNatClampNeg).toInt64) <<< ((32 : Int32).toInt64 &&& 63)), .int (xs (nI i + 1).toNatClampNeg), .ref 0] 161 (I, J, RF w)) (fun _ => rfl) ?_
  refine z_evB (N := L) (f := xs) rfl (l_in hb hL 3 (by decide)) ?_
  refine z_evL ?_
  refine z_evG 5 (y := z_ret (z_cl (L, xs) d 141 [.ref 0, .int (xs (nI i + 1).toNatClampNeg), .long ((((xs (nI i + 2).toNatClampNeg).toInt64) <<< ((32 : Int32).toInt64 &&& 63)) ||| (((xs (nI i + 3).toNatClampNeg).toInt64) &&& (4294967295)))] (161, (I, J, RF w))) 759 [some (.ref 1006), some (.ref 0), some (.ref 127), some (.int (nI i))] []) (fun _ => rfl) ?_
  refine z_evK (z' := 161) (σ' := (I1, J1, RF w1)) e1 ?_
  refine z_evG 6 (y := z_ild (z_ia (L, xs) 161 (I1, J1, RF w1) 1006) (nI i + 1) fun vv => z_go 765 [some (.ref 1006), some (.ref 0), some (.ref 127), some (.int (nI i))] [.int (vv), .ref 127, .int (x)] 161 (I1, J1, RF w1)) (fun _ => rfl) ?_
  refine z_evB (N := L) (f := xs) rfl (l_in hb hL 1 (by decide)) ?_
  refine z_evL ?_
  refine z_evG 5 (y := z_ild (z_ia (L, xs) 161 (I1, J1, RF w1) 1006) (nI i + 2) fun vv => z_go 770 [some (.ref 1006), some (.ref 0), some (.ref 127), some (.int (nI i))] [.int (vv), .int (xs (nI i + 1).toNatClampNeg), .ref 127, .int (x)] 161 (I1, J1, RF w1)) (fun _ => rfl) ?_
  refine z_evB (N := L) (f := xs) rfl (l_in hb hL 2 (by decide)) ?_
  refine z_evL ?_
  refine z_evG 8 (y := z_ild (z_ia (L, xs) 161 (I1, J1, RF w1) 1006) (nI i + 3) fun vv => z_go 779 [some (.ref 1006), some (.ref 0), some (.ref 127), some (.int (nI i))] [.int (vv), .long (((xs (nI i + 2).toNatClampNeg).toInt64) <<< ((32 : Int32).toInt64 &&& 63)), .int (xs (nI i + 1).toNatClampNeg), .ref 127, .int (x)] 161 (I1, J1, RF w1)) (fun _ => rfl) ?_
  refine z_evB (N := L) (f := xs) rfl (l_in hb hL 3 (by decide)) ?_
  refine z_evL ?_
  refine z_evG 5 (y := z_ret (z_cl (L, xs) d 201 [.ref 127, .int (xs (nI i + 1).toNatClampNeg), .long ((((xs (nI i + 2).toNatClampNeg).toInt64) <<< ((32 : Int32).toInt64 &&& 63)) ||| (((xs (nI i + 3).toNatClampNeg).toInt64) &&& (4294967295)))] (161, (I1, J1, RF w1))) 788 [some (.ref 1006), some (.ref 0), some (.ref 127), some (.int (nI i))] [.int (x)]) (fun _ => rfl) ?_
  refine z_evK (z' := 161) (σ' := (I2, J2, RF w2)) e2 ?_
  refine z_evG 1 (y := if x = x then z_go 1757 [some (.ref 1006), some (.ref 0), some (.ref 127), some (.int (nI i))] [] 161 (I2, J2, RF w2) else z_go 791 [some (.ref 1006), some (.ref 0), some (.ref 127), some (.int (nI i))] [] 161 (I2, J2, RF w2)) (fun _ => rfl) ?_
  refine z_evT rfl ?_
  exact z_evL hz
theorem l_k_feed {L : Nat} {xs : Nat → Int32} {i : Nat} (hb : i + 6 ≤ L) (hL : L ≤ 3072) : l_ok L xs i 730 := fun N I J w H => by
  obtain ⟨x, I1, J1, w1, I2, J2, w2, e1, e2, N2, H2⟩ := g_feed (L, xs) N I J w H (xs (nI i + 1).toNatClampNeg) ((((xs (nI i + 2).toNatClampNeg).toInt64) <<< ((32 : Int32).toInt64 &&& 63)) ||| (((xs (nI i + 3).toNatClampNeg).toInt64) &&& (4294967295)))
  exact ⟨N2, I2, J2, w2, H2, fun r hz => l_r_feed L xs 99 i I J w x I1 J1 w1 I2 J2 w2 hb hL e1 e2 hz⟩
theorem l_r_text (L : Nat) (xs : Nat → Int32) (d i : Nat) (I : Nat → Nat → Int32) (J : Nat → Nat → Int64) (w : Nat) (x : Int32) (I1 : Nat → Nat → Int32) (J1 : Nat → Nat → Int64) (w1 : Nat) (I2 : Nat → Nat → Int32) (J2 : Nat → Nat → Int64) (w2 : Nat) {r : zR} (hb : i + 6 ≤ L) (hL : L ≤ 3072) (e1 : z_cl (L, xs) d 142 [.ref 0] (161, (I, J, RF w)) = some (some (.int x), 161, (I1, J1, RF w1))) (e2 : z_cl (L, xs) d 215 [.ref 127] (161, (I1, J1, RF w1)) = some (some (.int x), 161, (I2, J2, RF w2))) (hz : z_Ev (L, xs) d z_m285 1757 [some (.ref 1006), some (.ref 0), some (.ref 127), some (.int (nI i))] [] 161 (I2, J2, RF w2) r) : z_Ev (L, xs) d z_m285 793 [some (.ref 1006), some (.ref 0), some (.ref 127), some (.int (nI i))] [] 161 (I, J, RF w) r := by
  refine z_evG 2 (y := z_ret (z_cl (L, xs) d 142 [.ref 0] (161, (I, J, RF w))) 797 [some (.ref 1006), some (.ref 0), some (.ref 127), some (.int (nI i))] []) (fun _ => rfl) ?_
  refine z_evK (z' := 161) (σ' := (I1, J1, RF w1)) e1 ?_
  refine z_evG 2 (y := z_ret (z_cl (L, xs) d 215 [.ref 127] (161, (I1, J1, RF w1))) 801 [some (.ref 1006), some (.ref 0), some (.ref 127), some (.int (nI i))] [.int (x)]) (fun _ => rfl) ?_
  refine z_evK (z' := 161) (σ' := (I2, J2, RF w2)) e2 ?_
  refine z_evG 1 (y := if x = x then z_go 1757 [some (.ref 1006), some (.ref 0), some (.ref 127), some (.int (nI i))] [] 161 (I2, J2, RF w2) else z_go 804 [some (.ref 1006), some (.ref 0), some (.ref 127), some (.int (nI i))] [] 161 (I2, J2, RF w2)) (fun _ => rfl) ?_
  refine z_evT rfl ?_
  exact z_evL hz
theorem l_k_text {L : Nat} {xs : Nat → Int32} {i : Nat} (hb : i + 6 ≤ L) (hL : L ≤ 3072) : l_ok L xs i 793 := fun N I J w H => by
  obtain ⟨x, I1, J1, w1, I2, J2, w2, e1, e2, N2, H2⟩ := g_text (L, xs) N I J w H 
  exact ⟨N2, I2, J2, w2, H2, fun r hz => l_r_text L xs 99 i I J w x I1 J1 w1 I2 J2 w2 hb hL e1 e2 hz⟩
theorem l_r_force (L : Nat) (xs : Nat → Int32) (d i : Nat) (I : Nat → Nat → Int32) (J : Nat → Nat → Int64) (w : Nat) (x : Int32) (I1 : Nat → Nat → Int32) (J1 : Nat → Nat → Int64) (w1 : Nat) (I2 : Nat → Nat → Int32) (J2 : Nat → Nat → Int64) (w2 : Nat) {r : zR} (hb : i + 6 ≤ L) (hL : L ≤ 3072) (e1 : z_cl (L, xs) d 143 [.ref 0, .int (xs (nI i + 1).toNatClampNeg)] (161, (I, J, RF w)) = some (some (.int x), 161, (I1, J1, RF w1))) (e2 : z_cl (L, xs) d 216 [.ref 127, .int (xs (nI i + 1).toNatClampNeg)] (161, (I1, J1, RF w1)) = some (some (.int x), 161, (I2, J2, RF w2))) (hz : z_Ev (L, xs) d z_m285 1757 [some (.ref 1006), some (.ref 0), some (.ref 127), some (.int (nI i))] [] 161 (I2, J2, RF w2) r) : z_Ev (L, xs) d z_m285 806 [some (.ref 1006), some (.ref 0), some (.ref 127), some (.int (nI i))] [] 161 (I, J, RF w) r := by
  refine z_evG 6 (y := z_ild (z_ia (L, xs) 161 (I, J, RF w) 1006) (nI i + 1) fun vv => z_go 812 [some (.ref 1006), some (.ref 0), some (.ref 127), some (.int (nI i))] [.int (vv), .ref 0] 161 (I, J, RF w)) (fun _ => rfl) ?_
  refine z_evB (N := L) (f := xs) rfl (l_in hb hL 1 (by decide)) ?_
  refine z_evL ?_
  refine z_evG 1 (y := z_ret (z_cl (L, xs) d 143 [.ref 0, .int (xs (nI i + 1).toNatClampNeg)] (161, (I, J, RF w))) 815 [some (.ref 1006), some (.ref 0), some (.ref 127), some (.int (nI i))] []) (fun _ => rfl) ?_
  refine z_evK (z' := 161) (σ' := (I1, J1, RF w1)) e1 ?_
  refine z_evG 6 (y := z_ild (z_ia (L, xs) 161 (I1, J1, RF w1) 1006) (nI i + 1) fun vv => z_go 821 [some (.ref 1006), some (.ref 0), some (.ref 127), some (.int (nI i))] [.int (vv), .ref 127, .int (x)] 161 (I1, J1, RF w1)) (fun _ => rfl) ?_
  refine z_evB (N := L) (f := xs) rfl (l_in hb hL 1 (by decide)) ?_
  refine z_evL ?_
  refine z_evG 1 (y := z_ret (z_cl (L, xs) d 216 [.ref 127, .int (xs (nI i + 1).toNatClampNeg)] (161, (I1, J1, RF w1))) 824 [some (.ref 1006), some (.ref 0), some (.ref 127), some (.int (nI i))] [.int (x)]) (fun _ => rfl) ?_
  refine z_evK (z' := 161) (σ' := (I2, J2, RF w2)) e2 ?_
  refine z_evG 1 (y := if x = x then z_go 1757 [some (.ref 1006), some (.ref 0), some (.ref 127), some (.int (nI i))] [] 161 (I2, J2, RF w2) else z_go 827 [some (.ref 1006), some (.ref 0), some (.ref 127), some (.int (nI i))] [] 161 (I2, J2, RF w2)) (fun _ => rfl) ?_
  refine z_evT rfl ?_
  exact z_evL hz
theorem l_k_force {L : Nat} {xs : Nat → Int32} {i : Nat} (hb : i + 6 ≤ L) (hL : L ≤ 3072) : l_ok L xs i 806 := fun N I J w H => by
  obtain ⟨x, I1, J1, w1, I2, J2, w2, e1, e2, N2, H2⟩ := g_force (L, xs) N I J w H (xs (nI i + 1).toNatClampNeg)
  exact ⟨N2, I2, J2, w2, H2, fun r hz => l_r_force L xs 99 i I J w x I1 J1 w1 I2 J2 w2 hb hL e1 e2 hz⟩
theorem l_r_like (L : Nat) (xs : Nat → Int32) (d i : Nat) (I : Nat → Nat → Int32) (J : Nat → Nat → Int64) (w : Nat) (x : Int64) (I1 : Nat → Nat → Int32) (J1 : Nat → Nat → Int64) (w1 : Nat) (I2 : Nat → Nat → Int32) (J2 : Nat → Nat → Int64) (w2 : Nat) {r : zR} (hb : i + 6 ≤ L) (hL : L ≤ 3072) (e1 : z_cl (L, xs) d 144 [.ref 0, .int (xs (nI i + 1).toNatClampNeg), .int (xs (nI i + 2).toNatClampNeg), .int (xs (nI i + 3).toNatClampNeg)] (161, (I, J, RF w)) = some (some (.long x), 161, (I1, J1, RF w1))) (e2 : z_cl (L, xs) d 220 [.ref 127, .int (xs (nI i + 1).toNatClampNeg), .int (xs (nI i + 2).toNatClampNeg), .int (xs (nI i + 3).toNatClampNeg)] (161, (I1, J1, RF w1)) = some (some (.long x), 161, (I2, J2, RF w2))) (hz : z_Ev (L, xs) d z_m285 1757 [some (.ref 1006), some (.ref 0), some (.ref 127), some (.int (nI i))] [] 161 (I2, J2, RF w2) r) : z_Ev (L, xs) d z_m285 829 [some (.ref 1006), some (.ref 0), some (.ref 127), some (.int (nI i))] [] 161 (I, J, RF w) r := by
  refine z_evG 6 (y := z_ild (z_ia (L, xs) 161 (I, J, RF w) 1006) (nI i + 1) fun vv => z_go 835 [some (.ref 1006), some (.ref 0), some (.ref 127), some (.int (nI i))] [.int (vv), .ref 0] 161 (I, J, RF w)) (fun _ => rfl) ?_
  refine z_evB (N := L) (f := xs) rfl (l_in hb hL 1 (by decide)) ?_
  refine z_evL ?_
  refine z_evG 5 (y := z_ild (z_ia (L, xs) 161 (I, J, RF w) 1006) (nI i + 2) fun vv => z_go 840 [some (.ref 1006), some (.ref 0), some (.ref 127), some (.int (nI i))] [.int (vv), .int (xs (nI i + 1).toNatClampNeg), .ref 0] 161 (I, J, RF w)) (fun _ => rfl) ?_
  refine z_evB (N := L) (f := xs) rfl (l_in hb hL 2 (by decide)) ?_
  refine z_evL ?_
  refine z_evG 5 (y := z_ild (z_ia (L, xs) 161 (I, J, RF w) 1006) (nI i + 3) fun vv => z_go 845 [some (.ref 1006), some (.ref 0), some (.ref 127), some (.int (nI i))] [.int (vv), .int (xs (nI i + 2).toNatClampNeg), .int (xs (nI i + 1).toNatClampNeg), .ref 0] 161 (I, J, RF w)) (fun _ => rfl) ?_
  refine z_evB (N := L) (f := xs) rfl (l_in hb hL 3 (by decide)) ?_
  refine z_evL ?_
  refine z_evG 1 (y := z_ret (z_cl (L, xs) d 144 [.ref 0, .int (xs (nI i + 1).toNatClampNeg), .int (xs (nI i + 2).toNatClampNeg), .int (xs (nI i + 3).toNatClampNeg)] (161, (I, J, RF w))) 848 [some (.ref 1006), some (.ref 0), some (.ref 127), some (.int (nI i))] []) (fun _ => rfl) ?_
  refine z_evK (z' := 161) (σ' := (I1, J1, RF w1)) e1 ?_
  refine z_evG 6 (y := z_ild (z_ia (L, xs) 161 (I1, J1, RF w1) 1006) (nI i + 1) fun vv => z_go 854 [some (.ref 1006), some (.ref 0), some (.ref 127), some (.int (nI i))] [.int (vv), .ref 127, .long (x)] 161 (I1, J1, RF w1)) (fun _ => rfl) ?_
  refine z_evB (N := L) (f := xs) rfl (l_in hb hL 1 (by decide)) ?_
  refine z_evL ?_
  refine z_evG 5 (y := z_ild (z_ia (L, xs) 161 (I1, J1, RF w1) 1006) (nI i + 2) fun vv => z_go 859 [some (.ref 1006), some (.ref 0), some (.ref 127), some (.int (nI i))] [.int (vv), .int (xs (nI i + 1).toNatClampNeg), .ref 127, .long (x)] 161 (I1, J1, RF w1)) (fun _ => rfl) ?_
  refine z_evB (N := L) (f := xs) rfl (l_in hb hL 2 (by decide)) ?_
  refine z_evL ?_
  refine z_evG 5 (y := z_ild (z_ia (L, xs) 161 (I1, J1, RF w1) 1006) (nI i + 3) fun vv => z_go 864 [some (.ref 1006), some (.ref 0), some (.ref 127), some (.int (nI i))] [.int (vv), .int (xs (nI i + 2).toNatClampNeg), .int (xs (nI i + 1).toNatClampNeg), .ref 127, .long (x)] 161 (I1, J1, RF w1)) (fun _ => rfl) ?_
  refine z_evB (N := L) (f := xs) rfl (l_in hb hL 3 (by decide)) ?_
  refine z_evL ?_
  refine z_evG 1 (y := z_ret (z_cl (L, xs) d 220 [.ref 127, .int (xs (nI i + 1).toNatClampNeg), .int (xs (nI i + 2).toNatClampNeg), .int (xs (nI i + 3).toNatClampNeg)] (161, (I1, J1, RF w1))) 867 [some (.ref 1006), some (.ref 0), some (.ref 127), some (.int (nI i))] [.long (x)]) (fun _ => rfl) ?_
  refine z_evK (z' := 161) (σ' := (I2, J2, RF w2)) e2 ?_
  refine z_evG 2 (y := if lg_cmp x x = 0 then z_go 1757 [some (.ref 1006), some (.ref 0), some (.ref 127), some (.int (nI i))] [] 161 (I2, J2, RF w2) else z_go 871 [some (.ref 1006), some (.ref 0), some (.ref 127), some (.int (nI i))] [] 161 (I2, J2, RF w2)) (fun _ => rfl) ?_
  refine z_evT ((lg_cmp_eq x x).mpr rfl) ?_
  exact z_evL hz
theorem l_k_like {L : Nat} {xs : Nat → Int32} {i : Nat} (hb : i + 6 ≤ L) (hL : L ≤ 3072) : l_ok L xs i 829 := fun N I J w H => by
  obtain ⟨x, I1, J1, w1, I2, J2, w2, e1, e2, N2, H2⟩ := g_like (L, xs) N I J w H (xs (nI i + 1).toNatClampNeg) (xs (nI i + 2).toNatClampNeg) (xs (nI i + 3).toNatClampNeg)
  exact ⟨N2, I2, J2, w2, H2, fun r hz => l_r_like L xs 99 i I J w x I1 J1 w1 I2 J2 w2 hb hL e1 e2 hz⟩
theorem l_r_mixed (L : Nat) (xs : Nat → Int32) (d i : Nat) (I : Nat → Nat → Int32) (J : Nat → Nat → Int64) (w : Nat) (x : Int32) (I1 : Nat → Nat → Int32) (J1 : Nat → Nat → Int64) (w1 : Nat) (I2 : Nat → Nat → Int32) (J2 : Nat → Nat → Int64) (w2 : Nat) {r : zR} (hb : i + 6 ≤ L) (hL : L ≤ 3072) (e1 : z_cl (L, xs) d 145 [.ref 0, .int (xs (nI i + 1).toNatClampNeg), .int (xs (nI i + 2).toNatClampNeg), .int (xs (nI i + 3).toNatClampNeg), .int (xs (nI i + 4).toNatClampNeg)] (161, (I, J, RF w)) = some (some (.int x), 161, (I1, J1, RF w1))) (e2 : z_cl (L, xs) d 226 [.ref 127, .int (xs (nI i + 1).toNatClampNeg), .int (xs (nI i + 2).toNatClampNeg), .int (xs (nI i + 3).toNatClampNeg), .int (xs (nI i + 4).toNatClampNeg)] (161, (I1, J1, RF w1)) = some (some (.int x), 161, (I2, J2, RF w2))) (hz : z_Ev (L, xs) d z_m285 1757 [some (.ref 1006), some (.ref 0), some (.ref 127), some (.int (nI i))] [] 161 (I2, J2, RF w2) r) : z_Ev (L, xs) d z_m285 873 [some (.ref 1006), some (.ref 0), some (.ref 127), some (.int (nI i))] [] 161 (I, J, RF w) r := by
  refine z_evG 6 (y := z_ild (z_ia (L, xs) 161 (I, J, RF w) 1006) (nI i + 1) fun vv => z_go 879 [some (.ref 1006), some (.ref 0), some (.ref 127), some (.int (nI i))] [.int (vv), .ref 0] 161 (I, J, RF w)) (fun _ => rfl) ?_
  refine z_evB (N := L) (f := xs) rfl (l_in hb hL 1 (by decide)) ?_
  refine z_evL ?_
  refine z_evG 5 (y := z_ild (z_ia (L, xs) 161 (I, J, RF w) 1006) (nI i + 2) fun vv => z_go 884 [some (.ref 1006), some (.ref 0), some (.ref 127), some (.int (nI i))] [.int (vv), .int (xs (nI i + 1).toNatClampNeg), .ref 0] 161 (I, J, RF w)) (fun _ => rfl) ?_
  refine z_evB (N := L) (f := xs) rfl (l_in hb hL 2 (by decide)) ?_
  refine z_evL ?_
  refine z_evG 5 (y := z_ild (z_ia (L, xs) 161 (I, J, RF w) 1006) (nI i + 3) fun vv => z_go 889 [some (.ref 1006), some (.ref 0), some (.ref 127), some (.int (nI i))] [.int (vv), .int (xs (nI i + 2).toNatClampNeg), .int (xs (nI i + 1).toNatClampNeg), .ref 0] 161 (I, J, RF w)) (fun _ => rfl) ?_
  refine z_evB (N := L) (f := xs) rfl (l_in hb hL 3 (by decide)) ?_
  refine z_evL ?_
  refine z_evG 5 (y := z_ild (z_ia (L, xs) 161 (I, J, RF w) 1006) (nI i + 4) fun vv => z_go 894 [some (.ref 1006), some (.ref 0), some (.ref 127), some (.int (nI i))] [.int (vv), .int (xs (nI i + 3).toNatClampNeg), .int (xs (nI i + 2).toNatClampNeg), .int (xs (nI i + 1).toNatClampNeg), .ref 0] 161 (I, J, RF w)) (fun _ => rfl) ?_
  refine z_evB (N := L) (f := xs) rfl (l_in hb hL 4 (by decide)) ?_
  refine z_evL ?_
  refine z_evG 1 (y := z_ret (z_cl (L, xs) d 145 [.ref 0, .int (xs (nI i + 1).toNatClampNeg), .int (xs (nI i + 2).toNatClampNeg), .int (xs (nI i + 3).toNatClampNeg), .int (xs (nI i + 4).toNatClampNeg)] (161, (I, J, RF w))) 897 [some (.ref 1006), some (.ref 0), some (.ref 127), some (.int (nI i))] []) (fun _ => rfl) ?_
  refine z_evK (z' := 161) (σ' := (I1, J1, RF w1)) e1 ?_
  refine z_evG 6 (y := z_ild (z_ia (L, xs) 161 (I1, J1, RF w1) 1006) (nI i + 1) fun vv => z_go 903 [some (.ref 1006), some (.ref 0), some (.ref 127), some (.int (nI i))] [.int (vv), .ref 127, .int (x)] 161 (I1, J1, RF w1)) (fun _ => rfl) ?_
  refine z_evB (N := L) (f := xs) rfl (l_in hb hL 1 (by decide)) ?_
  refine z_evL ?_
  refine z_evG 5 (y := z_ild (z_ia (L, xs) 161 (I1, J1, RF w1) 1006) (nI i + 2) fun vv => z_go 908 [some (.ref 1006), some (.ref 0), some (.ref 127), some (.int (nI i))] [.int (vv), .int (xs (nI i + 1).toNatClampNeg), .ref 127, .int (x)] 161 (I1, J1, RF w1)) (fun _ => rfl) ?_
  refine z_evB (N := L) (f := xs) rfl (l_in hb hL 2 (by decide)) ?_
  refine z_evL ?_
  refine z_evG 5 (y := z_ild (z_ia (L, xs) 161 (I1, J1, RF w1) 1006) (nI i + 3) fun vv => z_go 913 [some (.ref 1006), some (.ref 0), some (.ref 127), some (.int (nI i))] [.int (vv), .int (xs (nI i + 2).toNatClampNeg), .int (xs (nI i + 1).toNatClampNeg), .ref 127, .int (x)] 161 (I1, J1, RF w1)) (fun _ => rfl) ?_
  refine z_evB (N := L) (f := xs) rfl (l_in hb hL 3 (by decide)) ?_
  refine z_evL ?_
  refine z_evG 5 (y := z_ild (z_ia (L, xs) 161 (I1, J1, RF w1) 1006) (nI i + 4) fun vv => z_go 918 [some (.ref 1006), some (.ref 0), some (.ref 127), some (.int (nI i))] [.int (vv), .int (xs (nI i + 3).toNatClampNeg), .int (xs (nI i + 2).toNatClampNeg), .int (xs (nI i + 1).toNatClampNeg), .ref 127, .int (x)] 161 (I1, J1, RF w1)) (fun _ => rfl) ?_
  refine z_evB (N := L) (f := xs) rfl (l_in hb hL 4 (by decide)) ?_
  refine z_evL ?_
  refine z_evG 1 (y := z_ret (z_cl (L, xs) d 226 [.ref 127, .int (xs (nI i + 1).toNatClampNeg), .int (xs (nI i + 2).toNatClampNeg), .int (xs (nI i + 3).toNatClampNeg), .int (xs (nI i + 4).toNatClampNeg)] (161, (I1, J1, RF w1))) 921 [some (.ref 1006), some (.ref 0), some (.ref 127), some (.int (nI i))] [.int (x)]) (fun _ => rfl) ?_
  refine z_evK (z' := 161) (σ' := (I2, J2, RF w2)) e2 ?_
  refine z_evG 1 (y := if x = x then z_go 1757 [some (.ref 1006), some (.ref 0), some (.ref 127), some (.int (nI i))] [] 161 (I2, J2, RF w2) else z_go 924 [some (.ref 1006), some (.ref 0), some (.ref 127), some (.int (nI i))] [] 161 (I2, J2, RF w2)) (fun _ => rfl) ?_
  refine z_evT rfl ?_
  exact z_evL hz
theorem l_k_mixed {L : Nat} {xs : Nat → Int32} {i : Nat} (hb : i + 6 ≤ L) (hL : L ≤ 3072) : l_ok L xs i 873 := fun N I J w H => by
  obtain ⟨x, I1, J1, w1, I2, J2, w2, e1, e2, N2, H2⟩ := g_mixed (L, xs) N I J w H (xs (nI i + 1).toNatClampNeg) (xs (nI i + 2).toNatClampNeg) (xs (nI i + 3).toNatClampNeg) (xs (nI i + 4).toNatClampNeg)
  exact ⟨N2, I2, J2, w2, H2, fun r hz => l_r_mixed L xs 99 i I J w x I1 J1 w1 I2 J2 w2 hb hL e1 e2 hz⟩
theorem l_r_trueOf (L : Nat) (xs : Nat → Int32) (d i : Nat) (I : Nat → Nat → Int32) (J : Nat → Nat → Int64) (w : Nat) (x : Int64) (I1 : Nat → Nat → Int32) (J1 : Nat → Nat → Int64) (w1 : Nat) (I2 : Nat → Nat → Int32) (J2 : Nat → Nat → Int64) (w2 : Nat) {r : zR} (hb : i + 6 ≤ L) (hL : L ≤ 3072) (e1 : z_cl (L, xs) d 146 [.ref 0, .int (xs (nI i + 1).toNatClampNeg), .int (xs (nI i + 2).toNatClampNeg), .int (xs (nI i + 3).toNatClampNeg), .int (xs (nI i + 4).toNatClampNeg)] (161, (I, J, RF w)) = some (some (.long x), 161, (I1, J1, RF w1))) (e2 : z_cl (L, xs) d 222 [.ref 127, .int (xs (nI i + 1).toNatClampNeg), .int (xs (nI i + 2).toNatClampNeg), .int (xs (nI i + 3).toNatClampNeg), .int (xs (nI i + 4).toNatClampNeg)] (161, (I1, J1, RF w1)) = some (some (.long x), 161, (I2, J2, RF w2))) (hz : z_Ev (L, xs) d z_m285 1757 [some (.ref 1006), some (.ref 0), some (.ref 127), some (.int (nI i))] [] 161 (I2, J2, RF w2) r) : z_Ev (L, xs) d z_m285 926 [some (.ref 1006), some (.ref 0), some (.ref 127), some (.int (nI i))] [] 161 (I, J, RF w) r := by
  refine z_evG 6 (y := z_ild (z_ia (L, xs) 161 (I, J, RF w) 1006) (nI i + 1) fun vv => z_go 932 [some (.ref 1006), some (.ref 0), some (.ref 127), some (.int (nI i))] [.int (vv), .ref 0] 161 (I, J, RF w)) (fun _ => rfl) ?_
  refine z_evB (N := L) (f := xs) rfl (l_in hb hL 1 (by decide)) ?_
  refine z_evL ?_
  refine z_evG 5 (y := z_ild (z_ia (L, xs) 161 (I, J, RF w) 1006) (nI i + 2) fun vv => z_go 937 [some (.ref 1006), some (.ref 0), some (.ref 127), some (.int (nI i))] [.int (vv), .int (xs (nI i + 1).toNatClampNeg), .ref 0] 161 (I, J, RF w)) (fun _ => rfl) ?_
  refine z_evB (N := L) (f := xs) rfl (l_in hb hL 2 (by decide)) ?_
  refine z_evL ?_
  refine z_evG 5 (y := z_ild (z_ia (L, xs) 161 (I, J, RF w) 1006) (nI i + 3) fun vv => z_go 942 [some (.ref 1006), some (.ref 0), some (.ref 127), some (.int (nI i))] [.int (vv), .int (xs (nI i + 2).toNatClampNeg), .int (xs (nI i + 1).toNatClampNeg), .ref 0] 161 (I, J, RF w)) (fun _ => rfl) ?_
  refine z_evB (N := L) (f := xs) rfl (l_in hb hL 3 (by decide)) ?_
  refine z_evL ?_
  refine z_evG 5 (y := z_ild (z_ia (L, xs) 161 (I, J, RF w) 1006) (nI i + 4) fun vv => z_go 947 [some (.ref 1006), some (.ref 0), some (.ref 127), some (.int (nI i))] [.int (vv), .int (xs (nI i + 3).toNatClampNeg), .int (xs (nI i + 2).toNatClampNeg), .int (xs (nI i + 1).toNatClampNeg), .ref 0] 161 (I, J, RF w)) (fun _ => rfl) ?_
  refine z_evB (N := L) (f := xs) rfl (l_in hb hL 4 (by decide)) ?_
  refine z_evL ?_
  refine z_evG 1 (y := z_ret (z_cl (L, xs) d 146 [.ref 0, .int (xs (nI i + 1).toNatClampNeg), .int (xs (nI i + 2).toNatClampNeg), .int (xs (nI i + 3).toNatClampNeg), .int (xs (nI i + 4).toNatClampNeg)] (161, (I, J, RF w))) 950 [some (.ref 1006), some (.ref 0), some (.ref 127), some (.int (nI i))] []) (fun _ => rfl) ?_
  refine z_evK (z' := 161) (σ' := (I1, J1, RF w1)) e1 ?_
  refine z_evG 6 (y := z_ild (z_ia (L, xs) 161 (I1, J1, RF w1) 1006) (nI i + 1) fun vv => z_go 956 [some (.ref 1006), some (.ref 0), some (.ref 127), some (.int (nI i))] [.int (vv), .ref 127, .long (x)] 161 (I1, J1, RF w1)) (fun _ => rfl) ?_
  refine z_evB (N := L) (f := xs) rfl (l_in hb hL 1 (by decide)) ?_
  refine z_evL ?_
  refine z_evG 5 (y := z_ild (z_ia (L, xs) 161 (I1, J1, RF w1) 1006) (nI i + 2) fun vv => z_go 961 [some (.ref 1006), some (.ref 0), some (.ref 127), some (.int (nI i))] [.int (vv), .int (xs (nI i + 1).toNatClampNeg), .ref 127, .long (x)] 161 (I1, J1, RF w1)) (fun _ => rfl) ?_
  refine z_evB (N := L) (f := xs) rfl (l_in hb hL 2 (by decide)) ?_
  refine z_evL ?_
  refine z_evG 5 (y := z_ild (z_ia (L, xs) 161 (I1, J1, RF w1) 1006) (nI i + 3) fun vv => z_go 966 [some (.ref 1006), some (.ref 0), some (.ref 127), some (.int (nI i))] [.int (vv), .int (xs (nI i + 2).toNatClampNeg), .int (xs (nI i + 1).toNatClampNeg), .ref 127, .long (x)] 161 (I1, J1, RF w1)) (fun _ => rfl) ?_
  refine z_evB (N := L) (f := xs) rfl (l_in hb hL 3 (by decide)) ?_
  refine z_evL ?_
  refine z_evG 5 (y := z_ild (z_ia (L, xs) 161 (I1, J1, RF w1) 1006) (nI i + 4) fun vv => z_go 971 [some (.ref 1006), some (.ref 0), some (.ref 127), some (.int (nI i))] [.int (vv), .int (xs (nI i + 3).toNatClampNeg), .int (xs (nI i + 2).toNatClampNeg), .int (xs (nI i + 1).toNatClampNeg), .ref 127, .long (x)] 161 (I1, J1, RF w1)) (fun _ => rfl) ?_
  refine z_evB (N := L) (f := xs) rfl (l_in hb hL 4 (by decide)) ?_
  refine z_evL ?_
  refine z_evG 1 (y := z_ret (z_cl (L, xs) d 222 [.ref 127, .int (xs (nI i + 1).toNatClampNeg), .int (xs (nI i + 2).toNatClampNeg), .int (xs (nI i + 3).toNatClampNeg), .int (xs (nI i + 4).toNatClampNeg)] (161, (I1, J1, RF w1))) 974 [some (.ref 1006), some (.ref 0), some (.ref 127), some (.int (nI i))] [.long (x)]) (fun _ => rfl) ?_
  refine z_evK (z' := 161) (σ' := (I2, J2, RF w2)) e2 ?_
  refine z_evG 2 (y := if lg_cmp x x = 0 then z_go 1757 [some (.ref 1006), some (.ref 0), some (.ref 127), some (.int (nI i))] [] 161 (I2, J2, RF w2) else z_go 978 [some (.ref 1006), some (.ref 0), some (.ref 127), some (.int (nI i))] [] 161 (I2, J2, RF w2)) (fun _ => rfl) ?_
  refine z_evT ((lg_cmp_eq x x).mpr rfl) ?_
  exact z_evL hz
theorem l_k_trueOf {L : Nat} {xs : Nat → Int32} {i : Nat} (hb : i + 6 ≤ L) (hL : L ≤ 3072) : l_ok L xs i 926 := fun N I J w H => by
  obtain ⟨x, I1, J1, w1, I2, J2, w2, e1, e2, N2, H2⟩ := g_trueOf (L, xs) N I J w H (xs (nI i + 1).toNatClampNeg) (xs (nI i + 2).toNatClampNeg) (xs (nI i + 3).toNatClampNeg) (xs (nI i + 4).toNatClampNeg)
  exact ⟨N2, I2, J2, w2, H2, fun r hz => l_r_trueOf L xs 99 i I J w x I1 J1 w1 I2 J2 w2 hb hL e1 e2 hz⟩
theorem l_r_worst (L : Nat) (xs : Nat → Int32) (d i : Nat) (I : Nat → Nat → Int32) (J : Nat → Nat → Int64) (w : Nat) (x : Int32) (I1 : Nat → Nat → Int32) (J1 : Nat → Nat → Int64) (w1 : Nat) (I2 : Nat → Nat → Int32) (J2 : Nat → Nat → Int64) (w2 : Nat) {r : zR} (hb : i + 6 ≤ L) (hL : L ≤ 3072) (e1 : z_cl (L, xs) d 147 [.ref 0, .int (xs (nI i + 1).toNatClampNeg), .int (xs (nI i + 2).toNatClampNeg), .int (xs (nI i + 3).toNatClampNeg), .int (xs (nI i + 4).toNatClampNeg)] (161, (I, J, RF w)) = some (some (.int x), 161, (I1, J1, RF w1))) (e2 : z_cl (L, xs) d 224 [.ref 127, .int (xs (nI i + 1).toNatClampNeg), .int (xs (nI i + 2).toNatClampNeg), .int (xs (nI i + 3).toNatClampNeg), .int (xs (nI i + 4).toNatClampNeg)] (161, (I1, J1, RF w1)) = some (some (.int x), 161, (I2, J2, RF w2))) (hz : z_Ev (L, xs) d z_m285 1757 [some (.ref 1006), some (.ref 0), some (.ref 127), some (.int (nI i))] [] 161 (I2, J2, RF w2) r) : z_Ev (L, xs) d z_m285 980 [some (.ref 1006), some (.ref 0), some (.ref 127), some (.int (nI i))] [] 161 (I, J, RF w) r := by
  refine z_evG 6 (y := z_ild (z_ia (L, xs) 161 (I, J, RF w) 1006) (nI i + 1) fun vv => z_go 986 [some (.ref 1006), some (.ref 0), some (.ref 127), some (.int (nI i))] [.int (vv), .ref 0] 161 (I, J, RF w)) (fun _ => rfl) ?_
  refine z_evB (N := L) (f := xs) rfl (l_in hb hL 1 (by decide)) ?_
  refine z_evL ?_
  refine z_evG 5 (y := z_ild (z_ia (L, xs) 161 (I, J, RF w) 1006) (nI i + 2) fun vv => z_go 991 [some (.ref 1006), some (.ref 0), some (.ref 127), some (.int (nI i))] [.int (vv), .int (xs (nI i + 1).toNatClampNeg), .ref 0] 161 (I, J, RF w)) (fun _ => rfl) ?_
  refine z_evB (N := L) (f := xs) rfl (l_in hb hL 2 (by decide)) ?_
  refine z_evL ?_
  refine z_evG 5 (y := z_ild (z_ia (L, xs) 161 (I, J, RF w) 1006) (nI i + 3) fun vv => z_go 996 [some (.ref 1006), some (.ref 0), some (.ref 127), some (.int (nI i))] [.int (vv), .int (xs (nI i + 2).toNatClampNeg), .int (xs (nI i + 1).toNatClampNeg), .ref 0] 161 (I, J, RF w)) (fun _ => rfl) ?_
  refine z_evB (N := L) (f := xs) rfl (l_in hb hL 3 (by decide)) ?_
  refine z_evL ?_
  refine z_evG 5 (y := z_ild (z_ia (L, xs) 161 (I, J, RF w) 1006) (nI i + 4) fun vv => z_go 1001 [some (.ref 1006), some (.ref 0), some (.ref 127), some (.int (nI i))] [.int (vv), .int (xs (nI i + 3).toNatClampNeg), .int (xs (nI i + 2).toNatClampNeg), .int (xs (nI i + 1).toNatClampNeg), .ref 0] 161 (I, J, RF w)) (fun _ => rfl) ?_
  refine z_evB (N := L) (f := xs) rfl (l_in hb hL 4 (by decide)) ?_
  refine z_evL ?_
  refine z_evG 1 (y := z_ret (z_cl (L, xs) d 147 [.ref 0, .int (xs (nI i + 1).toNatClampNeg), .int (xs (nI i + 2).toNatClampNeg), .int (xs (nI i + 3).toNatClampNeg), .int (xs (nI i + 4).toNatClampNeg)] (161, (I, J, RF w))) 1004 [some (.ref 1006), some (.ref 0), some (.ref 127), some (.int (nI i))] []) (fun _ => rfl) ?_
  refine z_evK (z' := 161) (σ' := (I1, J1, RF w1)) e1 ?_
  refine z_evG 6 (y := z_ild (z_ia (L, xs) 161 (I1, J1, RF w1) 1006) (nI i + 1) fun vv => z_go 1010 [some (.ref 1006), some (.ref 0), some (.ref 127), some (.int (nI i))] [.int (vv), .ref 127, .int (x)] 161 (I1, J1, RF w1)) (fun _ => rfl) ?_
  refine z_evB (N := L) (f := xs) rfl (l_in hb hL 1 (by decide)) ?_
  refine z_evL ?_
  refine z_evG 5 (y := z_ild (z_ia (L, xs) 161 (I1, J1, RF w1) 1006) (nI i + 2) fun vv => z_go 1015 [some (.ref 1006), some (.ref 0), some (.ref 127), some (.int (nI i))] [.int (vv), .int (xs (nI i + 1).toNatClampNeg), .ref 127, .int (x)] 161 (I1, J1, RF w1)) (fun _ => rfl) ?_
  refine z_evB (N := L) (f := xs) rfl (l_in hb hL 2 (by decide)) ?_
  refine z_evL ?_
  refine z_evG 5 (y := z_ild (z_ia (L, xs) 161 (I1, J1, RF w1) 1006) (nI i + 3) fun vv => z_go 1020 [some (.ref 1006), some (.ref 0), some (.ref 127), some (.int (nI i))] [.int (vv), .int (xs (nI i + 2).toNatClampNeg), .int (xs (nI i + 1).toNatClampNeg), .ref 127, .int (x)] 161 (I1, J1, RF w1)) (fun _ => rfl) ?_
  refine z_evB (N := L) (f := xs) rfl (l_in hb hL 3 (by decide)) ?_
  refine z_evL ?_
  refine z_evG 5 (y := z_ild (z_ia (L, xs) 161 (I1, J1, RF w1) 1006) (nI i + 4) fun vv => z_go 1025 [some (.ref 1006), some (.ref 0), some (.ref 127), some (.int (nI i))] [.int (vv), .int (xs (nI i + 3).toNatClampNeg), .int (xs (nI i + 2).toNatClampNeg), .int (xs (nI i + 1).toNatClampNeg), .ref 127, .int (x)] 161 (I1, J1, RF w1)) (fun _ => rfl) ?_
  refine z_evB (N := L) (f := xs) rfl (l_in hb hL 4 (by decide)) ?_
  refine z_evL ?_
  refine z_evG 1 (y := z_ret (z_cl (L, xs) d 224 [.ref 127, .int (xs (nI i + 1).toNatClampNeg), .int (xs (nI i + 2).toNatClampNeg), .int (xs (nI i + 3).toNatClampNeg), .int (xs (nI i + 4).toNatClampNeg)] (161, (I1, J1, RF w1))) 1028 [some (.ref 1006), some (.ref 0), some (.ref 127), some (.int (nI i))] [.int (x)]) (fun _ => rfl) ?_
  refine z_evK (z' := 161) (σ' := (I2, J2, RF w2)) e2 ?_
  refine z_evG 1 (y := if x = x then z_go 1757 [some (.ref 1006), some (.ref 0), some (.ref 127), some (.int (nI i))] [] 161 (I2, J2, RF w2) else z_go 1031 [some (.ref 1006), some (.ref 0), some (.ref 127), some (.int (nI i))] [] 161 (I2, J2, RF w2)) (fun _ => rfl) ?_
  refine z_evT rfl ?_
  exact z_evL hz
theorem l_k_worst {L : Nat} {xs : Nat → Int32} {i : Nat} (hb : i + 6 ≤ L) (hL : L ≤ 3072) : l_ok L xs i 980 := fun N I J w H => by
  obtain ⟨x, I1, J1, w1, I2, J2, w2, e1, e2, N2, H2⟩ := g_worst (L, xs) N I J w H (xs (nI i + 1).toNatClampNeg) (xs (nI i + 2).toNatClampNeg) (xs (nI i + 3).toNatClampNeg) (xs (nI i + 4).toNatClampNeg)
  exact ⟨N2, I2, J2, w2, H2, fun r hz => l_r_worst L xs 99 i I J w x I1 J1 w1 I2 J2 w2 hb hL e1 e2 hz⟩
theorem l_r_layers (L : Nat) (xs : Nat → Int32) (d i : Nat) (I : Nat → Nat → Int32) (J : Nat → Nat → Int64) (w : Nat) (x : Int32) (I1 : Nat → Nat → Int32) (J1 : Nat → Nat → Int64) (w1 : Nat) (I2 : Nat → Nat → Int32) (J2 : Nat → Nat → Int64) (w2 : Nat) {r : zR} (hb : i + 6 ≤ L) (hL : L ≤ 3072) (e1 : z_cl (L, xs) d 148 [.ref 0, .int (xs (nI i + 1).toNatClampNeg), .int (xs (nI i + 2).toNatClampNeg), .int (xs (nI i + 3).toNatClampNeg), .int (xs (nI i + 4).toNatClampNeg), .int (xs (nI i + 5).toNatClampNeg)] (161, (I, J, RF w)) = some (some (.int x), 161, (I1, J1, RF w1))) (e2 : z_cl (L, xs) d 227 [.ref 127, .int (xs (nI i + 1).toNatClampNeg), .int (xs (nI i + 2).toNatClampNeg), .int (xs (nI i + 3).toNatClampNeg), .int (xs (nI i + 4).toNatClampNeg), .int (xs (nI i + 5).toNatClampNeg)] (161, (I1, J1, RF w1)) = some (some (.int x), 161, (I2, J2, RF w2))) (hz : z_Ev (L, xs) d z_m285 1757 [some (.ref 1006), some (.ref 0), some (.ref 127), some (.int (nI i))] [] 161 (I2, J2, RF w2) r) : z_Ev (L, xs) d z_m285 1033 [some (.ref 1006), some (.ref 0), some (.ref 127), some (.int (nI i))] [] 161 (I, J, RF w) r := by
  refine z_evG 6 (y := z_ild (z_ia (L, xs) 161 (I, J, RF w) 1006) (nI i + 1) fun vv => z_go 1039 [some (.ref 1006), some (.ref 0), some (.ref 127), some (.int (nI i))] [.int (vv), .ref 0] 161 (I, J, RF w)) (fun _ => rfl) ?_
  refine z_evB (N := L) (f := xs) rfl (l_in hb hL 1 (by decide)) ?_
  refine z_evL ?_
  refine z_evG 5 (y := z_ild (z_ia (L, xs) 161 (I, J, RF w) 1006) (nI i + 2) fun vv => z_go 1044 [some (.ref 1006), some (.ref 0), some (.ref 127), some (.int (nI i))] [.int (vv), .int (xs (nI i + 1).toNatClampNeg), .ref 0] 161 (I, J, RF w)) (fun _ => rfl) ?_
  refine z_evB (N := L) (f := xs) rfl (l_in hb hL 2 (by decide)) ?_
  refine z_evL ?_
  refine z_evG 5 (y := z_ild (z_ia (L, xs) 161 (I, J, RF w) 1006) (nI i + 3) fun vv => z_go 1049 [some (.ref 1006), some (.ref 0), some (.ref 127), some (.int (nI i))] [.int (vv), .int (xs (nI i + 2).toNatClampNeg), .int (xs (nI i + 1).toNatClampNeg), .ref 0] 161 (I, J, RF w)) (fun _ => rfl) ?_
  refine z_evB (N := L) (f := xs) rfl (l_in hb hL 3 (by decide)) ?_
  refine z_evL ?_
  refine z_evG 5 (y := z_ild (z_ia (L, xs) 161 (I, J, RF w) 1006) (nI i + 4) fun vv => z_go 1054 [some (.ref 1006), some (.ref 0), some (.ref 127), some (.int (nI i))] [.int (vv), .int (xs (nI i + 3).toNatClampNeg), .int (xs (nI i + 2).toNatClampNeg), .int (xs (nI i + 1).toNatClampNeg), .ref 0] 161 (I, J, RF w)) (fun _ => rfl) ?_
  refine z_evB (N := L) (f := xs) rfl (l_in hb hL 4 (by decide)) ?_
  refine z_evL ?_
  refine z_evG 5 (y := z_ild (z_ia (L, xs) 161 (I, J, RF w) 1006) (nI i + 5) fun vv => z_go 1059 [some (.ref 1006), some (.ref 0), some (.ref 127), some (.int (nI i))] [.int (vv), .int (xs (nI i + 4).toNatClampNeg), .int (xs (nI i + 3).toNatClampNeg), .int (xs (nI i + 2).toNatClampNeg), .int (xs (nI i + 1).toNatClampNeg), .ref 0] 161 (I, J, RF w)) (fun _ => rfl) ?_
  refine z_evB (N := L) (f := xs) rfl (l_in hb hL 5 (by decide)) ?_
  refine z_evL ?_
  refine z_evG 1 (y := z_ret (z_cl (L, xs) d 148 [.ref 0, .int (xs (nI i + 1).toNatClampNeg), .int (xs (nI i + 2).toNatClampNeg), .int (xs (nI i + 3).toNatClampNeg), .int (xs (nI i + 4).toNatClampNeg), .int (xs (nI i + 5).toNatClampNeg)] (161, (I, J, RF w))) 1062 [some (.ref 1006), some (.ref 0), some (.ref 127), some (.int (nI i))] []) (fun _ => rfl) ?_
  refine z_evK (z' := 161) (σ' := (I1, J1, RF w1)) e1 ?_
  refine z_evG 6 (y := z_ild (z_ia (L, xs) 161 (I1, J1, RF w1) 1006) (nI i + 1) fun vv => z_go 1068 [some (.ref 1006), some (.ref 0), some (.ref 127), some (.int (nI i))] [.int (vv), .ref 127, .int (x)] 161 (I1, J1, RF w1)) (fun _ => rfl) ?_
  refine z_evB (N := L) (f := xs) rfl (l_in hb hL 1 (by decide)) ?_
  refine z_evL ?_
  refine z_evG 5 (y := z_ild (z_ia (L, xs) 161 (I1, J1, RF w1) 1006) (nI i + 2) fun vv => z_go 1073 [some (.ref 1006), some (.ref 0), some (.ref 127), some (.int (nI i))] [.int (vv), .int (xs (nI i + 1).toNatClampNeg), .ref 127, .int (x)] 161 (I1, J1, RF w1)) (fun _ => rfl) ?_
  refine z_evB (N := L) (f := xs) rfl (l_in hb hL 2 (by decide)) ?_
  refine z_evL ?_
  refine z_evG 5 (y := z_ild (z_ia (L, xs) 161 (I1, J1, RF w1) 1006) (nI i + 3) fun vv => z_go 1078 [some (.ref 1006), some (.ref 0), some (.ref 127), some (.int (nI i))] [.int (vv), .int (xs (nI i + 2).toNatClampNeg), .int (xs (nI i + 1).toNatClampNeg), .ref 127, .int (x)] 161 (I1, J1, RF w1)) (fun _ => rfl) ?_
  refine z_evB (N := L) (f := xs) rfl (l_in hb hL 3 (by decide)) ?_
  refine z_evL ?_
  refine z_evG 5 (y := z_ild (z_ia (L, xs) 161 (I1, J1, RF w1) 1006) (nI i + 4) fun vv => z_go 1083 [some (.ref 1006), some (.ref 0), some (.ref 127), some (.int (nI i))] [.int (vv), .int (xs (nI i + 3).toNatClampNeg), .int (xs (nI i + 2).toNatClampNeg), .int (xs (nI i + 1).toNatClampNeg), .ref 127, .int (x)] 161 (I1, J1, RF w1)) (fun _ => rfl) ?_
  refine z_evB (N := L) (f := xs) rfl (l_in hb hL 4 (by decide)) ?_
  refine z_evL ?_
  refine z_evG 5 (y := z_ild (z_ia (L, xs) 161 (I1, J1, RF w1) 1006) (nI i + 5) fun vv => z_go 1088 [some (.ref 1006), some (.ref 0), some (.ref 127), some (.int (nI i))] [.int (vv), .int (xs (nI i + 4).toNatClampNeg), .int (xs (nI i + 3).toNatClampNeg), .int (xs (nI i + 2).toNatClampNeg), .int (xs (nI i + 1).toNatClampNeg), .ref 127, .int (x)] 161 (I1, J1, RF w1)) (fun _ => rfl) ?_
  refine z_evB (N := L) (f := xs) rfl (l_in hb hL 5 (by decide)) ?_
  refine z_evL ?_
  refine z_evG 1 (y := z_ret (z_cl (L, xs) d 227 [.ref 127, .int (xs (nI i + 1).toNatClampNeg), .int (xs (nI i + 2).toNatClampNeg), .int (xs (nI i + 3).toNatClampNeg), .int (xs (nI i + 4).toNatClampNeg), .int (xs (nI i + 5).toNatClampNeg)] (161, (I1, J1, RF w1))) 1091 [some (.ref 1006), some (.ref 0), some (.ref 127), some (.int (nI i))] [.int (x)]) (fun _ => rfl) ?_
  refine z_evK (z' := 161) (σ' := (I2, J2, RF w2)) e2 ?_
  refine z_evG 1 (y := if x = x then z_go 1757 [some (.ref 1006), some (.ref 0), some (.ref 127), some (.int (nI i))] [] 161 (I2, J2, RF w2) else z_go 1094 [some (.ref 1006), some (.ref 0), some (.ref 127), some (.int (nI i))] [] 161 (I2, J2, RF w2)) (fun _ => rfl) ?_
  refine z_evT rfl ?_
  exact z_evL hz
theorem l_k_layers {L : Nat} {xs : Nat → Int32} {i : Nat} (hb : i + 6 ≤ L) (hL : L ≤ 3072) : l_ok L xs i 1033 := fun N I J w H => by
  obtain ⟨x, I1, J1, w1, I2, J2, w2, e1, e2, N2, H2⟩ := g_layers (L, xs) N I J w H (xs (nI i + 1).toNatClampNeg) (xs (nI i + 2).toNatClampNeg) (xs (nI i + 3).toNatClampNeg) (xs (nI i + 4).toNatClampNeg) (xs (nI i + 5).toNatClampNeg)
  exact ⟨N2, I2, J2, w2, H2, fun r hz => l_r_layers L xs 99 i I J w x I1 J1 w1 I2 J2 w2 hb hL e1 e2 hz⟩
theorem l_r_plate (L : Nat) (xs : Nat → Int32) (d i : Nat) (I : Nat → Nat → Int32) (J : Nat → Nat → Int64) (w : Nat) (x : Int32) (I1 : Nat → Nat → Int32) (J1 : Nat → Nat → Int64) (w1 : Nat) (I2 : Nat → Nat → Int32) (J2 : Nat → Nat → Int64) (w2 : Nat) {r : zR} (hb : i + 6 ≤ L) (hL : L ≤ 3072) (e1 : z_cl (L, xs) d 149 [.ref 0, .int (xs (nI i + 1).toNatClampNeg), .int (xs (nI i + 2).toNatClampNeg)] (161, (I, J, RF w)) = some (some (.int x), 161, (I1, J1, RF w1))) (e2 : z_cl (L, xs) d 228 [.ref 127, .int (xs (nI i + 1).toNatClampNeg), .int (xs (nI i + 2).toNatClampNeg)] (161, (I1, J1, RF w1)) = some (some (.int x), 161, (I2, J2, RF w2))) (hz : z_Ev (L, xs) d z_m285 1757 [some (.ref 1006), some (.ref 0), some (.ref 127), some (.int (nI i))] [] 161 (I2, J2, RF w2) r) : z_Ev (L, xs) d z_m285 1096 [some (.ref 1006), some (.ref 0), some (.ref 127), some (.int (nI i))] [] 161 (I, J, RF w) r := by
  refine z_evG 6 (y := z_ild (z_ia (L, xs) 161 (I, J, RF w) 1006) (nI i + 1) fun vv => z_go 1102 [some (.ref 1006), some (.ref 0), some (.ref 127), some (.int (nI i))] [.int (vv), .ref 0] 161 (I, J, RF w)) (fun _ => rfl) ?_
  refine z_evB (N := L) (f := xs) rfl (l_in hb hL 1 (by decide)) ?_
  refine z_evL ?_
  refine z_evG 5 (y := z_ild (z_ia (L, xs) 161 (I, J, RF w) 1006) (nI i + 2) fun vv => z_go 1107 [some (.ref 1006), some (.ref 0), some (.ref 127), some (.int (nI i))] [.int (vv), .int (xs (nI i + 1).toNatClampNeg), .ref 0] 161 (I, J, RF w)) (fun _ => rfl) ?_
  refine z_evB (N := L) (f := xs) rfl (l_in hb hL 2 (by decide)) ?_
  refine z_evL ?_
  refine z_evG 1 (y := z_ret (z_cl (L, xs) d 149 [.ref 0, .int (xs (nI i + 1).toNatClampNeg), .int (xs (nI i + 2).toNatClampNeg)] (161, (I, J, RF w))) 1110 [some (.ref 1006), some (.ref 0), some (.ref 127), some (.int (nI i))] []) (fun _ => rfl) ?_
  refine z_evK (z' := 161) (σ' := (I1, J1, RF w1)) e1 ?_
  refine z_evG 6 (y := z_ild (z_ia (L, xs) 161 (I1, J1, RF w1) 1006) (nI i + 1) fun vv => z_go 1116 [some (.ref 1006), some (.ref 0), some (.ref 127), some (.int (nI i))] [.int (vv), .ref 127, .int (x)] 161 (I1, J1, RF w1)) (fun _ => rfl) ?_
  refine z_evB (N := L) (f := xs) rfl (l_in hb hL 1 (by decide)) ?_
  refine z_evL ?_
  refine z_evG 5 (y := z_ild (z_ia (L, xs) 161 (I1, J1, RF w1) 1006) (nI i + 2) fun vv => z_go 1121 [some (.ref 1006), some (.ref 0), some (.ref 127), some (.int (nI i))] [.int (vv), .int (xs (nI i + 1).toNatClampNeg), .ref 127, .int (x)] 161 (I1, J1, RF w1)) (fun _ => rfl) ?_
  refine z_evB (N := L) (f := xs) rfl (l_in hb hL 2 (by decide)) ?_
  refine z_evL ?_
  refine z_evG 1 (y := z_ret (z_cl (L, xs) d 228 [.ref 127, .int (xs (nI i + 1).toNatClampNeg), .int (xs (nI i + 2).toNatClampNeg)] (161, (I1, J1, RF w1))) 1124 [some (.ref 1006), some (.ref 0), some (.ref 127), some (.int (nI i))] [.int (x)]) (fun _ => rfl) ?_
  refine z_evK (z' := 161) (σ' := (I2, J2, RF w2)) e2 ?_
  refine z_evG 1 (y := if x = x then z_go 1757 [some (.ref 1006), some (.ref 0), some (.ref 127), some (.int (nI i))] [] 161 (I2, J2, RF w2) else z_go 1127 [some (.ref 1006), some (.ref 0), some (.ref 127), some (.int (nI i))] [] 161 (I2, J2, RF w2)) (fun _ => rfl) ?_
  refine z_evT rfl ?_
  exact z_evL hz
theorem l_k_plate {L : Nat} {xs : Nat → Int32} {i : Nat} (hb : i + 6 ≤ L) (hL : L ≤ 3072) : l_ok L xs i 1096 := fun N I J w H => by
  obtain ⟨x, I1, J1, w1, I2, J2, w2, e1, e2, N2, H2⟩ := g_plate (L, xs) N I J w H (xs (nI i + 1).toNatClampNeg) (xs (nI i + 2).toNatClampNeg)
  exact ⟨N2, I2, J2, w2, H2, fun r hz => l_r_plate L xs 99 i I J w x I1 J1 w1 I2 J2 w2 hb hL e1 e2 hz⟩
theorem l_r_reads (L : Nat) (xs : Nat → Int32) (d i : Nat) (I : Nat → Nat → Int32) (J : Nat → Nat → Int64) (w : Nat) (x : Int32) (I1 : Nat → Nat → Int32) (J1 : Nat → Nat → Int64) (w1 : Nat) (I2 : Nat → Nat → Int32) (J2 : Nat → Nat → Int64) (w2 : Nat) {r : zR} (hb : i + 6 ≤ L) (hL : L ≤ 3072) (e1 : z_cl (L, xs) d 150 [.ref 0, .int (xs (nI i + 1).toNatClampNeg)] (161, (I, J, RF w)) = some (some (.int x), 161, (I1, J1, RF w1))) (e2 : z_cl (L, xs) d 230 [.ref 127, .int (xs (nI i + 1).toNatClampNeg)] (161, (I1, J1, RF w1)) = some (some (.int x), 161, (I2, J2, RF w2))) (hz : z_Ev (L, xs) d z_m285 1757 [some (.ref 1006), some (.ref 0), some (.ref 127), some (.int (nI i))] [] 161 (I2, J2, RF w2) r) : z_Ev (L, xs) d z_m285 1129 [some (.ref 1006), some (.ref 0), some (.ref 127), some (.int (nI i))] [] 161 (I, J, RF w) r := by
  refine z_evG 6 (y := z_ild (z_ia (L, xs) 161 (I, J, RF w) 1006) (nI i + 1) fun vv => z_go 1135 [some (.ref 1006), some (.ref 0), some (.ref 127), some (.int (nI i))] [.int (vv), .ref 0] 161 (I, J, RF w)) (fun _ => rfl) ?_
  refine z_evB (N := L) (f := xs) rfl (l_in hb hL 1 (by decide)) ?_
  refine z_evL ?_
  refine z_evG 1 (y := z_ret (z_cl (L, xs) d 150 [.ref 0, .int (xs (nI i + 1).toNatClampNeg)] (161, (I, J, RF w))) 1138 [some (.ref 1006), some (.ref 0), some (.ref 127), some (.int (nI i))] []) (fun _ => rfl) ?_
  refine z_evK (z' := 161) (σ' := (I1, J1, RF w1)) e1 ?_
  refine z_evG 6 (y := z_ild (z_ia (L, xs) 161 (I1, J1, RF w1) 1006) (nI i + 1) fun vv => z_go 1144 [some (.ref 1006), some (.ref 0), some (.ref 127), some (.int (nI i))] [.int (vv), .ref 127, .int (x)] 161 (I1, J1, RF w1)) (fun _ => rfl) ?_
  refine z_evB (N := L) (f := xs) rfl (l_in hb hL 1 (by decide)) ?_
  refine z_evL ?_
  refine z_evG 1 (y := z_ret (z_cl (L, xs) d 230 [.ref 127, .int (xs (nI i + 1).toNatClampNeg)] (161, (I1, J1, RF w1))) 1147 [some (.ref 1006), some (.ref 0), some (.ref 127), some (.int (nI i))] [.int (x)]) (fun _ => rfl) ?_
  refine z_evK (z' := 161) (σ' := (I2, J2, RF w2)) e2 ?_
  refine z_evG 1 (y := if x = x then z_go 1757 [some (.ref 1006), some (.ref 0), some (.ref 127), some (.int (nI i))] [] 161 (I2, J2, RF w2) else z_go 1150 [some (.ref 1006), some (.ref 0), some (.ref 127), some (.int (nI i))] [] 161 (I2, J2, RF w2)) (fun _ => rfl) ?_
  refine z_evT rfl ?_
  exact z_evL hz
theorem l_k_reads {L : Nat} {xs : Nat → Int32} {i : Nat} (hb : i + 6 ≤ L) (hL : L ≤ 3072) : l_ok L xs i 1129 := fun N I J w H => by
  obtain ⟨x, I1, J1, w1, I2, J2, w2, e1, e2, N2, H2⟩ := g_reads (L, xs) N I J w H (xs (nI i + 1).toNatClampNeg)
  exact ⟨N2, I2, J2, w2, H2, fun r hz => l_r_reads L xs 99 i I J w x I1 J1 w1 I2 J2 w2 hb hL e1 e2 hz⟩
theorem l_r_chart (L : Nat) (xs : Nat → Int32) (d i : Nat) (I : Nat → Nat → Int32) (J : Nat → Nat → Int64) (w : Nat) (x : Int32) (I1 : Nat → Nat → Int32) (J1 : Nat → Nat → Int64) (w1 : Nat) (I2 : Nat → Nat → Int32) (J2 : Nat → Nat → Int64) (w2 : Nat) {r : zR} (hb : i + 6 ≤ L) (hL : L ≤ 3072) (e1 : z_cl (L, xs) d 151 [.ref 0, .int (xs (nI i + 1).toNatClampNeg)] (161, (I, J, RF w)) = some (some (.int x), 161, (I1, J1, RF w1))) (e2 : z_cl (L, xs) d 232 [.ref 127, .int (xs (nI i + 1).toNatClampNeg)] (161, (I1, J1, RF w1)) = some (some (.int x), 161, (I2, J2, RF w2))) (hz : z_Ev (L, xs) d z_m285 1757 [some (.ref 1006), some (.ref 0), some (.ref 127), some (.int (nI i))] [] 161 (I2, J2, RF w2) r) : z_Ev (L, xs) d z_m285 1152 [some (.ref 1006), some (.ref 0), some (.ref 127), some (.int (nI i))] [] 161 (I, J, RF w) r := by
  refine z_evG 6 (y := z_ild (z_ia (L, xs) 161 (I, J, RF w) 1006) (nI i + 1) fun vv => z_go 1158 [some (.ref 1006), some (.ref 0), some (.ref 127), some (.int (nI i))] [.int (vv), .ref 0] 161 (I, J, RF w)) (fun _ => rfl) ?_
  refine z_evB (N := L) (f := xs) rfl (l_in hb hL 1 (by decide)) ?_
  refine z_evL ?_
  refine z_evG 1 (y := z_ret (z_cl (L, xs) d 151 [.ref 0, .int (xs (nI i + 1).toNatClampNeg)] (161, (I, J, RF w))) 1161 [some (.ref 1006), some (.ref 0), some (.ref 127), some (.int (nI i))] []) (fun _ => rfl) ?_
  refine z_evK (z' := 161) (σ' := (I1, J1, RF w1)) e1 ?_
  refine z_evG 6 (y := z_ild (z_ia (L, xs) 161 (I1, J1, RF w1) 1006) (nI i + 1) fun vv => z_go 1167 [some (.ref 1006), some (.ref 0), some (.ref 127), some (.int (nI i))] [.int (vv), .ref 127, .int (x)] 161 (I1, J1, RF w1)) (fun _ => rfl) ?_
  refine z_evB (N := L) (f := xs) rfl (l_in hb hL 1 (by decide)) ?_
  refine z_evL ?_
  refine z_evG 1 (y := z_ret (z_cl (L, xs) d 232 [.ref 127, .int (xs (nI i + 1).toNatClampNeg)] (161, (I1, J1, RF w1))) 1170 [some (.ref 1006), some (.ref 0), some (.ref 127), some (.int (nI i))] [.int (x)]) (fun _ => rfl) ?_
  refine z_evK (z' := 161) (σ' := (I2, J2, RF w2)) e2 ?_
  refine z_evG 1 (y := if x = x then z_go 1757 [some (.ref 1006), some (.ref 0), some (.ref 127), some (.int (nI i))] [] 161 (I2, J2, RF w2) else z_go 1173 [some (.ref 1006), some (.ref 0), some (.ref 127), some (.int (nI i))] [] 161 (I2, J2, RF w2)) (fun _ => rfl) ?_
  refine z_evT rfl ?_
  exact z_evL hz
theorem l_k_chart {L : Nat} {xs : Nat → Int32} {i : Nat} (hb : i + 6 ≤ L) (hL : L ≤ 3072) : l_ok L xs i 1152 := fun N I J w H => by
  obtain ⟨x, I1, J1, w1, I2, J2, w2, e1, e2, N2, H2⟩ := g_chart (L, xs) N I J w H (xs (nI i + 1).toNatClampNeg)
  exact ⟨N2, I2, J2, w2, H2, fun r hz => l_r_chart L xs 99 i I J w x I1 J1 w1 I2 J2 w2 hb hL e1 e2 hz⟩
theorem l_r_age (L : Nat) (xs : Nat → Int32) (d i : Nat) (I : Nat → Nat → Int32) (J : Nat → Nat → Int64) (w : Nat) (x : Int32) (I1 : Nat → Nat → Int32) (J1 : Nat → Nat → Int64) (w1 : Nat) (I2 : Nat → Nat → Int32) (J2 : Nat → Nat → Int64) (w2 : Nat) {r : zR} (hb : i + 6 ≤ L) (hL : L ≤ 3072) (e1 : z_cl (L, xs) d 152 [.ref 0, .int (xs (nI i + 1).toNatClampNeg), .int (xs (nI i + 2).toNatClampNeg), .int (xs (nI i + 3).toNatClampNeg)] (161, (I, J, RF w)) = some (some (.int x), 161, (I1, J1, RF w1))) (e2 : z_cl (L, xs) d 233 [.ref 127, .int (xs (nI i + 1).toNatClampNeg), .int (xs (nI i + 2).toNatClampNeg), .int (xs (nI i + 3).toNatClampNeg)] (161, (I1, J1, RF w1)) = some (some (.int x), 161, (I2, J2, RF w2))) (hz : z_Ev (L, xs) d z_m285 1757 [some (.ref 1006), some (.ref 0), some (.ref 127), some (.int (nI i))] [] 161 (I2, J2, RF w2) r) : z_Ev (L, xs) d z_m285 1175 [some (.ref 1006), some (.ref 0), some (.ref 127), some (.int (nI i))] [] 161 (I, J, RF w) r := by
  refine z_evG 6 (y := z_ild (z_ia (L, xs) 161 (I, J, RF w) 1006) (nI i + 1) fun vv => z_go 1181 [some (.ref 1006), some (.ref 0), some (.ref 127), some (.int (nI i))] [.int (vv), .ref 0] 161 (I, J, RF w)) (fun _ => rfl) ?_
  refine z_evB (N := L) (f := xs) rfl (l_in hb hL 1 (by decide)) ?_
  refine z_evL ?_
  refine z_evG 5 (y := z_ild (z_ia (L, xs) 161 (I, J, RF w) 1006) (nI i + 2) fun vv => z_go 1186 [some (.ref 1006), some (.ref 0), some (.ref 127), some (.int (nI i))] [.int (vv), .int (xs (nI i + 1).toNatClampNeg), .ref 0] 161 (I, J, RF w)) (fun _ => rfl) ?_
  refine z_evB (N := L) (f := xs) rfl (l_in hb hL 2 (by decide)) ?_
  refine z_evL ?_
  refine z_evG 5 (y := z_ild (z_ia (L, xs) 161 (I, J, RF w) 1006) (nI i + 3) fun vv => z_go 1191 [some (.ref 1006), some (.ref 0), some (.ref 127), some (.int (nI i))] [.int (vv), .int (xs (nI i + 2).toNatClampNeg), .int (xs (nI i + 1).toNatClampNeg), .ref 0] 161 (I, J, RF w)) (fun _ => rfl) ?_
  refine z_evB (N := L) (f := xs) rfl (l_in hb hL 3 (by decide)) ?_
  refine z_evL ?_
  refine z_evG 1 (y := z_ret (z_cl (L, xs) d 152 [.ref 0, .int (xs (nI i + 1).toNatClampNeg), .int (xs (nI i + 2).toNatClampNeg), .int (xs (nI i + 3).toNatClampNeg)] (161, (I, J, RF w))) 1194 [some (.ref 1006), some (.ref 0), some (.ref 127), some (.int (nI i))] []) (fun _ => rfl) ?_
  refine z_evK (z' := 161) (σ' := (I1, J1, RF w1)) e1 ?_
  refine z_evG 6 (y := z_ild (z_ia (L, xs) 161 (I1, J1, RF w1) 1006) (nI i + 1) fun vv => z_go 1200 [some (.ref 1006), some (.ref 0), some (.ref 127), some (.int (nI i))] [.int (vv), .ref 127, .int (x)] 161 (I1, J1, RF w1)) (fun _ => rfl) ?_
  refine z_evB (N := L) (f := xs) rfl (l_in hb hL 1 (by decide)) ?_
  refine z_evL ?_
  refine z_evG 5 (y := z_ild (z_ia (L, xs) 161 (I1, J1, RF w1) 1006) (nI i + 2) fun vv => z_go 1205 [some (.ref 1006), some (.ref 0), some (.ref 127), some (.int (nI i))] [.int (vv), .int (xs (nI i + 1).toNatClampNeg), .ref 127, .int (x)] 161 (I1, J1, RF w1)) (fun _ => rfl) ?_
  refine z_evB (N := L) (f := xs) rfl (l_in hb hL 2 (by decide)) ?_
  refine z_evL ?_
  refine z_evG 5 (y := z_ild (z_ia (L, xs) 161 (I1, J1, RF w1) 1006) (nI i + 3) fun vv => z_go 1210 [some (.ref 1006), some (.ref 0), some (.ref 127), some (.int (nI i))] [.int (vv), .int (xs (nI i + 2).toNatClampNeg), .int (xs (nI i + 1).toNatClampNeg), .ref 127, .int (x)] 161 (I1, J1, RF w1)) (fun _ => rfl) ?_
  refine z_evB (N := L) (f := xs) rfl (l_in hb hL 3 (by decide)) ?_
  refine z_evL ?_
  refine z_evG 1 (y := z_ret (z_cl (L, xs) d 233 [.ref 127, .int (xs (nI i + 1).toNatClampNeg), .int (xs (nI i + 2).toNatClampNeg), .int (xs (nI i + 3).toNatClampNeg)] (161, (I1, J1, RF w1))) 1213 [some (.ref 1006), some (.ref 0), some (.ref 127), some (.int (nI i))] [.int (x)]) (fun _ => rfl) ?_
  refine z_evK (z' := 161) (σ' := (I2, J2, RF w2)) e2 ?_
  refine z_evG 1 (y := if x = x then z_go 1757 [some (.ref 1006), some (.ref 0), some (.ref 127), some (.int (nI i))] [] 161 (I2, J2, RF w2) else z_go 1216 [some (.ref 1006), some (.ref 0), some (.ref 127), some (.int (nI i))] [] 161 (I2, J2, RF w2)) (fun _ => rfl) ?_
  refine z_evT rfl ?_
  exact z_evL hz
theorem l_k_age {L : Nat} {xs : Nat → Int32} {i : Nat} (hb : i + 6 ≤ L) (hL : L ≤ 3072) : l_ok L xs i 1175 := fun N I J w H => by
  obtain ⟨x, I1, J1, w1, I2, J2, w2, e1, e2, N2, H2⟩ := g_age (L, xs) N I J w H (xs (nI i + 1).toNatClampNeg) (xs (nI i + 2).toNatClampNeg) (xs (nI i + 3).toNatClampNeg)
  exact ⟨N2, I2, J2, w2, H2, fun r hz => l_r_age L xs 99 i I J w x I1 J1 w1 I2 J2 w2 hb hL e1 e2 hz⟩
theorem l_r_still (L : Nat) (xs : Nat → Int32) (d i : Nat) (I : Nat → Nat → Int32) (J : Nat → Nat → Int64) (w : Nat) (x : Int32) (I1 : Nat → Nat → Int32) (J1 : Nat → Nat → Int64) (w1 : Nat) (I2 : Nat → Nat → Int32) (J2 : Nat → Nat → Int64) (w2 : Nat) {r : zR} (hb : i + 6 ≤ L) (hL : L ≤ 3072) (e1 : z_cl (L, xs) d 153 [.ref 0, .int (xs (nI i + 1).toNatClampNeg), .int (xs (nI i + 2).toNatClampNeg)] (161, (I, J, RF w)) = some (some (.int x), 161, (I1, J1, RF w1))) (e2 : z_cl (L, xs) d 235 [.ref 127, .int (xs (nI i + 1).toNatClampNeg), .int (xs (nI i + 2).toNatClampNeg)] (161, (I1, J1, RF w1)) = some (some (.int x), 161, (I2, J2, RF w2))) (hz : z_Ev (L, xs) d z_m285 1757 [some (.ref 1006), some (.ref 0), some (.ref 127), some (.int (nI i))] [] 161 (I2, J2, RF w2) r) : z_Ev (L, xs) d z_m285 1218 [some (.ref 1006), some (.ref 0), some (.ref 127), some (.int (nI i))] [] 161 (I, J, RF w) r := by
  refine z_evG 6 (y := z_ild (z_ia (L, xs) 161 (I, J, RF w) 1006) (nI i + 1) fun vv => z_go 1224 [some (.ref 1006), some (.ref 0), some (.ref 127), some (.int (nI i))] [.int (vv), .ref 0] 161 (I, J, RF w)) (fun _ => rfl) ?_
  refine z_evB (N := L) (f := xs) rfl (l_in hb hL 1 (by decide)) ?_
  refine z_evL ?_
  refine z_evG 5 (y := z_ild (z_ia (L, xs) 161 (I, J, RF w) 1006) (nI i + 2) fun vv => z_go 1229 [some (.ref 1006), some (.ref 0), some (.ref 127), some (.int (nI i))] [.int (vv), .int (xs (nI i + 1).toNatClampNeg), .ref 0] 161 (I, J, RF w)) (fun _ => rfl) ?_
  refine z_evB (N := L) (f := xs) rfl (l_in hb hL 2 (by decide)) ?_
  refine z_evL ?_
  refine z_evG 1 (y := z_ret (z_cl (L, xs) d 153 [.ref 0, .int (xs (nI i + 1).toNatClampNeg), .int (xs (nI i + 2).toNatClampNeg)] (161, (I, J, RF w))) 1232 [some (.ref 1006), some (.ref 0), some (.ref 127), some (.int (nI i))] []) (fun _ => rfl) ?_
  refine z_evK (z' := 161) (σ' := (I1, J1, RF w1)) e1 ?_
  refine z_evG 6 (y := z_ild (z_ia (L, xs) 161 (I1, J1, RF w1) 1006) (nI i + 1) fun vv => z_go 1238 [some (.ref 1006), some (.ref 0), some (.ref 127), some (.int (nI i))] [.int (vv), .ref 127, .int (x)] 161 (I1, J1, RF w1)) (fun _ => rfl) ?_
  refine z_evB (N := L) (f := xs) rfl (l_in hb hL 1 (by decide)) ?_
  refine z_evL ?_
  refine z_evG 5 (y := z_ild (z_ia (L, xs) 161 (I1, J1, RF w1) 1006) (nI i + 2) fun vv => z_go 1243 [some (.ref 1006), some (.ref 0), some (.ref 127), some (.int (nI i))] [.int (vv), .int (xs (nI i + 1).toNatClampNeg), .ref 127, .int (x)] 161 (I1, J1, RF w1)) (fun _ => rfl) ?_
  refine z_evB (N := L) (f := xs) rfl (l_in hb hL 2 (by decide)) ?_
  refine z_evL ?_
  refine z_evG 1 (y := z_ret (z_cl (L, xs) d 235 [.ref 127, .int (xs (nI i + 1).toNatClampNeg), .int (xs (nI i + 2).toNatClampNeg)] (161, (I1, J1, RF w1))) 1246 [some (.ref 1006), some (.ref 0), some (.ref 127), some (.int (nI i))] [.int (x)]) (fun _ => rfl) ?_
  refine z_evK (z' := 161) (σ' := (I2, J2, RF w2)) e2 ?_
  refine z_evG 1 (y := if x = x then z_go 1757 [some (.ref 1006), some (.ref 0), some (.ref 127), some (.int (nI i))] [] 161 (I2, J2, RF w2) else z_go 1249 [some (.ref 1006), some (.ref 0), some (.ref 127), some (.int (nI i))] [] 161 (I2, J2, RF w2)) (fun _ => rfl) ?_
  refine z_evT rfl ?_
  exact z_evL hz
theorem l_k_still {L : Nat} {xs : Nat → Int32} {i : Nat} (hb : i + 6 ≤ L) (hL : L ≤ 3072) : l_ok L xs i 1218 := fun N I J w H => by
  obtain ⟨x, I1, J1, w1, I2, J2, w2, e1, e2, N2, H2⟩ := g_still (L, xs) N I J w H (xs (nI i + 1).toNatClampNeg) (xs (nI i + 2).toNatClampNeg)
  exact ⟨N2, I2, J2, w2, H2, fun r hz => l_r_still L xs 99 i I J w x I1 J1 w1 I2 J2 w2 hb hL e1 e2 hz⟩
theorem l_r_flicker (L : Nat) (xs : Nat → Int32) (d i : Nat) (I : Nat → Nat → Int32) (J : Nat → Nat → Int64) (w : Nat) (x : Int32) (I1 : Nat → Nat → Int32) (J1 : Nat → Nat → Int64) (w1 : Nat) (I2 : Nat → Nat → Int32) (J2 : Nat → Nat → Int64) (w2 : Nat) {r : zR} (hb : i + 6 ≤ L) (hL : L ≤ 3072) (e1 : z_cl (L, xs) d 154 [.ref 0, .int (xs (nI i + 1).toNatClampNeg), .int (xs (nI i + 2).toNatClampNeg)] (161, (I, J, RF w)) = some (some (.int x), 161, (I1, J1, RF w1))) (e2 : z_cl (L, xs) d 236 [.ref 127, .int (xs (nI i + 1).toNatClampNeg), .int (xs (nI i + 2).toNatClampNeg)] (161, (I1, J1, RF w1)) = some (some (.int x), 161, (I2, J2, RF w2))) (hz : z_Ev (L, xs) d z_m285 1757 [some (.ref 1006), some (.ref 0), some (.ref 127), some (.int (nI i))] [] 161 (I2, J2, RF w2) r) : z_Ev (L, xs) d z_m285 1251 [some (.ref 1006), some (.ref 0), some (.ref 127), some (.int (nI i))] [] 161 (I, J, RF w) r := by
  refine z_evG 6 (y := z_ild (z_ia (L, xs) 161 (I, J, RF w) 1006) (nI i + 1) fun vv => z_go 1257 [some (.ref 1006), some (.ref 0), some (.ref 127), some (.int (nI i))] [.int (vv), .ref 0] 161 (I, J, RF w)) (fun _ => rfl) ?_
  refine z_evB (N := L) (f := xs) rfl (l_in hb hL 1 (by decide)) ?_
  refine z_evL ?_
  refine z_evG 5 (y := z_ild (z_ia (L, xs) 161 (I, J, RF w) 1006) (nI i + 2) fun vv => z_go 1262 [some (.ref 1006), some (.ref 0), some (.ref 127), some (.int (nI i))] [.int (vv), .int (xs (nI i + 1).toNatClampNeg), .ref 0] 161 (I, J, RF w)) (fun _ => rfl) ?_
  refine z_evB (N := L) (f := xs) rfl (l_in hb hL 2 (by decide)) ?_
  refine z_evL ?_
  refine z_evG 1 (y := z_ret (z_cl (L, xs) d 154 [.ref 0, .int (xs (nI i + 1).toNatClampNeg), .int (xs (nI i + 2).toNatClampNeg)] (161, (I, J, RF w))) 1265 [some (.ref 1006), some (.ref 0), some (.ref 127), some (.int (nI i))] []) (fun _ => rfl) ?_
  refine z_evK (z' := 161) (σ' := (I1, J1, RF w1)) e1 ?_
  refine z_evG 6 (y := z_ild (z_ia (L, xs) 161 (I1, J1, RF w1) 1006) (nI i + 1) fun vv => z_go 1271 [some (.ref 1006), some (.ref 0), some (.ref 127), some (.int (nI i))] [.int (vv), .ref 127, .int (x)] 161 (I1, J1, RF w1)) (fun _ => rfl) ?_
  refine z_evB (N := L) (f := xs) rfl (l_in hb hL 1 (by decide)) ?_
  refine z_evL ?_
  refine z_evG 5 (y := z_ild (z_ia (L, xs) 161 (I1, J1, RF w1) 1006) (nI i + 2) fun vv => z_go 1276 [some (.ref 1006), some (.ref 0), some (.ref 127), some (.int (nI i))] [.int (vv), .int (xs (nI i + 1).toNatClampNeg), .ref 127, .int (x)] 161 (I1, J1, RF w1)) (fun _ => rfl) ?_
  refine z_evB (N := L) (f := xs) rfl (l_in hb hL 2 (by decide)) ?_
  refine z_evL ?_
  refine z_evG 1 (y := z_ret (z_cl (L, xs) d 236 [.ref 127, .int (xs (nI i + 1).toNatClampNeg), .int (xs (nI i + 2).toNatClampNeg)] (161, (I1, J1, RF w1))) 1279 [some (.ref 1006), some (.ref 0), some (.ref 127), some (.int (nI i))] [.int (x)]) (fun _ => rfl) ?_
  refine z_evK (z' := 161) (σ' := (I2, J2, RF w2)) e2 ?_
  refine z_evG 1 (y := if x = x then z_go 1757 [some (.ref 1006), some (.ref 0), some (.ref 127), some (.int (nI i))] [] 161 (I2, J2, RF w2) else z_go 1282 [some (.ref 1006), some (.ref 0), some (.ref 127), some (.int (nI i))] [] 161 (I2, J2, RF w2)) (fun _ => rfl) ?_
  refine z_evT rfl ?_
  exact z_evL hz
theorem l_k_flicker {L : Nat} {xs : Nat → Int32} {i : Nat} (hb : i + 6 ≤ L) (hL : L ≤ 3072) : l_ok L xs i 1251 := fun N I J w H => by
  obtain ⟨x, I1, J1, w1, I2, J2, w2, e1, e2, N2, H2⟩ := g_flicker (L, xs) N I J w H (xs (nI i + 1).toNatClampNeg) (xs (nI i + 2).toNatClampNeg)
  exact ⟨N2, I2, J2, w2, H2, fun r hz => l_r_flicker L xs 99 i I J w x I1 J1 w1 I2 J2 w2 hb hL e1 e2 hz⟩
theorem l_r_film (L : Nat) (xs : Nat → Int32) (d i : Nat) (I : Nat → Nat → Int32) (J : Nat → Nat → Int64) (w : Nat) (x : Int32) (I1 : Nat → Nat → Int32) (J1 : Nat → Nat → Int64) (w1 : Nat) (I2 : Nat → Nat → Int32) (J2 : Nat → Nat → Int64) (w2 : Nat) {r : zR} (hb : i + 6 ≤ L) (hL : L ≤ 3072) (e1 : z_cl (L, xs) d 155 [.ref 0, .int (xs (nI i + 1).toNatClampNeg), .int (xs (nI i + 2).toNatClampNeg), .int (xs (nI i + 3).toNatClampNeg), .int (xs (nI i + 4).toNatClampNeg)] (161, (I, J, RF w)) = some (some (.int x), 161, (I1, J1, RF w1))) (e2 : z_cl (L, xs) d 239 [.ref 127, .int (xs (nI i + 1).toNatClampNeg), .int (xs (nI i + 2).toNatClampNeg), .int (xs (nI i + 3).toNatClampNeg), .int (xs (nI i + 4).toNatClampNeg)] (161, (I1, J1, RF w1)) = some (some (.int x), 161, (I2, J2, RF w2))) (hz : z_Ev (L, xs) d z_m285 1757 [some (.ref 1006), some (.ref 0), some (.ref 127), some (.int (nI i))] [] 161 (I2, J2, RF w2) r) : z_Ev (L, xs) d z_m285 1284 [some (.ref 1006), some (.ref 0), some (.ref 127), some (.int (nI i))] [] 161 (I, J, RF w) r := by
  refine z_evG 6 (y := z_ild (z_ia (L, xs) 161 (I, J, RF w) 1006) (nI i + 1) fun vv => z_go 1290 [some (.ref 1006), some (.ref 0), some (.ref 127), some (.int (nI i))] [.int (vv), .ref 0] 161 (I, J, RF w)) (fun _ => rfl) ?_
  refine z_evB (N := L) (f := xs) rfl (l_in hb hL 1 (by decide)) ?_
  refine z_evL ?_
  refine z_evG 5 (y := z_ild (z_ia (L, xs) 161 (I, J, RF w) 1006) (nI i + 2) fun vv => z_go 1295 [some (.ref 1006), some (.ref 0), some (.ref 127), some (.int (nI i))] [.int (vv), .int (xs (nI i + 1).toNatClampNeg), .ref 0] 161 (I, J, RF w)) (fun _ => rfl) ?_
  refine z_evB (N := L) (f := xs) rfl (l_in hb hL 2 (by decide)) ?_
  refine z_evL ?_
  refine z_evG 5 (y := z_ild (z_ia (L, xs) 161 (I, J, RF w) 1006) (nI i + 3) fun vv => z_go 1300 [some (.ref 1006), some (.ref 0), some (.ref 127), some (.int (nI i))] [.int (vv), .int (xs (nI i + 2).toNatClampNeg), .int (xs (nI i + 1).toNatClampNeg), .ref 0] 161 (I, J, RF w)) (fun _ => rfl) ?_
  refine z_evB (N := L) (f := xs) rfl (l_in hb hL 3 (by decide)) ?_
  refine z_evL ?_
  refine z_evG 5 (y := z_ild (z_ia (L, xs) 161 (I, J, RF w) 1006) (nI i + 4) fun vv => z_go 1305 [some (.ref 1006), some (.ref 0), some (.ref 127), some (.int (nI i))] [.int (vv), .int (xs (nI i + 3).toNatClampNeg), .int (xs (nI i + 2).toNatClampNeg), .int (xs (nI i + 1).toNatClampNeg), .ref 0] 161 (I, J, RF w)) (fun _ => rfl) ?_
  refine z_evB (N := L) (f := xs) rfl (l_in hb hL 4 (by decide)) ?_
  refine z_evL ?_
  refine z_evG 1 (y := z_ret (z_cl (L, xs) d 155 [.ref 0, .int (xs (nI i + 1).toNatClampNeg), .int (xs (nI i + 2).toNatClampNeg), .int (xs (nI i + 3).toNatClampNeg), .int (xs (nI i + 4).toNatClampNeg)] (161, (I, J, RF w))) 1308 [some (.ref 1006), some (.ref 0), some (.ref 127), some (.int (nI i))] []) (fun _ => rfl) ?_
  refine z_evK (z' := 161) (σ' := (I1, J1, RF w1)) e1 ?_
  refine z_evG 6 (y := z_ild (z_ia (L, xs) 161 (I1, J1, RF w1) 1006) (nI i + 1) fun vv => z_go 1314 [some (.ref 1006), some (.ref 0), some (.ref 127), some (.int (nI i))] [.int (vv), .ref 127, .int (x)] 161 (I1, J1, RF w1)) (fun _ => rfl) ?_
  refine z_evB (N := L) (f := xs) rfl (l_in hb hL 1 (by decide)) ?_
  refine z_evL ?_
  refine z_evG 5 (y := z_ild (z_ia (L, xs) 161 (I1, J1, RF w1) 1006) (nI i + 2) fun vv => z_go 1319 [some (.ref 1006), some (.ref 0), some (.ref 127), some (.int (nI i))] [.int (vv), .int (xs (nI i + 1).toNatClampNeg), .ref 127, .int (x)] 161 (I1, J1, RF w1)) (fun _ => rfl) ?_
  refine z_evB (N := L) (f := xs) rfl (l_in hb hL 2 (by decide)) ?_
  refine z_evL ?_
  refine z_evG 5 (y := z_ild (z_ia (L, xs) 161 (I1, J1, RF w1) 1006) (nI i + 3) fun vv => z_go 1324 [some (.ref 1006), some (.ref 0), some (.ref 127), some (.int (nI i))] [.int (vv), .int (xs (nI i + 2).toNatClampNeg), .int (xs (nI i + 1).toNatClampNeg), .ref 127, .int (x)] 161 (I1, J1, RF w1)) (fun _ => rfl) ?_
  refine z_evB (N := L) (f := xs) rfl (l_in hb hL 3 (by decide)) ?_
  refine z_evL ?_
  refine z_evG 5 (y := z_ild (z_ia (L, xs) 161 (I1, J1, RF w1) 1006) (nI i + 4) fun vv => z_go 1329 [some (.ref 1006), some (.ref 0), some (.ref 127), some (.int (nI i))] [.int (vv), .int (xs (nI i + 3).toNatClampNeg), .int (xs (nI i + 2).toNatClampNeg), .int (xs (nI i + 1).toNatClampNeg), .ref 127, .int (x)] 161 (I1, J1, RF w1)) (fun _ => rfl) ?_
  refine z_evB (N := L) (f := xs) rfl (l_in hb hL 4 (by decide)) ?_
  refine z_evL ?_
  refine z_evG 1 (y := z_ret (z_cl (L, xs) d 239 [.ref 127, .int (xs (nI i + 1).toNatClampNeg), .int (xs (nI i + 2).toNatClampNeg), .int (xs (nI i + 3).toNatClampNeg), .int (xs (nI i + 4).toNatClampNeg)] (161, (I1, J1, RF w1))) 1332 [some (.ref 1006), some (.ref 0), some (.ref 127), some (.int (nI i))] [.int (x)]) (fun _ => rfl) ?_
  refine z_evK (z' := 161) (σ' := (I2, J2, RF w2)) e2 ?_
  refine z_evG 1 (y := if x = x then z_go 1757 [some (.ref 1006), some (.ref 0), some (.ref 127), some (.int (nI i))] [] 161 (I2, J2, RF w2) else z_go 1335 [some (.ref 1006), some (.ref 0), some (.ref 127), some (.int (nI i))] [] 161 (I2, J2, RF w2)) (fun _ => rfl) ?_
  refine z_evT rfl ?_
  exact z_evL hz
theorem l_k_film {L : Nat} {xs : Nat → Int32} {i : Nat} (hb : i + 6 ≤ L) (hL : L ≤ 3072) : l_ok L xs i 1284 := fun N I J w H => by
  obtain ⟨x, I1, J1, w1, I2, J2, w2, e1, e2, N2, H2⟩ := g_film (L, xs) N I J w H (xs (nI i + 1).toNatClampNeg) (xs (nI i + 2).toNatClampNeg) (xs (nI i + 3).toNatClampNeg) (xs (nI i + 4).toNatClampNeg)
  exact ⟨N2, I2, J2, w2, H2, fun r hz => l_r_film L xs 99 i I J w x I1 J1 w1 I2 J2 w2 hb hL e1 e2 hz⟩
theorem l_r_stripes (L : Nat) (xs : Nat → Int32) (d i : Nat) (I : Nat → Nat → Int32) (J : Nat → Nat → Int64) (w : Nat) (x : Int32) (I1 : Nat → Nat → Int32) (J1 : Nat → Nat → Int64) (w1 : Nat) (I2 : Nat → Nat → Int32) (J2 : Nat → Nat → Int64) (w2 : Nat) {r : zR} (hb : i + 6 ≤ L) (hL : L ≤ 3072) (e1 : z_cl (L, xs) d 156 [.ref 0, .int (xs (nI i + 1).toNatClampNeg), .int (xs (nI i + 2).toNatClampNeg), .int (xs (nI i + 3).toNatClampNeg), .int (xs (nI i + 4).toNatClampNeg)] (161, (I, J, RF w)) = some (some (.int x), 161, (I1, J1, RF w1))) (e2 : z_cl (L, xs) d 241 [.ref 127, .int (xs (nI i + 1).toNatClampNeg), .int (xs (nI i + 2).toNatClampNeg), .int (xs (nI i + 3).toNatClampNeg), .int (xs (nI i + 4).toNatClampNeg)] (161, (I1, J1, RF w1)) = some (some (.int x), 161, (I2, J2, RF w2))) (hz : z_Ev (L, xs) d z_m285 1757 [some (.ref 1006), some (.ref 0), some (.ref 127), some (.int (nI i))] [] 161 (I2, J2, RF w2) r) : z_Ev (L, xs) d z_m285 1337 [some (.ref 1006), some (.ref 0), some (.ref 127), some (.int (nI i))] [] 161 (I, J, RF w) r := by
  refine z_evG 6 (y := z_ild (z_ia (L, xs) 161 (I, J, RF w) 1006) (nI i + 1) fun vv => z_go 1343 [some (.ref 1006), some (.ref 0), some (.ref 127), some (.int (nI i))] [.int (vv), .ref 0] 161 (I, J, RF w)) (fun _ => rfl) ?_
  refine z_evB (N := L) (f := xs) rfl (l_in hb hL 1 (by decide)) ?_
  refine z_evL ?_
  refine z_evG 5 (y := z_ild (z_ia (L, xs) 161 (I, J, RF w) 1006) (nI i + 2) fun vv => z_go 1348 [some (.ref 1006), some (.ref 0), some (.ref 127), some (.int (nI i))] [.int (vv), .int (xs (nI i + 1).toNatClampNeg), .ref 0] 161 (I, J, RF w)) (fun _ => rfl) ?_
  refine z_evB (N := L) (f := xs) rfl (l_in hb hL 2 (by decide)) ?_
  refine z_evL ?_
  refine z_evG 5 (y := z_ild (z_ia (L, xs) 161 (I, J, RF w) 1006) (nI i + 3) fun vv => z_go 1353 [some (.ref 1006), some (.ref 0), some (.ref 127), some (.int (nI i))] [.int (vv), .int (xs (nI i + 2).toNatClampNeg), .int (xs (nI i + 1).toNatClampNeg), .ref 0] 161 (I, J, RF w)) (fun _ => rfl) ?_
  refine z_evB (N := L) (f := xs) rfl (l_in hb hL 3 (by decide)) ?_
  refine z_evL ?_
  refine z_evG 5 (y := z_ild (z_ia (L, xs) 161 (I, J, RF w) 1006) (nI i + 4) fun vv => z_go 1358 [some (.ref 1006), some (.ref 0), some (.ref 127), some (.int (nI i))] [.int (vv), .int (xs (nI i + 3).toNatClampNeg), .int (xs (nI i + 2).toNatClampNeg), .int (xs (nI i + 1).toNatClampNeg), .ref 0] 161 (I, J, RF w)) (fun _ => rfl) ?_
  refine z_evB (N := L) (f := xs) rfl (l_in hb hL 4 (by decide)) ?_
  refine z_evL ?_
  refine z_evG 1 (y := z_ret (z_cl (L, xs) d 156 [.ref 0, .int (xs (nI i + 1).toNatClampNeg), .int (xs (nI i + 2).toNatClampNeg), .int (xs (nI i + 3).toNatClampNeg), .int (xs (nI i + 4).toNatClampNeg)] (161, (I, J, RF w))) 1361 [some (.ref 1006), some (.ref 0), some (.ref 127), some (.int (nI i))] []) (fun _ => rfl) ?_
  refine z_evK (z' := 161) (σ' := (I1, J1, RF w1)) e1 ?_
  refine z_evG 6 (y := z_ild (z_ia (L, xs) 161 (I1, J1, RF w1) 1006) (nI i + 1) fun vv => z_go 1367 [some (.ref 1006), some (.ref 0), some (.ref 127), some (.int (nI i))] [.int (vv), .ref 127, .int (x)] 161 (I1, J1, RF w1)) (fun _ => rfl) ?_
  refine z_evB (N := L) (f := xs) rfl (l_in hb hL 1 (by decide)) ?_
  refine z_evL ?_
  refine z_evG 5 (y := z_ild (z_ia (L, xs) 161 (I1, J1, RF w1) 1006) (nI i + 2) fun vv => z_go 1372 [some (.ref 1006), some (.ref 0), some (.ref 127), some (.int (nI i))] [.int (vv), .int (xs (nI i + 1).toNatClampNeg), .ref 127, .int (x)] 161 (I1, J1, RF w1)) (fun _ => rfl) ?_
  refine z_evB (N := L) (f := xs) rfl (l_in hb hL 2 (by decide)) ?_
  refine z_evL ?_
  refine z_evG 5 (y := z_ild (z_ia (L, xs) 161 (I1, J1, RF w1) 1006) (nI i + 3) fun vv => z_go 1377 [some (.ref 1006), some (.ref 0), some (.ref 127), some (.int (nI i))] [.int (vv), .int (xs (nI i + 2).toNatClampNeg), .int (xs (nI i + 1).toNatClampNeg), .ref 127, .int (x)] 161 (I1, J1, RF w1)) (fun _ => rfl) ?_
  refine z_evB (N := L) (f := xs) rfl (l_in hb hL 3 (by decide)) ?_
  refine z_evL ?_
  refine z_evG 5 (y := z_ild (z_ia (L, xs) 161 (I1, J1, RF w1) 1006) (nI i + 4) fun vv => z_go 1382 [some (.ref 1006), some (.ref 0), some (.ref 127), some (.int (nI i))] [.int (vv), .int (xs (nI i + 3).toNatClampNeg), .int (xs (nI i + 2).toNatClampNeg), .int (xs (nI i + 1).toNatClampNeg), .ref 127, .int (x)] 161 (I1, J1, RF w1)) (fun _ => rfl) ?_
  refine z_evB (N := L) (f := xs) rfl (l_in hb hL 4 (by decide)) ?_
  refine z_evL ?_
  refine z_evG 1 (y := z_ret (z_cl (L, xs) d 241 [.ref 127, .int (xs (nI i + 1).toNatClampNeg), .int (xs (nI i + 2).toNatClampNeg), .int (xs (nI i + 3).toNatClampNeg), .int (xs (nI i + 4).toNatClampNeg)] (161, (I1, J1, RF w1))) 1385 [some (.ref 1006), some (.ref 0), some (.ref 127), some (.int (nI i))] [.int (x)]) (fun _ => rfl) ?_
  refine z_evK (z' := 161) (σ' := (I2, J2, RF w2)) e2 ?_
  refine z_evG 1 (y := if x = x then z_go 1757 [some (.ref 1006), some (.ref 0), some (.ref 127), some (.int (nI i))] [] 161 (I2, J2, RF w2) else z_go 1388 [some (.ref 1006), some (.ref 0), some (.ref 127), some (.int (nI i))] [] 161 (I2, J2, RF w2)) (fun _ => rfl) ?_
  refine z_evT rfl ?_
  exact z_evL hz
theorem l_k_stripes {L : Nat} {xs : Nat → Int32} {i : Nat} (hb : i + 6 ≤ L) (hL : L ≤ 3072) : l_ok L xs i 1337 := fun N I J w H => by
  obtain ⟨x, I1, J1, w1, I2, J2, w2, e1, e2, N2, H2⟩ := g_stripes (L, xs) N I J w H (xs (nI i + 1).toNatClampNeg) (xs (nI i + 2).toNatClampNeg) (xs (nI i + 3).toNatClampNeg) (xs (nI i + 4).toNatClampNeg)
  exact ⟨N2, I2, J2, w2, H2, fun r hz => l_r_stripes L xs 99 i I J w x I1 J1 w1 I2 J2 w2 hb hL e1 e2 hz⟩
theorem l_r_quietest (L : Nat) (xs : Nat → Int32) (d i : Nat) (I : Nat → Nat → Int32) (J : Nat → Nat → Int64) (w : Nat) (x : Int32) (I1 : Nat → Nat → Int32) (J1 : Nat → Nat → Int64) (w1 : Nat) (I2 : Nat → Nat → Int32) (J2 : Nat → Nat → Int64) (w2 : Nat) {r : zR} (hb : i + 6 ≤ L) (hL : L ≤ 3072) (e1 : z_cl (L, xs) d 157 [.ref 0, .int (xs (nI i + 1).toNatClampNeg), .int (xs (nI i + 2).toNatClampNeg), .int (xs (nI i + 3).toNatClampNeg), .int (xs (nI i + 4).toNatClampNeg)] (161, (I, J, RF w)) = some (some (.int x), 161, (I1, J1, RF w1))) (e2 : z_cl (L, xs) d 242 [.ref 127, .int (xs (nI i + 1).toNatClampNeg), .int (xs (nI i + 2).toNatClampNeg), .int (xs (nI i + 3).toNatClampNeg), .int (xs (nI i + 4).toNatClampNeg)] (161, (I1, J1, RF w1)) = some (some (.int x), 161, (I2, J2, RF w2))) (hz : z_Ev (L, xs) d z_m285 1757 [some (.ref 1006), some (.ref 0), some (.ref 127), some (.int (nI i))] [] 161 (I2, J2, RF w2) r) : z_Ev (L, xs) d z_m285 1390 [some (.ref 1006), some (.ref 0), some (.ref 127), some (.int (nI i))] [] 161 (I, J, RF w) r := by
  refine z_evG 6 (y := z_ild (z_ia (L, xs) 161 (I, J, RF w) 1006) (nI i + 1) fun vv => z_go 1396 [some (.ref 1006), some (.ref 0), some (.ref 127), some (.int (nI i))] [.int (vv), .ref 0] 161 (I, J, RF w)) (fun _ => rfl) ?_
  refine z_evB (N := L) (f := xs) rfl (l_in hb hL 1 (by decide)) ?_
  refine z_evL ?_
  refine z_evG 5 (y := z_ild (z_ia (L, xs) 161 (I, J, RF w) 1006) (nI i + 2) fun vv => z_go 1401 [some (.ref 1006), some (.ref 0), some (.ref 127), some (.int (nI i))] [.int (vv), .int (xs (nI i + 1).toNatClampNeg), .ref 0] 161 (I, J, RF w)) (fun _ => rfl) ?_
  refine z_evB (N := L) (f := xs) rfl (l_in hb hL 2 (by decide)) ?_
  refine z_evL ?_
  refine z_evG 5 (y := z_ild (z_ia (L, xs) 161 (I, J, RF w) 1006) (nI i + 3) fun vv => z_go 1406 [some (.ref 1006), some (.ref 0), some (.ref 127), some (.int (nI i))] [.int (vv), .int (xs (nI i + 2).toNatClampNeg), .int (xs (nI i + 1).toNatClampNeg), .ref 0] 161 (I, J, RF w)) (fun _ => rfl) ?_
  refine z_evB (N := L) (f := xs) rfl (l_in hb hL 3 (by decide)) ?_
  refine z_evL ?_
  refine z_evG 5 (y := z_ild (z_ia (L, xs) 161 (I, J, RF w) 1006) (nI i + 4) fun vv => z_go 1411 [some (.ref 1006), some (.ref 0), some (.ref 127), some (.int (nI i))] [.int (vv), .int (xs (nI i + 3).toNatClampNeg), .int (xs (nI i + 2).toNatClampNeg), .int (xs (nI i + 1).toNatClampNeg), .ref 0] 161 (I, J, RF w)) (fun _ => rfl) ?_
  refine z_evB (N := L) (f := xs) rfl (l_in hb hL 4 (by decide)) ?_
  refine z_evL ?_
  refine z_evG 1 (y := z_ret (z_cl (L, xs) d 157 [.ref 0, .int (xs (nI i + 1).toNatClampNeg), .int (xs (nI i + 2).toNatClampNeg), .int (xs (nI i + 3).toNatClampNeg), .int (xs (nI i + 4).toNatClampNeg)] (161, (I, J, RF w))) 1414 [some (.ref 1006), some (.ref 0), some (.ref 127), some (.int (nI i))] []) (fun _ => rfl) ?_
  refine z_evK (z' := 161) (σ' := (I1, J1, RF w1)) e1 ?_
  refine z_evG 6 (y := z_ild (z_ia (L, xs) 161 (I1, J1, RF w1) 1006) (nI i + 1) fun vv => z_go 1420 [some (.ref 1006), some (.ref 0), some (.ref 127), some (.int (nI i))] [.int (vv), .ref 127, .int (x)] 161 (I1, J1, RF w1)) (fun _ => rfl) ?_
  refine z_evB (N := L) (f := xs) rfl (l_in hb hL 1 (by decide)) ?_
  refine z_evL ?_
  refine z_evG 5 (y := z_ild (z_ia (L, xs) 161 (I1, J1, RF w1) 1006) (nI i + 2) fun vv => z_go 1425 [some (.ref 1006), some (.ref 0), some (.ref 127), some (.int (nI i))] [.int (vv), .int (xs (nI i + 1).toNatClampNeg), .ref 127, .int (x)] 161 (I1, J1, RF w1)) (fun _ => rfl) ?_
  refine z_evB (N := L) (f := xs) rfl (l_in hb hL 2 (by decide)) ?_
  refine z_evL ?_
  refine z_evG 5 (y := z_ild (z_ia (L, xs) 161 (I1, J1, RF w1) 1006) (nI i + 3) fun vv => z_go 1430 [some (.ref 1006), some (.ref 0), some (.ref 127), some (.int (nI i))] [.int (vv), .int (xs (nI i + 2).toNatClampNeg), .int (xs (nI i + 1).toNatClampNeg), .ref 127, .int (x)] 161 (I1, J1, RF w1)) (fun _ => rfl) ?_
  refine z_evB (N := L) (f := xs) rfl (l_in hb hL 3 (by decide)) ?_
  refine z_evL ?_
  refine z_evG 5 (y := z_ild (z_ia (L, xs) 161 (I1, J1, RF w1) 1006) (nI i + 4) fun vv => z_go 1435 [some (.ref 1006), some (.ref 0), some (.ref 127), some (.int (nI i))] [.int (vv), .int (xs (nI i + 3).toNatClampNeg), .int (xs (nI i + 2).toNatClampNeg), .int (xs (nI i + 1).toNatClampNeg), .ref 127, .int (x)] 161 (I1, J1, RF w1)) (fun _ => rfl) ?_
  refine z_evB (N := L) (f := xs) rfl (l_in hb hL 4 (by decide)) ?_
  refine z_evL ?_
  refine z_evG 1 (y := z_ret (z_cl (L, xs) d 242 [.ref 127, .int (xs (nI i + 1).toNatClampNeg), .int (xs (nI i + 2).toNatClampNeg), .int (xs (nI i + 3).toNatClampNeg), .int (xs (nI i + 4).toNatClampNeg)] (161, (I1, J1, RF w1))) 1438 [some (.ref 1006), some (.ref 0), some (.ref 127), some (.int (nI i))] [.int (x)]) (fun _ => rfl) ?_
  refine z_evK (z' := 161) (σ' := (I2, J2, RF w2)) e2 ?_
  refine z_evG 1 (y := if x = x then z_go 1757 [some (.ref 1006), some (.ref 0), some (.ref 127), some (.int (nI i))] [] 161 (I2, J2, RF w2) else z_go 1441 [some (.ref 1006), some (.ref 0), some (.ref 127), some (.int (nI i))] [] 161 (I2, J2, RF w2)) (fun _ => rfl) ?_
  refine z_evT rfl ?_
  exact z_evL hz
theorem l_k_quietest {L : Nat} {xs : Nat → Int32} {i : Nat} (hb : i + 6 ≤ L) (hL : L ≤ 3072) : l_ok L xs i 1390 := fun N I J w H => by
  obtain ⟨x, I1, J1, w1, I2, J2, w2, e1, e2, N2, H2⟩ := g_quietest (L, xs) N I J w H (xs (nI i + 1).toNatClampNeg) (xs (nI i + 2).toNatClampNeg) (xs (nI i + 3).toNatClampNeg) (xs (nI i + 4).toNatClampNeg)
  exact ⟨N2, I2, J2, w2, H2, fun r hz => l_r_quietest L xs 99 i I J w x I1 J1 w1 I2 J2 w2 hb hL e1 e2 hz⟩
theorem l_r_filter (L : Nat) (xs : Nat → Int32) (d i : Nat) (I : Nat → Nat → Int32) (J : Nat → Nat → Int64) (w : Nat) (x : Int32) (I1 : Nat → Nat → Int32) (J1 : Nat → Nat → Int64) (w1 : Nat) (I2 : Nat → Nat → Int32) (J2 : Nat → Nat → Int64) (w2 : Nat) {r : zR} (hb : i + 6 ≤ L) (hL : L ≤ 3072) (e1 : z_cl (L, xs) d 158 [.ref 0, .int (xs (nI i + 1).toNatClampNeg), .int (xs (nI i + 2).toNatClampNeg)] (161, (I, J, RF w)) = some (some (.int x), 161, (I1, J1, RF w1))) (e2 : z_cl (L, xs) d 243 [.ref 127, .int (xs (nI i + 1).toNatClampNeg), .int (xs (nI i + 2).toNatClampNeg)] (161, (I1, J1, RF w1)) = some (some (.int x), 161, (I2, J2, RF w2))) (hz : z_Ev (L, xs) d z_m285 1757 [some (.ref 1006), some (.ref 0), some (.ref 127), some (.int (nI i))] [] 161 (I2, J2, RF w2) r) : z_Ev (L, xs) d z_m285 1443 [some (.ref 1006), some (.ref 0), some (.ref 127), some (.int (nI i))] [] 161 (I, J, RF w) r := by
  refine z_evG 6 (y := z_ild (z_ia (L, xs) 161 (I, J, RF w) 1006) (nI i + 1) fun vv => z_go 1449 [some (.ref 1006), some (.ref 0), some (.ref 127), some (.int (nI i))] [.int (vv), .ref 0] 161 (I, J, RF w)) (fun _ => rfl) ?_
  refine z_evB (N := L) (f := xs) rfl (l_in hb hL 1 (by decide)) ?_
  refine z_evL ?_
  refine z_evG 5 (y := z_ild (z_ia (L, xs) 161 (I, J, RF w) 1006) (nI i + 2) fun vv => z_go 1454 [some (.ref 1006), some (.ref 0), some (.ref 127), some (.int (nI i))] [.int (vv), .int (xs (nI i + 1).toNatClampNeg), .ref 0] 161 (I, J, RF w)) (fun _ => rfl) ?_
  refine z_evB (N := L) (f := xs) rfl (l_in hb hL 2 (by decide)) ?_
  refine z_evL ?_
  refine z_evG 1 (y := z_ret (z_cl (L, xs) d 158 [.ref 0, .int (xs (nI i + 1).toNatClampNeg), .int (xs (nI i + 2).toNatClampNeg)] (161, (I, J, RF w))) 1457 [some (.ref 1006), some (.ref 0), some (.ref 127), some (.int (nI i))] []) (fun _ => rfl) ?_
  refine z_evK (z' := 161) (σ' := (I1, J1, RF w1)) e1 ?_
  refine z_evG 6 (y := z_ild (z_ia (L, xs) 161 (I1, J1, RF w1) 1006) (nI i + 1) fun vv => z_go 1463 [some (.ref 1006), some (.ref 0), some (.ref 127), some (.int (nI i))] [.int (vv), .ref 127, .int (x)] 161 (I1, J1, RF w1)) (fun _ => rfl) ?_
  refine z_evB (N := L) (f := xs) rfl (l_in hb hL 1 (by decide)) ?_
  refine z_evL ?_
  refine z_evG 5 (y := z_ild (z_ia (L, xs) 161 (I1, J1, RF w1) 1006) (nI i + 2) fun vv => z_go 1468 [some (.ref 1006), some (.ref 0), some (.ref 127), some (.int (nI i))] [.int (vv), .int (xs (nI i + 1).toNatClampNeg), .ref 127, .int (x)] 161 (I1, J1, RF w1)) (fun _ => rfl) ?_
  refine z_evB (N := L) (f := xs) rfl (l_in hb hL 2 (by decide)) ?_
  refine z_evL ?_
  refine z_evG 1 (y := z_ret (z_cl (L, xs) d 243 [.ref 127, .int (xs (nI i + 1).toNatClampNeg), .int (xs (nI i + 2).toNatClampNeg)] (161, (I1, J1, RF w1))) 1471 [some (.ref 1006), some (.ref 0), some (.ref 127), some (.int (nI i))] [.int (x)]) (fun _ => rfl) ?_
  refine z_evK (z' := 161) (σ' := (I2, J2, RF w2)) e2 ?_
  refine z_evG 1 (y := if x = x then z_go 1757 [some (.ref 1006), some (.ref 0), some (.ref 127), some (.int (nI i))] [] 161 (I2, J2, RF w2) else z_go 1474 [some (.ref 1006), some (.ref 0), some (.ref 127), some (.int (nI i))] [] 161 (I2, J2, RF w2)) (fun _ => rfl) ?_
  refine z_evT rfl ?_
  exact z_evL hz
theorem l_k_filter {L : Nat} {xs : Nat → Int32} {i : Nat} (hb : i + 6 ≤ L) (hL : L ≤ 3072) : l_ok L xs i 1443 := fun N I J w H => by
  obtain ⟨x, I1, J1, w1, I2, J2, w2, e1, e2, N2, H2⟩ := g_filter (L, xs) N I J w H (xs (nI i + 1).toNatClampNeg) (xs (nI i + 2).toNatClampNeg)
  exact ⟨N2, I2, J2, w2, H2, fun r hz => l_r_filter L xs 99 i I J w x I1 J1 w1 I2 J2 w2 hb hL e1 e2 hz⟩
theorem l_r_hidden (L : Nat) (xs : Nat → Int32) (d i : Nat) (I : Nat → Nat → Int32) (J : Nat → Nat → Int64) (w : Nat) (x : Int32) (I1 : Nat → Nat → Int32) (J1 : Nat → Nat → Int64) (w1 : Nat) (I2 : Nat → Nat → Int32) (J2 : Nat → Nat → Int64) (w2 : Nat) {r : zR} (hb : i + 6 ≤ L) (hL : L ≤ 3072) (e1 : z_cl (L, xs) d 159 [.ref 0, .int (xs (nI i + 1).toNatClampNeg), .int (xs (nI i + 2).toNatClampNeg)] (161, (I, J, RF w)) = some (some (.int x), 161, (I1, J1, RF w1))) (e2 : z_cl (L, xs) d 245 [.ref 127, .int (xs (nI i + 1).toNatClampNeg), .int (xs (nI i + 2).toNatClampNeg)] (161, (I1, J1, RF w1)) = some (some (.int x), 161, (I2, J2, RF w2))) (hz : z_Ev (L, xs) d z_m285 1757 [some (.ref 1006), some (.ref 0), some (.ref 127), some (.int (nI i))] [] 161 (I2, J2, RF w2) r) : z_Ev (L, xs) d z_m285 1476 [some (.ref 1006), some (.ref 0), some (.ref 127), some (.int (nI i))] [] 161 (I, J, RF w) r := by
  refine z_evG 6 (y := z_ild (z_ia (L, xs) 161 (I, J, RF w) 1006) (nI i + 1) fun vv => z_go 1482 [some (.ref 1006), some (.ref 0), some (.ref 127), some (.int (nI i))] [.int (vv), .ref 0] 161 (I, J, RF w)) (fun _ => rfl) ?_
  refine z_evB (N := L) (f := xs) rfl (l_in hb hL 1 (by decide)) ?_
  refine z_evL ?_
  refine z_evG 5 (y := z_ild (z_ia (L, xs) 161 (I, J, RF w) 1006) (nI i + 2) fun vv => z_go 1487 [some (.ref 1006), some (.ref 0), some (.ref 127), some (.int (nI i))] [.int (vv), .int (xs (nI i + 1).toNatClampNeg), .ref 0] 161 (I, J, RF w)) (fun _ => rfl) ?_
  refine z_evB (N := L) (f := xs) rfl (l_in hb hL 2 (by decide)) ?_
  refine z_evL ?_
  refine z_evG 1 (y := z_ret (z_cl (L, xs) d 159 [.ref 0, .int (xs (nI i + 1).toNatClampNeg), .int (xs (nI i + 2).toNatClampNeg)] (161, (I, J, RF w))) 1490 [some (.ref 1006), some (.ref 0), some (.ref 127), some (.int (nI i))] []) (fun _ => rfl) ?_
  refine z_evK (z' := 161) (σ' := (I1, J1, RF w1)) e1 ?_
  refine z_evG 6 (y := z_ild (z_ia (L, xs) 161 (I1, J1, RF w1) 1006) (nI i + 1) fun vv => z_go 1496 [some (.ref 1006), some (.ref 0), some (.ref 127), some (.int (nI i))] [.int (vv), .ref 127, .int (x)] 161 (I1, J1, RF w1)) (fun _ => rfl) ?_
  refine z_evB (N := L) (f := xs) rfl (l_in hb hL 1 (by decide)) ?_
  refine z_evL ?_
  refine z_evG 5 (y := z_ild (z_ia (L, xs) 161 (I1, J1, RF w1) 1006) (nI i + 2) fun vv => z_go 1501 [some (.ref 1006), some (.ref 0), some (.ref 127), some (.int (nI i))] [.int (vv), .int (xs (nI i + 1).toNatClampNeg), .ref 127, .int (x)] 161 (I1, J1, RF w1)) (fun _ => rfl) ?_
  refine z_evB (N := L) (f := xs) rfl (l_in hb hL 2 (by decide)) ?_
  refine z_evL ?_
  refine z_evG 1 (y := z_ret (z_cl (L, xs) d 245 [.ref 127, .int (xs (nI i + 1).toNatClampNeg), .int (xs (nI i + 2).toNatClampNeg)] (161, (I1, J1, RF w1))) 1504 [some (.ref 1006), some (.ref 0), some (.ref 127), some (.int (nI i))] [.int (x)]) (fun _ => rfl) ?_
  refine z_evK (z' := 161) (σ' := (I2, J2, RF w2)) e2 ?_
  refine z_evG 1 (y := if x = x then z_go 1757 [some (.ref 1006), some (.ref 0), some (.ref 127), some (.int (nI i))] [] 161 (I2, J2, RF w2) else z_go 1507 [some (.ref 1006), some (.ref 0), some (.ref 127), some (.int (nI i))] [] 161 (I2, J2, RF w2)) (fun _ => rfl) ?_
  refine z_evT rfl ?_
  exact z_evL hz
theorem l_k_hidden {L : Nat} {xs : Nat → Int32} {i : Nat} (hb : i + 6 ≤ L) (hL : L ≤ 3072) : l_ok L xs i 1476 := fun N I J w H => by
  obtain ⟨x, I1, J1, w1, I2, J2, w2, e1, e2, N2, H2⟩ := g_hidden (L, xs) N I J w H (xs (nI i + 1).toNatClampNeg) (xs (nI i + 2).toNatClampNeg)
  exact ⟨N2, I2, J2, w2, H2, fun r hz => l_r_hidden L xs 99 i I J w x I1 J1 w1 I2 J2 w2 hb hL e1 e2 hz⟩
theorem l_r_count (L : Nat) (xs : Nat → Int32) (d i : Nat) (I : Nat → Nat → Int32) (J : Nat → Nat → Int64) (w : Nat) (x : Int32) (I1 : Nat → Nat → Int32) (J1 : Nat → Nat → Int64) (w1 : Nat) (I2 : Nat → Nat → Int32) (J2 : Nat → Nat → Int64) (w2 : Nat) {r : zR} (hb : i + 6 ≤ L) (hL : L ≤ 3072) (e1 : z_cl (L, xs) d 160 [.ref 0, .int (xs (nI i + 1).toNatClampNeg)] (161, (I, J, RF w)) = some (some (.int x), 161, (I1, J1, RF w1))) (e2 : z_cl (L, xs) d 246 [.ref 127, .int (xs (nI i + 1).toNatClampNeg)] (161, (I1, J1, RF w1)) = some (some (.int x), 161, (I2, J2, RF w2))) (hz : z_Ev (L, xs) d z_m285 1757 [some (.ref 1006), some (.ref 0), some (.ref 127), some (.int (nI i))] [] 161 (I2, J2, RF w2) r) : z_Ev (L, xs) d z_m285 1509 [some (.ref 1006), some (.ref 0), some (.ref 127), some (.int (nI i))] [] 161 (I, J, RF w) r := by
  refine z_evG 6 (y := z_ild (z_ia (L, xs) 161 (I, J, RF w) 1006) (nI i + 1) fun vv => z_go 1515 [some (.ref 1006), some (.ref 0), some (.ref 127), some (.int (nI i))] [.int (vv), .ref 0] 161 (I, J, RF w)) (fun _ => rfl) ?_
  refine z_evB (N := L) (f := xs) rfl (l_in hb hL 1 (by decide)) ?_
  refine z_evL ?_
  refine z_evG 1 (y := z_ret (z_cl (L, xs) d 160 [.ref 0, .int (xs (nI i + 1).toNatClampNeg)] (161, (I, J, RF w))) 1518 [some (.ref 1006), some (.ref 0), some (.ref 127), some (.int (nI i))] []) (fun _ => rfl) ?_
  refine z_evK (z' := 161) (σ' := (I1, J1, RF w1)) e1 ?_
  refine z_evG 6 (y := z_ild (z_ia (L, xs) 161 (I1, J1, RF w1) 1006) (nI i + 1) fun vv => z_go 1524 [some (.ref 1006), some (.ref 0), some (.ref 127), some (.int (nI i))] [.int (vv), .ref 127, .int (x)] 161 (I1, J1, RF w1)) (fun _ => rfl) ?_
  refine z_evB (N := L) (f := xs) rfl (l_in hb hL 1 (by decide)) ?_
  refine z_evL ?_
  refine z_evG 1 (y := z_ret (z_cl (L, xs) d 246 [.ref 127, .int (xs (nI i + 1).toNatClampNeg)] (161, (I1, J1, RF w1))) 1527 [some (.ref 1006), some (.ref 0), some (.ref 127), some (.int (nI i))] [.int (x)]) (fun _ => rfl) ?_
  refine z_evK (z' := 161) (σ' := (I2, J2, RF w2)) e2 ?_
  refine z_evG 1 (y := if x = x then z_go 1757 [some (.ref 1006), some (.ref 0), some (.ref 127), some (.int (nI i))] [] 161 (I2, J2, RF w2) else z_go 1530 [some (.ref 1006), some (.ref 0), some (.ref 127), some (.int (nI i))] [] 161 (I2, J2, RF w2)) (fun _ => rfl) ?_
  refine z_evT rfl ?_
  exact z_evL hz
theorem l_k_count {L : Nat} {xs : Nat → Int32} {i : Nat} (hb : i + 6 ≤ L) (hL : L ≤ 3072) : l_ok L xs i 1509 := fun N I J w H => by
  obtain ⟨x, I1, J1, w1, I2, J2, w2, e1, e2, N2, H2⟩ := g_count (L, xs) N I J w H (xs (nI i + 1).toNatClampNeg)
  exact ⟨N2, I2, J2, w2, H2, fun r hz => l_r_count L xs 99 i I J w x I1 J1 w1 I2 J2 w2 hb hL e1 e2 hz⟩
theorem l_r_sheet (L : Nat) (xs : Nat → Int32) (d i : Nat) (I : Nat → Nat → Int32) (J : Nat → Nat → Int64) (w : Nat) (x : Int32) (I1 : Nat → Nat → Int32) (J1 : Nat → Nat → Int64) (w1 : Nat) (I2 : Nat → Nat → Int32) (J2 : Nat → Nat → Int64) (w2 : Nat) {r : zR} (hb : i + 6 ≤ L) (hL : L ≤ 3072) (e1 : z_cl (L, xs) d 161 [.ref 0, .int (xs (nI i + 1).toNatClampNeg), .int (xs (nI i + 2).toNatClampNeg), .int (xs (nI i + 3).toNatClampNeg)] (161, (I, J, RF w)) = some (some (.int x), 161, (I1, J1, RF w1))) (e2 : z_cl (L, xs) d 248 [.ref 127, .int (xs (nI i + 1).toNatClampNeg), .int (xs (nI i + 2).toNatClampNeg), .int (xs (nI i + 3).toNatClampNeg)] (161, (I1, J1, RF w1)) = some (some (.int x), 161, (I2, J2, RF w2))) (hz : z_Ev (L, xs) d z_m285 1757 [some (.ref 1006), some (.ref 0), some (.ref 127), some (.int (nI i))] [] 161 (I2, J2, RF w2) r) : z_Ev (L, xs) d z_m285 1532 [some (.ref 1006), some (.ref 0), some (.ref 127), some (.int (nI i))] [] 161 (I, J, RF w) r := by
  refine z_evG 6 (y := z_ild (z_ia (L, xs) 161 (I, J, RF w) 1006) (nI i + 1) fun vv => z_go 1538 [some (.ref 1006), some (.ref 0), some (.ref 127), some (.int (nI i))] [.int (vv), .ref 0] 161 (I, J, RF w)) (fun _ => rfl) ?_
  refine z_evB (N := L) (f := xs) rfl (l_in hb hL 1 (by decide)) ?_
  refine z_evL ?_
  refine z_evG 5 (y := z_ild (z_ia (L, xs) 161 (I, J, RF w) 1006) (nI i + 2) fun vv => z_go 1543 [some (.ref 1006), some (.ref 0), some (.ref 127), some (.int (nI i))] [.int (vv), .int (xs (nI i + 1).toNatClampNeg), .ref 0] 161 (I, J, RF w)) (fun _ => rfl) ?_
  refine z_evB (N := L) (f := xs) rfl (l_in hb hL 2 (by decide)) ?_
  refine z_evL ?_
  refine z_evG 5 (y := z_ild (z_ia (L, xs) 161 (I, J, RF w) 1006) (nI i + 3) fun vv => z_go 1548 [some (.ref 1006), some (.ref 0), some (.ref 127), some (.int (nI i))] [.int (vv), .int (xs (nI i + 2).toNatClampNeg), .int (xs (nI i + 1).toNatClampNeg), .ref 0] 161 (I, J, RF w)) (fun _ => rfl) ?_
  refine z_evB (N := L) (f := xs) rfl (l_in hb hL 3 (by decide)) ?_
  refine z_evL ?_
  refine z_evG 1 (y := z_ret (z_cl (L, xs) d 161 [.ref 0, .int (xs (nI i + 1).toNatClampNeg), .int (xs (nI i + 2).toNatClampNeg), .int (xs (nI i + 3).toNatClampNeg)] (161, (I, J, RF w))) 1551 [some (.ref 1006), some (.ref 0), some (.ref 127), some (.int (nI i))] []) (fun _ => rfl) ?_
  refine z_evK (z' := 161) (σ' := (I1, J1, RF w1)) e1 ?_
  refine z_evG 6 (y := z_ild (z_ia (L, xs) 161 (I1, J1, RF w1) 1006) (nI i + 1) fun vv => z_go 1557 [some (.ref 1006), some (.ref 0), some (.ref 127), some (.int (nI i))] [.int (vv), .ref 127, .int (x)] 161 (I1, J1, RF w1)) (fun _ => rfl) ?_
  refine z_evB (N := L) (f := xs) rfl (l_in hb hL 1 (by decide)) ?_
  refine z_evL ?_
  refine z_evG 5 (y := z_ild (z_ia (L, xs) 161 (I1, J1, RF w1) 1006) (nI i + 2) fun vv => z_go 1562 [some (.ref 1006), some (.ref 0), some (.ref 127), some (.int (nI i))] [.int (vv), .int (xs (nI i + 1).toNatClampNeg), .ref 127, .int (x)] 161 (I1, J1, RF w1)) (fun _ => rfl) ?_
  refine z_evB (N := L) (f := xs) rfl (l_in hb hL 2 (by decide)) ?_
  refine z_evL ?_
  refine z_evG 5 (y := z_ild (z_ia (L, xs) 161 (I1, J1, RF w1) 1006) (nI i + 3) fun vv => z_go 1567 [some (.ref 1006), some (.ref 0), some (.ref 127), some (.int (nI i))] [.int (vv), .int (xs (nI i + 2).toNatClampNeg), .int (xs (nI i + 1).toNatClampNeg), .ref 127, .int (x)] 161 (I1, J1, RF w1)) (fun _ => rfl) ?_
  refine z_evB (N := L) (f := xs) rfl (l_in hb hL 3 (by decide)) ?_
  refine z_evL ?_
  refine z_evG 1 (y := z_ret (z_cl (L, xs) d 248 [.ref 127, .int (xs (nI i + 1).toNatClampNeg), .int (xs (nI i + 2).toNatClampNeg), .int (xs (nI i + 3).toNatClampNeg)] (161, (I1, J1, RF w1))) 1570 [some (.ref 1006), some (.ref 0), some (.ref 127), some (.int (nI i))] [.int (x)]) (fun _ => rfl) ?_
  refine z_evK (z' := 161) (σ' := (I2, J2, RF w2)) e2 ?_
  refine z_evG 1 (y := if x = x then z_go 1757 [some (.ref 1006), some (.ref 0), some (.ref 127), some (.int (nI i))] [] 161 (I2, J2, RF w2) else z_go 1573 [some (.ref 1006), some (.ref 0), some (.ref 127), some (.int (nI i))] [] 161 (I2, J2, RF w2)) (fun _ => rfl) ?_
  refine z_evT rfl ?_
  exact z_evL hz
theorem l_k_sheet {L : Nat} {xs : Nat → Int32} {i : Nat} (hb : i + 6 ≤ L) (hL : L ≤ 3072) : l_ok L xs i 1532 := fun N I J w H => by
  obtain ⟨x, I1, J1, w1, I2, J2, w2, e1, e2, N2, H2⟩ := g_sheet (L, xs) N I J w H (xs (nI i + 1).toNatClampNeg) (xs (nI i + 2).toNatClampNeg) (xs (nI i + 3).toNatClampNeg)
  exact ⟨N2, I2, J2, w2, H2, fun r hz => l_r_sheet L xs 99 i I J w x I1 J1 w1 I2 J2 w2 hb hL e1 e2 hz⟩
theorem l_r_cell (L : Nat) (xs : Nat → Int32) (d i : Nat) (I : Nat → Nat → Int32) (J : Nat → Nat → Int64) (w : Nat) (x : Int32) (I1 : Nat → Nat → Int32) (J1 : Nat → Nat → Int64) (w1 : Nat) (I2 : Nat → Nat → Int32) (J2 : Nat → Nat → Int64) (w2 : Nat) {r : zR} (hb : i + 6 ≤ L) (hL : L ≤ 3072) (e1 : z_cl (L, xs) d 162 [.ref 0, .int (xs (nI i + 1).toNatClampNeg), .int (xs (nI i + 2).toNatClampNeg), .int (xs (nI i + 3).toNatClampNeg)] (161, (I, J, RF w)) = some (some (.int x), 161, (I1, J1, RF w1))) (e2 : z_cl (L, xs) d 249 [.ref 127, .int (xs (nI i + 1).toNatClampNeg), .int (xs (nI i + 2).toNatClampNeg), .int (xs (nI i + 3).toNatClampNeg)] (161, (I1, J1, RF w1)) = some (some (.int x), 161, (I2, J2, RF w2))) (hz : z_Ev (L, xs) d z_m285 1757 [some (.ref 1006), some (.ref 0), some (.ref 127), some (.int (nI i))] [] 161 (I2, J2, RF w2) r) : z_Ev (L, xs) d z_m285 1575 [some (.ref 1006), some (.ref 0), some (.ref 127), some (.int (nI i))] [] 161 (I, J, RF w) r := by
  refine z_evG 6 (y := z_ild (z_ia (L, xs) 161 (I, J, RF w) 1006) (nI i + 1) fun vv => z_go 1581 [some (.ref 1006), some (.ref 0), some (.ref 127), some (.int (nI i))] [.int (vv), .ref 0] 161 (I, J, RF w)) (fun _ => rfl) ?_
  refine z_evB (N := L) (f := xs) rfl (l_in hb hL 1 (by decide)) ?_
  refine z_evL ?_
  refine z_evG 5 (y := z_ild (z_ia (L, xs) 161 (I, J, RF w) 1006) (nI i + 2) fun vv => z_go 1586 [some (.ref 1006), some (.ref 0), some (.ref 127), some (.int (nI i))] [.int (vv), .int (xs (nI i + 1).toNatClampNeg), .ref 0] 161 (I, J, RF w)) (fun _ => rfl) ?_
  refine z_evB (N := L) (f := xs) rfl (l_in hb hL 2 (by decide)) ?_
  refine z_evL ?_
  refine z_evG 5 (y := z_ild (z_ia (L, xs) 161 (I, J, RF w) 1006) (nI i + 3) fun vv => z_go 1591 [some (.ref 1006), some (.ref 0), some (.ref 127), some (.int (nI i))] [.int (vv), .int (xs (nI i + 2).toNatClampNeg), .int (xs (nI i + 1).toNatClampNeg), .ref 0] 161 (I, J, RF w)) (fun _ => rfl) ?_
  refine z_evB (N := L) (f := xs) rfl (l_in hb hL 3 (by decide)) ?_
  refine z_evL ?_
  refine z_evG 1 (y := z_ret (z_cl (L, xs) d 162 [.ref 0, .int (xs (nI i + 1).toNatClampNeg), .int (xs (nI i + 2).toNatClampNeg), .int (xs (nI i + 3).toNatClampNeg)] (161, (I, J, RF w))) 1594 [some (.ref 1006), some (.ref 0), some (.ref 127), some (.int (nI i))] []) (fun _ => rfl) ?_
  refine z_evK (z' := 161) (σ' := (I1, J1, RF w1)) e1 ?_
  refine z_evG 6 (y := z_ild (z_ia (L, xs) 161 (I1, J1, RF w1) 1006) (nI i + 1) fun vv => z_go 1600 [some (.ref 1006), some (.ref 0), some (.ref 127), some (.int (nI i))] [.int (vv), .ref 127, .int (x)] 161 (I1, J1, RF w1)) (fun _ => rfl) ?_
  refine z_evB (N := L) (f := xs) rfl (l_in hb hL 1 (by decide)) ?_
  refine z_evL ?_
  refine z_evG 5 (y := z_ild (z_ia (L, xs) 161 (I1, J1, RF w1) 1006) (nI i + 2) fun vv => z_go 1605 [some (.ref 1006), some (.ref 0), some (.ref 127), some (.int (nI i))] [.int (vv), .int (xs (nI i + 1).toNatClampNeg), .ref 127, .int (x)] 161 (I1, J1, RF w1)) (fun _ => rfl) ?_
  refine z_evB (N := L) (f := xs) rfl (l_in hb hL 2 (by decide)) ?_
  refine z_evL ?_
  refine z_evG 5 (y := z_ild (z_ia (L, xs) 161 (I1, J1, RF w1) 1006) (nI i + 3) fun vv => z_go 1610 [some (.ref 1006), some (.ref 0), some (.ref 127), some (.int (nI i))] [.int (vv), .int (xs (nI i + 2).toNatClampNeg), .int (xs (nI i + 1).toNatClampNeg), .ref 127, .int (x)] 161 (I1, J1, RF w1)) (fun _ => rfl) ?_
  refine z_evB (N := L) (f := xs) rfl (l_in hb hL 3 (by decide)) ?_
  refine z_evL ?_
  refine z_evG 1 (y := z_ret (z_cl (L, xs) d 249 [.ref 127, .int (xs (nI i + 1).toNatClampNeg), .int (xs (nI i + 2).toNatClampNeg), .int (xs (nI i + 3).toNatClampNeg)] (161, (I1, J1, RF w1))) 1613 [some (.ref 1006), some (.ref 0), some (.ref 127), some (.int (nI i))] [.int (x)]) (fun _ => rfl) ?_
  refine z_evK (z' := 161) (σ' := (I2, J2, RF w2)) e2 ?_
  refine z_evG 1 (y := if x = x then z_go 1757 [some (.ref 1006), some (.ref 0), some (.ref 127), some (.int (nI i))] [] 161 (I2, J2, RF w2) else z_go 1616 [some (.ref 1006), some (.ref 0), some (.ref 127), some (.int (nI i))] [] 161 (I2, J2, RF w2)) (fun _ => rfl) ?_
  refine z_evT rfl ?_
  exact z_evL hz
theorem l_k_cell {L : Nat} {xs : Nat → Int32} {i : Nat} (hb : i + 6 ≤ L) (hL : L ≤ 3072) : l_ok L xs i 1575 := fun N I J w H => by
  obtain ⟨x, I1, J1, w1, I2, J2, w2, e1, e2, N2, H2⟩ := g_cell (L, xs) N I J w H (xs (nI i + 1).toNatClampNeg) (xs (nI i + 2).toNatClampNeg) (xs (nI i + 3).toNatClampNeg)
  exact ⟨N2, I2, J2, w2, H2, fun r hz => l_r_cell L xs 99 i I J w x I1 J1 w1 I2 J2 w2 hb hL e1 e2 hz⟩
theorem l_r_copy (L : Nat) (xs : Nat → Int32) (d i : Nat) (I : Nat → Nat → Int32) (J : Nat → Nat → Int64) (w : Nat) (x : Int32) (I1 : Nat → Nat → Int32) (J1 : Nat → Nat → Int64) (w1 : Nat) (I2 : Nat → Nat → Int32) (J2 : Nat → Nat → Int64) (w2 : Nat) {r : zR} (hb : i + 6 ≤ L) (hL : L ≤ 3072) (e1 : z_cl (L, xs) d 163 [.ref 0, .int (xs (nI i + 1).toNatClampNeg), .int (xs (nI i + 2).toNatClampNeg), .int (xs (nI i + 3).toNatClampNeg), .int (xs (nI i + 4).toNatClampNeg), .int (xs (nI i + 5).toNatClampNeg)] (161, (I, J, RF w)) = some (some (.int x), 161, (I1, J1, RF w1))) (e2 : z_cl (L, xs) d 250 [.ref 127, .int (xs (nI i + 1).toNatClampNeg), .int (xs (nI i + 2).toNatClampNeg), .int (xs (nI i + 3).toNatClampNeg), .int (xs (nI i + 4).toNatClampNeg), .int (xs (nI i + 5).toNatClampNeg)] (161, (I1, J1, RF w1)) = some (some (.int x), 161, (I2, J2, RF w2))) (hz : z_Ev (L, xs) d z_m285 1757 [some (.ref 1006), some (.ref 0), some (.ref 127), some (.int (nI i))] [] 161 (I2, J2, RF w2) r) : z_Ev (L, xs) d z_m285 1618 [some (.ref 1006), some (.ref 0), some (.ref 127), some (.int (nI i))] [] 161 (I, J, RF w) r := by
  refine z_evG 6 (y := z_ild (z_ia (L, xs) 161 (I, J, RF w) 1006) (nI i + 1) fun vv => z_go 1624 [some (.ref 1006), some (.ref 0), some (.ref 127), some (.int (nI i))] [.int (vv), .ref 0] 161 (I, J, RF w)) (fun _ => rfl) ?_
  refine z_evB (N := L) (f := xs) rfl (l_in hb hL 1 (by decide)) ?_
  refine z_evL ?_
  refine z_evG 5 (y := z_ild (z_ia (L, xs) 161 (I, J, RF w) 1006) (nI i + 2) fun vv => z_go 1629 [some (.ref 1006), some (.ref 0), some (.ref 127), some (.int (nI i))] [.int (vv), .int (xs (nI i + 1).toNatClampNeg), .ref 0] 161 (I, J, RF w)) (fun _ => rfl) ?_
  refine z_evB (N := L) (f := xs) rfl (l_in hb hL 2 (by decide)) ?_
  refine z_evL ?_
  refine z_evG 5 (y := z_ild (z_ia (L, xs) 161 (I, J, RF w) 1006) (nI i + 3) fun vv => z_go 1634 [some (.ref 1006), some (.ref 0), some (.ref 127), some (.int (nI i))] [.int (vv), .int (xs (nI i + 2).toNatClampNeg), .int (xs (nI i + 1).toNatClampNeg), .ref 0] 161 (I, J, RF w)) (fun _ => rfl) ?_
  refine z_evB (N := L) (f := xs) rfl (l_in hb hL 3 (by decide)) ?_
  refine z_evL ?_
  refine z_evG 5 (y := z_ild (z_ia (L, xs) 161 (I, J, RF w) 1006) (nI i + 4) fun vv => z_go 1639 [some (.ref 1006), some (.ref 0), some (.ref 127), some (.int (nI i))] [.int (vv), .int (xs (nI i + 3).toNatClampNeg), .int (xs (nI i + 2).toNatClampNeg), .int (xs (nI i + 1).toNatClampNeg), .ref 0] 161 (I, J, RF w)) (fun _ => rfl) ?_
  refine z_evB (N := L) (f := xs) rfl (l_in hb hL 4 (by decide)) ?_
  refine z_evL ?_
  refine z_evG 5 (y := z_ild (z_ia (L, xs) 161 (I, J, RF w) 1006) (nI i + 5) fun vv => z_go 1644 [some (.ref 1006), some (.ref 0), some (.ref 127), some (.int (nI i))] [.int (vv), .int (xs (nI i + 4).toNatClampNeg), .int (xs (nI i + 3).toNatClampNeg), .int (xs (nI i + 2).toNatClampNeg), .int (xs (nI i + 1).toNatClampNeg), .ref 0] 161 (I, J, RF w)) (fun _ => rfl) ?_
  refine z_evB (N := L) (f := xs) rfl (l_in hb hL 5 (by decide)) ?_
  refine z_evL ?_
  refine z_evG 1 (y := z_ret (z_cl (L, xs) d 163 [.ref 0, .int (xs (nI i + 1).toNatClampNeg), .int (xs (nI i + 2).toNatClampNeg), .int (xs (nI i + 3).toNatClampNeg), .int (xs (nI i + 4).toNatClampNeg), .int (xs (nI i + 5).toNatClampNeg)] (161, (I, J, RF w))) 1647 [some (.ref 1006), some (.ref 0), some (.ref 127), some (.int (nI i))] []) (fun _ => rfl) ?_
  refine z_evK (z' := 161) (σ' := (I1, J1, RF w1)) e1 ?_
  refine z_evG 6 (y := z_ild (z_ia (L, xs) 161 (I1, J1, RF w1) 1006) (nI i + 1) fun vv => z_go 1653 [some (.ref 1006), some (.ref 0), some (.ref 127), some (.int (nI i))] [.int (vv), .ref 127, .int (x)] 161 (I1, J1, RF w1)) (fun _ => rfl) ?_
  refine z_evB (N := L) (f := xs) rfl (l_in hb hL 1 (by decide)) ?_
  refine z_evL ?_
  refine z_evG 5 (y := z_ild (z_ia (L, xs) 161 (I1, J1, RF w1) 1006) (nI i + 2) fun vv => z_go 1658 [some (.ref 1006), some (.ref 0), some (.ref 127), some (.int (nI i))] [.int (vv), .int (xs (nI i + 1).toNatClampNeg), .ref 127, .int (x)] 161 (I1, J1, RF w1)) (fun _ => rfl) ?_
  refine z_evB (N := L) (f := xs) rfl (l_in hb hL 2 (by decide)) ?_
  refine z_evL ?_
  refine z_evG 5 (y := z_ild (z_ia (L, xs) 161 (I1, J1, RF w1) 1006) (nI i + 3) fun vv => z_go 1663 [some (.ref 1006), some (.ref 0), some (.ref 127), some (.int (nI i))] [.int (vv), .int (xs (nI i + 2).toNatClampNeg), .int (xs (nI i + 1).toNatClampNeg), .ref 127, .int (x)] 161 (I1, J1, RF w1)) (fun _ => rfl) ?_
  refine z_evB (N := L) (f := xs) rfl (l_in hb hL 3 (by decide)) ?_
  refine z_evL ?_
  refine z_evG 5 (y := z_ild (z_ia (L, xs) 161 (I1, J1, RF w1) 1006) (nI i + 4) fun vv => z_go 1668 [some (.ref 1006), some (.ref 0), some (.ref 127), some (.int (nI i))] [.int (vv), .int (xs (nI i + 3).toNatClampNeg), .int (xs (nI i + 2).toNatClampNeg), .int (xs (nI i + 1).toNatClampNeg), .ref 127, .int (x)] 161 (I1, J1, RF w1)) (fun _ => rfl) ?_
  refine z_evB (N := L) (f := xs) rfl (l_in hb hL 4 (by decide)) ?_
  refine z_evL ?_
  refine z_evG 5 (y := z_ild (z_ia (L, xs) 161 (I1, J1, RF w1) 1006) (nI i + 5) fun vv => z_go 1673 [some (.ref 1006), some (.ref 0), some (.ref 127), some (.int (nI i))] [.int (vv), .int (xs (nI i + 4).toNatClampNeg), .int (xs (nI i + 3).toNatClampNeg), .int (xs (nI i + 2).toNatClampNeg), .int (xs (nI i + 1).toNatClampNeg), .ref 127, .int (x)] 161 (I1, J1, RF w1)) (fun _ => rfl) ?_
  refine z_evB (N := L) (f := xs) rfl (l_in hb hL 5 (by decide)) ?_
  refine z_evL ?_
  refine z_evG 1 (y := z_ret (z_cl (L, xs) d 250 [.ref 127, .int (xs (nI i + 1).toNatClampNeg), .int (xs (nI i + 2).toNatClampNeg), .int (xs (nI i + 3).toNatClampNeg), .int (xs (nI i + 4).toNatClampNeg), .int (xs (nI i + 5).toNatClampNeg)] (161, (I1, J1, RF w1))) 1676 [some (.ref 1006), some (.ref 0), some (.ref 127), some (.int (nI i))] [.int (x)]) (fun _ => rfl) ?_
  refine z_evK (z' := 161) (σ' := (I2, J2, RF w2)) e2 ?_
  refine z_evG 1 (y := if x = x then z_go 1757 [some (.ref 1006), some (.ref 0), some (.ref 127), some (.int (nI i))] [] 161 (I2, J2, RF w2) else z_go 1679 [some (.ref 1006), some (.ref 0), some (.ref 127), some (.int (nI i))] [] 161 (I2, J2, RF w2)) (fun _ => rfl) ?_
  refine z_evT rfl ?_
  exact z_evL hz
theorem l_k_copy {L : Nat} {xs : Nat → Int32} {i : Nat} (hb : i + 6 ≤ L) (hL : L ≤ 3072) : l_ok L xs i 1618 := fun N I J w H => by
  obtain ⟨x, I1, J1, w1, I2, J2, w2, e1, e2, N2, H2⟩ := g_copy (L, xs) N I J w H (xs (nI i + 1).toNatClampNeg) (xs (nI i + 2).toNatClampNeg) (xs (nI i + 3).toNatClampNeg) (xs (nI i + 4).toNatClampNeg) (xs (nI i + 5).toNatClampNeg)
  exact ⟨N2, I2, J2, w2, H2, fun r hz => l_r_copy L xs 99 i I J w x I1 J1 w1 I2 J2 w2 hb hL e1 e2 hz⟩
theorem l_r_rowOf (L : Nat) (xs : Nat → Int32) (d i : Nat) (I : Nat → Nat → Int32) (J : Nat → Nat → Int64) (w : Nat) (x : Int32) (I1 : Nat → Nat → Int32) (J1 : Nat → Nat → Int64) (w1 : Nat) (I2 : Nat → Nat → Int32) (J2 : Nat → Nat → Int64) (w2 : Nat) {r : zR} (hb : i + 6 ≤ L) (hL : L ≤ 3072) (e1 : z_cl (L, xs) d 164 [.ref 0, .int (xs (nI i + 1).toNatClampNeg), .int (xs (nI i + 2).toNatClampNeg), .int (xs (nI i + 3).toNatClampNeg)] (161, (I, J, RF w)) = some (some (.int x), 161, (I1, J1, RF w1))) (e2 : z_cl (L, xs) d 251 [.ref 127, .int (xs (nI i + 1).toNatClampNeg), .int (xs (nI i + 2).toNatClampNeg), .int (xs (nI i + 3).toNatClampNeg)] (161, (I1, J1, RF w1)) = some (some (.int x), 161, (I2, J2, RF w2))) (hz : z_Ev (L, xs) d z_m285 1757 [some (.ref 1006), some (.ref 0), some (.ref 127), some (.int (nI i))] [] 161 (I2, J2, RF w2) r) : z_Ev (L, xs) d z_m285 1681 [some (.ref 1006), some (.ref 0), some (.ref 127), some (.int (nI i))] [] 161 (I, J, RF w) r := by
  refine z_evG 6 (y := z_ild (z_ia (L, xs) 161 (I, J, RF w) 1006) (nI i + 1) fun vv => z_go 1687 [some (.ref 1006), some (.ref 0), some (.ref 127), some (.int (nI i))] [.int (vv), .ref 0] 161 (I, J, RF w)) (fun _ => rfl) ?_
  refine z_evB (N := L) (f := xs) rfl (l_in hb hL 1 (by decide)) ?_
  refine z_evL ?_
  refine z_evG 5 (y := z_ild (z_ia (L, xs) 161 (I, J, RF w) 1006) (nI i + 2) fun vv => z_go 1692 [some (.ref 1006), some (.ref 0), some (.ref 127), some (.int (nI i))] [.int (vv), .int (xs (nI i + 1).toNatClampNeg), .ref 0] 161 (I, J, RF w)) (fun _ => rfl) ?_
  refine z_evB (N := L) (f := xs) rfl (l_in hb hL 2 (by decide)) ?_
  refine z_evL ?_
  refine z_evG 5 (y := z_ild (z_ia (L, xs) 161 (I, J, RF w) 1006) (nI i + 3) fun vv => z_go 1697 [some (.ref 1006), some (.ref 0), some (.ref 127), some (.int (nI i))] [.int (vv), .int (xs (nI i + 2).toNatClampNeg), .int (xs (nI i + 1).toNatClampNeg), .ref 0] 161 (I, J, RF w)) (fun _ => rfl) ?_
  refine z_evB (N := L) (f := xs) rfl (l_in hb hL 3 (by decide)) ?_
  refine z_evL ?_
  refine z_evG 1 (y := z_ret (z_cl (L, xs) d 164 [.ref 0, .int (xs (nI i + 1).toNatClampNeg), .int (xs (nI i + 2).toNatClampNeg), .int (xs (nI i + 3).toNatClampNeg)] (161, (I, J, RF w))) 1700 [some (.ref 1006), some (.ref 0), some (.ref 127), some (.int (nI i))] []) (fun _ => rfl) ?_
  refine z_evK (z' := 161) (σ' := (I1, J1, RF w1)) e1 ?_
  refine z_evG 6 (y := z_ild (z_ia (L, xs) 161 (I1, J1, RF w1) 1006) (nI i + 1) fun vv => z_go 1706 [some (.ref 1006), some (.ref 0), some (.ref 127), some (.int (nI i))] [.int (vv), .ref 127, .int (x)] 161 (I1, J1, RF w1)) (fun _ => rfl) ?_
  refine z_evB (N := L) (f := xs) rfl (l_in hb hL 1 (by decide)) ?_
  refine z_evL ?_
  refine z_evG 5 (y := z_ild (z_ia (L, xs) 161 (I1, J1, RF w1) 1006) (nI i + 2) fun vv => z_go 1711 [some (.ref 1006), some (.ref 0), some (.ref 127), some (.int (nI i))] [.int (vv), .int (xs (nI i + 1).toNatClampNeg), .ref 127, .int (x)] 161 (I1, J1, RF w1)) (fun _ => rfl) ?_
  refine z_evB (N := L) (f := xs) rfl (l_in hb hL 2 (by decide)) ?_
  refine z_evL ?_
  refine z_evG 5 (y := z_ild (z_ia (L, xs) 161 (I1, J1, RF w1) 1006) (nI i + 3) fun vv => z_go 1716 [some (.ref 1006), some (.ref 0), some (.ref 127), some (.int (nI i))] [.int (vv), .int (xs (nI i + 2).toNatClampNeg), .int (xs (nI i + 1).toNatClampNeg), .ref 127, .int (x)] 161 (I1, J1, RF w1)) (fun _ => rfl) ?_
  refine z_evB (N := L) (f := xs) rfl (l_in hb hL 3 (by decide)) ?_
  refine z_evL ?_
  refine z_evG 1 (y := z_ret (z_cl (L, xs) d 251 [.ref 127, .int (xs (nI i + 1).toNatClampNeg), .int (xs (nI i + 2).toNatClampNeg), .int (xs (nI i + 3).toNatClampNeg)] (161, (I1, J1, RF w1))) 1719 [some (.ref 1006), some (.ref 0), some (.ref 127), some (.int (nI i))] [.int (x)]) (fun _ => rfl) ?_
  refine z_evK (z' := 161) (σ' := (I2, J2, RF w2)) e2 ?_
  refine z_evG 1 (y := if x = x then z_go 1757 [some (.ref 1006), some (.ref 0), some (.ref 127), some (.int (nI i))] [] 161 (I2, J2, RF w2) else z_go 1722 [some (.ref 1006), some (.ref 0), some (.ref 127), some (.int (nI i))] [] 161 (I2, J2, RF w2)) (fun _ => rfl) ?_
  refine z_evT rfl ?_
  exact z_evL hz
theorem l_k_rowOf {L : Nat} {xs : Nat → Int32} {i : Nat} (hb : i + 6 ≤ L) (hL : L ≤ 3072) : l_ok L xs i 1681 := fun N I J w H => by
  obtain ⟨x, I1, J1, w1, I2, J2, w2, e1, e2, N2, H2⟩ := g_rowOf (L, xs) N I J w H (xs (nI i + 1).toNatClampNeg) (xs (nI i + 2).toNatClampNeg) (xs (nI i + 3).toNatClampNeg)
  exact ⟨N2, I2, J2, w2, H2, fun r hz => l_r_rowOf L xs 99 i I J w x I1 J1 w1 I2 J2 w2 hb hL e1 e2 hz⟩
theorem l_r_taken (L : Nat) (xs : Nat → Int32) (d i : Nat) (I : Nat → Nat → Int32) (J : Nat → Nat → Int64) (w : Nat) (x : Int32) (I1 : Nat → Nat → Int32) (J1 : Nat → Nat → Int64) (w1 : Nat) (I2 : Nat → Nat → Int32) (J2 : Nat → Nat → Int64) (w2 : Nat) {r : zR} (hb : i + 6 ≤ L) (hL : L ≤ 3072) (e1 : z_cl (L, xs) d 165 [.ref 0, .int (xs (nI i + 1).toNatClampNeg), .int (xs (nI i + 2).toNatClampNeg)] (161, (I, J, RF w)) = some (some (.int x), 161, (I1, J1, RF w1))) (e2 : z_cl (L, xs) d 252 [.ref 127, .int (xs (nI i + 1).toNatClampNeg), .int (xs (nI i + 2).toNatClampNeg)] (161, (I1, J1, RF w1)) = some (some (.int x), 161, (I2, J2, RF w2))) (hz : z_Ev (L, xs) d z_m285 1757 [some (.ref 1006), some (.ref 0), some (.ref 127), some (.int (nI i))] [] 161 (I2, J2, RF w2) r) : z_Ev (L, xs) d z_m285 1724 [some (.ref 1006), some (.ref 0), some (.ref 127), some (.int (nI i))] [] 161 (I, J, RF w) r := by
  refine z_evG 6 (y := z_ild (z_ia (L, xs) 161 (I, J, RF w) 1006) (nI i + 1) fun vv => z_go 1730 [some (.ref 1006), some (.ref 0), some (.ref 127), some (.int (nI i))] [.int (vv), .ref 0] 161 (I, J, RF w)) (fun _ => rfl) ?_
  refine z_evB (N := L) (f := xs) rfl (l_in hb hL 1 (by decide)) ?_
  refine z_evL ?_
  refine z_evG 5 (y := z_ild (z_ia (L, xs) 161 (I, J, RF w) 1006) (nI i + 2) fun vv => z_go 1735 [some (.ref 1006), some (.ref 0), some (.ref 127), some (.int (nI i))] [.int (vv), .int (xs (nI i + 1).toNatClampNeg), .ref 0] 161 (I, J, RF w)) (fun _ => rfl) ?_
  refine z_evB (N := L) (f := xs) rfl (l_in hb hL 2 (by decide)) ?_
  refine z_evL ?_
  refine z_evG 1 (y := z_ret (z_cl (L, xs) d 165 [.ref 0, .int (xs (nI i + 1).toNatClampNeg), .int (xs (nI i + 2).toNatClampNeg)] (161, (I, J, RF w))) 1738 [some (.ref 1006), some (.ref 0), some (.ref 127), some (.int (nI i))] []) (fun _ => rfl) ?_
  refine z_evK (z' := 161) (σ' := (I1, J1, RF w1)) e1 ?_
  refine z_evG 6 (y := z_ild (z_ia (L, xs) 161 (I1, J1, RF w1) 1006) (nI i + 1) fun vv => z_go 1744 [some (.ref 1006), some (.ref 0), some (.ref 127), some (.int (nI i))] [.int (vv), .ref 127, .int (x)] 161 (I1, J1, RF w1)) (fun _ => rfl) ?_
  refine z_evB (N := L) (f := xs) rfl (l_in hb hL 1 (by decide)) ?_
  refine z_evL ?_
  refine z_evG 5 (y := z_ild (z_ia (L, xs) 161 (I1, J1, RF w1) 1006) (nI i + 2) fun vv => z_go 1749 [some (.ref 1006), some (.ref 0), some (.ref 127), some (.int (nI i))] [.int (vv), .int (xs (nI i + 1).toNatClampNeg), .ref 127, .int (x)] 161 (I1, J1, RF w1)) (fun _ => rfl) ?_
  refine z_evB (N := L) (f := xs) rfl (l_in hb hL 2 (by decide)) ?_
  refine z_evL ?_
  refine z_evG 1 (y := z_ret (z_cl (L, xs) d 252 [.ref 127, .int (xs (nI i + 1).toNatClampNeg), .int (xs (nI i + 2).toNatClampNeg)] (161, (I1, J1, RF w1))) 1752 [some (.ref 1006), some (.ref 0), some (.ref 127), some (.int (nI i))] [.int (x)]) (fun _ => rfl) ?_
  refine z_evK (z' := 161) (σ' := (I2, J2, RF w2)) e2 ?_
  refine z_evG 1 (y := if x = x then z_go 1757 [some (.ref 1006), some (.ref 0), some (.ref 127), some (.int (nI i))] [] 161 (I2, J2, RF w2) else z_go 1755 [some (.ref 1006), some (.ref 0), some (.ref 127), some (.int (nI i))] [] 161 (I2, J2, RF w2)) (fun _ => rfl) ?_
  refine z_evT rfl ?_
  exact z_evL hz
theorem l_k_taken {L : Nat} {xs : Nat → Int32} {i : Nat} (hb : i + 6 ≤ L) (hL : L ≤ 3072) : l_ok L xs i 1724 := fun N I J w H => by
  obtain ⟨x, I1, J1, w1, I2, J2, w2, e1, e2, N2, H2⟩ := g_taken (L, xs) N I J w H (xs (nI i + 1).toNatClampNeg) (xs (nI i + 2).toNatClampNeg)
  exact ⟨N2, I2, J2, w2, H2, fun r hz => l_r_taken L xs 99 i I J w x I1 J1 w1 I2 J2 w2 hb hL e1 e2 hz⟩
theorem l_all {L : Nat} {xs : Nat → Int32} {i : Nat} (hb : i + 6 ≤ L) (hL : L ≤ 3072) : ∀ pc, pc ∈ [1757, 200, 223, 316, 349, 392, 425, 448, 491, 524, 557, 600, 644, 687, 730, 793, 806, 829, 873, 926, 980, 1033, 1096, 1129, 1152, 1175, 1218, 1251, 1284, 1337, 1390, 1443, 1476, 1509, 1532, 1575, 1618, 1681, 1724] → l_ok L xs i pc := by
  have h0 : l_ok L xs i 1757 := fun N I J w H => ⟨N, I, J, w, H, fun r h => h⟩
  refine List.forall_mem_cons.mpr ⟨h0, ?_⟩
  refine List.forall_mem_cons.mpr ⟨l_k_pass hb hL, ?_⟩
  refine List.forall_mem_cons.mpr ⟨l_k_row hb hL, ?_⟩
  refine List.forall_mem_cons.mpr ⟨l_k_rowTold hb hL, ?_⟩
  refine List.forall_mem_cons.mpr ⟨l_k_thing hb hL, ?_⟩
  refine List.forall_mem_cons.mpr ⟨l_k_thingTold hb hL, ?_⟩
  refine List.forall_mem_cons.mpr ⟨l_k_light hb hL, ?_⟩
  refine List.forall_mem_cons.mpr ⟨l_k_shine hb hL, ?_⟩
  refine List.forall_mem_cons.mpr ⟨l_k_both hb hL, ?_⟩
  refine List.forall_mem_cons.mpr ⟨l_k_lightTold hb hL, ?_⟩
  refine List.forall_mem_cons.mpr ⟨l_k_eye hb hL, ?_⟩
  refine List.forall_mem_cons.mpr ⟨l_k_seen hb hL, ?_⟩
  refine List.forall_mem_cons.mpr ⟨l_k_same hb hL, ?_⟩
  refine List.forall_mem_cons.mpr ⟨l_k_twins hb hL, ?_⟩
  refine List.forall_mem_cons.mpr ⟨l_k_feed hb hL, ?_⟩
  refine List.forall_mem_cons.mpr ⟨l_k_text hb hL, ?_⟩
  refine List.forall_mem_cons.mpr ⟨l_k_force hb hL, ?_⟩
  refine List.forall_mem_cons.mpr ⟨l_k_like hb hL, ?_⟩
  refine List.forall_mem_cons.mpr ⟨l_k_mixed hb hL, ?_⟩
  refine List.forall_mem_cons.mpr ⟨l_k_trueOf hb hL, ?_⟩
  refine List.forall_mem_cons.mpr ⟨l_k_worst hb hL, ?_⟩
  refine List.forall_mem_cons.mpr ⟨l_k_layers hb hL, ?_⟩
  refine List.forall_mem_cons.mpr ⟨l_k_plate hb hL, ?_⟩
  refine List.forall_mem_cons.mpr ⟨l_k_reads hb hL, ?_⟩
  refine List.forall_mem_cons.mpr ⟨l_k_chart hb hL, ?_⟩
  refine List.forall_mem_cons.mpr ⟨l_k_age hb hL, ?_⟩
  refine List.forall_mem_cons.mpr ⟨l_k_still hb hL, ?_⟩
  refine List.forall_mem_cons.mpr ⟨l_k_flicker hb hL, ?_⟩
  refine List.forall_mem_cons.mpr ⟨l_k_film hb hL, ?_⟩
  refine List.forall_mem_cons.mpr ⟨l_k_stripes hb hL, ?_⟩
  refine List.forall_mem_cons.mpr ⟨l_k_quietest hb hL, ?_⟩
  refine List.forall_mem_cons.mpr ⟨l_k_filter hb hL, ?_⟩
  refine List.forall_mem_cons.mpr ⟨l_k_hidden hb hL, ?_⟩
  refine List.forall_mem_cons.mpr ⟨l_k_count hb hL, ?_⟩
  refine List.forall_mem_cons.mpr ⟨l_k_sheet hb hL, ?_⟩
  refine List.forall_mem_cons.mpr ⟨l_k_cell hb hL, ?_⟩
  refine List.forall_mem_cons.mpr ⟨l_k_copy hb hL, ?_⟩
  refine List.forall_mem_cons.mpr ⟨l_k_rowOf hb hL, ?_⟩
  refine List.forall_mem_cons.mpr ⟨l_k_taken hb hL, ?_⟩
  exact fun _ h => absurd h List.not_mem_nil
theorem l_loop (L : Nat) (xs : Nat → Int32) (hL : L ≤ 3072) : ∀ n i I J w N, L ≤ i + n → i ≤ L + 6 → v_Inv N I J → ∃ τ, z_Ev (L, xs) 99 z_m285 18 [some (.ref 1006), some (.ref 0), some (.ref 127), some (.int (nI i))] [] 161 (I, J, RF w) (some (.int 1), 161, τ) := by
  intro n
  induction n with
  | zero => exact fun i I J w N h1 h2 H => ⟨_, l_end L xs 99 i I J w hL (by omega) (by omega)⟩
  | succ n ih =>
    intro i I J w N h1 h2 H
    by_cases q : L < i + 6
    · exact ⟨_, l_end L xs 99 i I J w hL (by omega) q⟩
    · obtain ⟨pc, p1, p2⟩ := l_disp L xs 99 i I J w hL (by omega)
      obtain ⟨N2, I2, J2, w2, H2, k⟩ := l_all (L := L) (xs := xs) (i := i) (by omega) hL pc p1 N I J w H
      obtain ⟨τ, t⟩ := ih (i + 6) I2 J2 w2 N2 (by omega) (by omega) H2
      exact ⟨τ, l_head L xs 99 i I J w hL (by omega) (by omega) (p2 _ (k _ (l_next L xs 99 i I2 J2 w2 t)))⟩
