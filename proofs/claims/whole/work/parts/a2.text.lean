-- TEXT, by the class and by the reference
set_option maxRecDepth 20000 in
/-- LampHouse$Rules.add -/
theorem x_rules_add (E : zE) (d : Nat) (I : Nat → Nat → Int32) (J : Nat → Nat → Int64) (w : Nat) (m c : Nat) (h_m : I 79 6 = nI m) (hm : m < 6) (h_c : I 76 7 = nI c) (hc : c ≤ 160) : z_cl E (d + 2) 86 [.ref 79, .ref 76] (161, I, J, RF w) = some (some (.int (nI m)), 161, (z_u2 (z_u2 (z_u2 (z_ur I (81 + m) (va_cpy (I 78) (I (81 + m)) 0 0 c)) 87 m ((z_ur I (81 + m) (va_cpy (I 78) (I (81 + m)) 0 0 c)) 76 8)) 88 m ((z_u2 (z_ur I (81 + m) (va_cpy (I 78) (I (81 + m)) 0 0 c)) 87 m ((z_ur I (81 + m) (va_cpy (I 78) (I (81 + m)) 0 0 c)) 76 8)) 76 7)) 79 6 (nI (m + 1))), J, RF w) := by
  refine z_call (d := d + 1) (M := z_m86) rfl rfl ?_
  refine z_evG 2 (y := z_ret (z_cl E (d + 1) 61 [.ref 76] (161, (I, J, RF w))) 4 [some (.ref 79), some (.ref 76)] []) (fun _ => rfl) ?_
  refine z_evK (v := .ref 78) (z' := 161) (σ' := (I, J, RF w)) (x_reader_code E d I J w) ?_
  refine z_evG 6 (y := z_ck (z_in (I 79 6) 6) (z_go 14 [some (.ref 79), some (.ref 76)] [.ref (81 + (I 79 6).toNatClampNeg), .int 0, .ref 78] 161 (I, J, RF w))) (fun _ => rfl) ?_
  refine z_evC (z_inN (k := m) h_m (by omega) (by decide)) ?_
  refine z_evL ?_
  rw [show ((I 79 6 : Int32)).toNatClampNeg = m from z_natE h_m (by omega)]
  refine z_evG 3 (y := z_ret (z_cl E (d + 1) 62 [.ref 76] (161, (I, J, RF w))) 19 [some (.ref 79), some (.ref 76)] [.int 0, .ref (81 + m), .int 0, .ref 78]) (fun _ => rfl) ?_
  refine z_evK (v := .int (I 76 7)) (z' := 161) (σ' := (I, J, RF w)) (x_reader_codeSize E d I J w) ?_
  refine z_evG 1 (y := z_copy E 161 (I, J, RF w) 78 (81 + m) 0 0 (I 76 7) fun z σ => z_go 22 [some (.ref 79), some (.ref 76)] [] z σ) (fun _ => rfl) ?_
  refine z_evYn (N := 160) (m := 160) (f := I 78) (a := 0) (b := 0) (c := c) rfl (z_A_codes m (by omega)) rfl rfl h_c (by omega) (by omega) (by decide) (by decide) ?_
  refine z_evL ?_
  refine z_evG 6 (y := z_ret (z_cl E (d + 1) 63 [.ref 76] (161, ((z_ur I (81 + m) (va_cpy (I 78) (I (81 + m)) 0 0 c)), J, RF w))) 34 [some (.ref 79), some (.ref 76)] [.int ((z_ur I (81 + m) (va_cpy (I 78) (I (81 + m)) 0 0 c)) 79 6), .ref 87]) (fun _ => rfl) ?_
  refine z_evK (v := .int ((z_ur I (81 + m) (va_cpy (I 78) (I (81 + m)) 0 0 c)) 76 8)) (z' := 161) (σ' := ((z_ur I (81 + m) (va_cpy (I 78) (I (81 + m)) 0 0 c)), J, RF w)) (x_reader_trueStart E d (z_ur I (81 + m) (va_cpy (I 78) (I (81 + m)) 0 0 c)) J w) ?_
  refine z_evG 1 (y := z_ck (z_in ((z_ur I (81 + m) (va_cpy (I 78) (I (81 + m)) 0 0 c)) 79 6) 6) (z_go 35 [some (.ref 79), some (.ref 76)] [] 161 ((z_u2 (z_ur I (81 + m) (va_cpy (I 78) (I (81 + m)) 0 0 c)) 87 (((z_ur I (81 + m) (va_cpy (I 78) (I (81 + m)) 0 0 c)) 79 6).toNatClampNeg) ((z_ur I (81 + m) (va_cpy (I 78) (I (81 + m)) 0 0 c)) 76 8)), J, RF w))) (fun _ => rfl) ?_
  refine z_evC (z_inN (k := m) (by rw [z_ur_n _ _ (by omega)]; exact h_m) (by omega) (by decide)) ?_
  refine z_evL ?_
  rw [show (((z_ur I (81 + m) (va_cpy (I 78) (I (81 + m)) 0 0 c)) 79 6 : Int32)).toNatClampNeg = m from z_natE (by rw [z_ur_n _ _ (by omega)]; exact h_m) (by omega)]
  refine z_evG 6 (y := z_ret (z_cl E (d + 1) 62 [.ref 76] (161, ((z_u2 (z_ur I (81 + m) (va_cpy (I 78) (I (81 + m)) 0 0 c)) 87 m ((z_ur I (81 + m) (va_cpy (I 78) (I (81 + m)) 0 0 c)) 76 8)), J, RF w))) 47 [some (.ref 79), some (.ref 76)] [.int ((z_ur I (81 + m) (va_cpy (I 78) (I (81 + m)) 0 0 c)) 79 6), .ref 88]) (fun _ => rfl) ?_
  refine z_evK (v := .int ((z_u2 (z_ur I (81 + m) (va_cpy (I 78) (I (81 + m)) 0 0 c)) 87 m ((z_ur I (81 + m) (va_cpy (I 78) (I (81 + m)) 0 0 c)) 76 8)) 76 7)) (z' := 161) (σ' := ((z_u2 (z_ur I (81 + m) (va_cpy (I 78) (I (81 + m)) 0 0 c)) 87 m ((z_ur I (81 + m) (va_cpy (I 78) (I (81 + m)) 0 0 c)) 76 8)), J, RF w)) (x_reader_codeSize E d (z_u2 (z_ur I (81 + m) (va_cpy (I 78) (I (81 + m)) 0 0 c)) 87 m ((z_ur I (81 + m) (va_cpy (I 78) (I (81 + m)) 0 0 c)) 76 8)) J w) ?_
  refine z_evG 1 (y := z_ck (z_in ((z_ur I (81 + m) (va_cpy (I 78) (I (81 + m)) 0 0 c)) 79 6) 6) (z_go 48 [some (.ref 79), some (.ref 76)] [] 161 ((z_u2 (z_u2 (z_ur I (81 + m) (va_cpy (I 78) (I (81 + m)) 0 0 c)) 87 m ((z_ur I (81 + m) (va_cpy (I 78) (I (81 + m)) 0 0 c)) 76 8)) 88 (((z_ur I (81 + m) (va_cpy (I 78) (I (81 + m)) 0 0 c)) 79 6).toNatClampNeg) ((z_u2 (z_ur I (81 + m) (va_cpy (I 78) (I (81 + m)) 0 0 c)) 87 m ((z_ur I (81 + m) (va_cpy (I 78) (I (81 + m)) 0 0 c)) 76 8)) 76 7)), J, RF w))) (fun _ => rfl) ?_
  refine z_evC (z_inN (k := m) (by rw [z_ur_n _ _ (by omega)]; exact h_m) (by omega) (by decide)) ?_
  refine z_evL ?_
  rw [show (((z_ur I (81 + m) (va_cpy (I 78) (I (81 + m)) 0 0 c)) 79 6 : Int32)).toNatClampNeg = m from z_natE (by rw [z_ur_n _ _ (by omega)]; exact h_m) (by omega)]
  refine z_evG 8 (y := some (.inr (some (.int ((z_ur I (81 + m) (va_cpy (I 78) (I (81 + m)) 0 0 c)) 79 6)), 161, (z_u2 (z_u2 (z_u2 (z_ur I (81 + m) (va_cpy (I 78) (I (81 + m)) 0 0 c)) 87 m ((z_ur I (81 + m) (va_cpy (I 78) (I (81 + m)) 0 0 c)) 76 8)) 88 m ((z_u2 (z_ur I (81 + m) (va_cpy (I 78) (I (81 + m)) 0 0 c)) 87 m ((z_ur I (81 + m) (va_cpy (I 78) (I (81 + m)) 0 0 c)) 76 8)) 76 7)) 79 6 (((z_ur I (81 + m) (va_cpy (I 78) (I (81 + m)) 0 0 c)) 79 6) + 1)), J, RF w))) (fun _ => rfl) ?_
  rw [show (((z_ur I (81 + m) (va_cpy (I 78) (I (81 + m)) 0 0 c)) 79 6) + 1 : Int32) = nI (m + 1) from (z_addE (by rw [z_ur_n _ _ (by omega)]; exact h_m) rfl)]
  rw [show ((z_ur I (81 + m) (va_cpy (I 78) (I (81 + m)) 0 0 c)) 79 6 : Int32) = nI m from (by rw [z_ur_n _ _ (by omega)]; exact h_m)]
  exact z_evR rfl
set_option maxRecDepth 20000 in
theorem x_text_full (E : zE) (d : Nat) (I : Nat → Nat → Int32) (J : Nat → Nat → Int64) (w : Nat) (m : Nat) (h_m : I 79 6 = nI m) (hm : m = 6) : z_Ev E (d + 45) z_m142 0 [some (.ref 0), none] [] 161 (I, J, RF w) (some (.int (-4)), 161, I, J, RF w) := by
  refine z_evG 3 (y := z_ret (z_cl E (d + 45) 83 [.ref 79] (161, (I, J, RF w))) 7 [some (.ref 0), none] []) (fun _ => rfl) ?_
  refine z_evK (v := .int (z_bo (¬ I 79 6 < 6))) (z' := 161) (σ' := (I, J, RF w)) (x_rules_isFull E (d + 44) I J w) ?_
  refine z_evG 1 (y := if (z_bo (¬ I 79 6 < 6)) = 0 then z_go 13 [some (.ref 0), none] [] 161 (I, J, RF w) else z_go 10 [some (.ref 0), none] [] 161 (I, J, RF w)) (fun _ => rfl) ?_
  refine z_evF (fun q0 => z_bo_0.mp q0 (mt (show _ ↔ m < 6 from z_ltN h_m rfl (by omega) (by omega)).mp (by omega))) ?_
  refine z_evL ?_
  refine z_evG 2 (y := some (.inr (some (.int (-4)), 161, I, J, RF w))) (fun _ => rfl) ?_
  exact z_evR rfl
set_option maxRecDepth 20000 in
theorem x_text_bad (E : zE) (d : Nat) (I : Nat → Nat → Int32) (J : Nat → Nat → Int64) (w : Nat) (m : Nat) (I1 : Nat → Nat → Int32) (h_m : I 79 6 = nI m) (hm : m < 6) (hr : z_cl E (d + 45) 64 [.ref 76] (161, I, J, RF w) = some (some (.int 0), 161, I1, J, RF w)) : z_Ev E (d + 45) z_m142 0 [some (.ref 0), none] [] 161 (I, J, RF w) (some (.int ((-100) - (I1 76 3))), 161, (z_u2 I1 76 1 0), J, RF w) := by
  refine z_evG 3 (y := z_ret (z_cl E (d + 45) 83 [.ref 79] (161, (I, J, RF w))) 7 [some (.ref 0), none] []) (fun _ => rfl) ?_
  refine z_evK (v := .int (z_bo (¬ I 79 6 < 6))) (z' := 161) (σ' := (I, J, RF w)) (x_rules_isFull E (d + 44) I J w) ?_
  refine z_evG 1 (y := if (z_bo (¬ I 79 6 < 6)) = 0 then z_go 13 [some (.ref 0), none] [] 161 (I, J, RF w) else z_go 10 [some (.ref 0), none] [] 161 (I, J, RF w)) (fun _ => rfl) ?_
  refine z_evT (z_bo_0.mpr (fun q0 => q0 ((show _ ↔ m < 6 from z_ltN h_m rfl (by omega) (by omega)).mpr (by omega)))) ?_
  refine z_evL ?_
  refine z_evG 3 (y := z_ret (z_cl E (d + 45) 64 [.ref 76] (161, (I, J, RF w))) 20 [some (.ref 0), none] []) (fun _ => rfl) ?_
  refine z_evK (v := .int 0) (z' := 161) (σ' := (I1, J, RF w)) hr ?_
  refine z_evG 1 (y := if 0 = 0 then z_go 37 [some (.ref 0), none] [] 161 (I1, J, RF w) else z_go 23 [some (.ref 0), none] [] 161 (I1, J, RF w)) (fun _ => rfl) ?_
  refine z_evI (fun _ => ?_) (fun q => absurd (by decide) q)
  refine z_evL ?_
  refine z_evG 4 (y := z_ret (z_cl E (d + 45) 60 [.ref 76] (161, (I1, J, RF w))) 46 [some (.ref 0), none] [.int (-100)]) (fun _ => rfl) ?_
  refine z_evK (v := .int (I1 76 3)) (z' := 161) (σ' := (I1, J, RF w)) (x_reader_place E (d + 44) I1 J w) ?_
  refine z_evG 5 (y := z_ret (z_cl E (d + 45) 59 [.ref 76] (161, (I1, J, RF w))) 55 [some (.ref 0), some (.int ((-100) - (I1 76 3)))] []) (fun _ => rfl) ?_
  refine z_evV (z' := 161) (σ' := ((z_u2 I1 76 1 0), J, RF w)) (x_reader_empty E (d + 44) I1 J w) ?_
  refine z_evG 2 (y := some (.inr (some (.int ((-100) - (I1 76 3))), 161, (z_u2 I1 76 1 0), J, RF w))) (fun _ => rfl) ?_
  exact z_evR rfl
set_option maxRecDepth 20000 in
theorem x_text_ok (E : zE) (d : Nat) (I : Nat → Nat → Int32) (J : Nat → Nat → Int64) (w : Nat) (m c : Nat) (I1 : Nat → Nat → Int32) (h_m : I 79 6 = nI m) (hm : m < 6) (hr : z_cl E (d + 45) 64 [.ref 76] (161, I, J, RF w) = some (some (.int 1), 161, I1, J, RF w)) (h_n : I1 79 6 = nI m) (h_c : I1 76 7 = nI c) (hc : c ≤ 160) : z_Ev E (d + 45) z_m142 0 [some (.ref 0), none] [] 161 (I, J, RF w) (some (.int (nI m)), 161, (z_u2 (z_u2 (z_u2 (z_u2 (z_ur I1 (81 + m) (va_cpy (I1 78) (I1 (81 + m)) 0 0 c)) 87 m ((z_ur I1 (81 + m) (va_cpy (I1 78) (I1 (81 + m)) 0 0 c)) 76 8)) 88 m ((z_u2 (z_ur I1 (81 + m) (va_cpy (I1 78) (I1 (81 + m)) 0 0 c)) 87 m ((z_ur I1 (81 + m) (va_cpy (I1 78) (I1 (81 + m)) 0 0 c)) 76 8)) 76 7)) 79 6 (nI (m + 1))) 76 1 0), J, RF w) := by
  refine z_evG 3 (y := z_ret (z_cl E (d + 45) 83 [.ref 79] (161, (I, J, RF w))) 7 [some (.ref 0), none] []) (fun _ => rfl) ?_
  refine z_evK (v := .int (z_bo (¬ I 79 6 < 6))) (z' := 161) (σ' := (I, J, RF w)) (x_rules_isFull E (d + 44) I J w) ?_
  refine z_evG 1 (y := if (z_bo (¬ I 79 6 < 6)) = 0 then z_go 13 [some (.ref 0), none] [] 161 (I, J, RF w) else z_go 10 [some (.ref 0), none] [] 161 (I, J, RF w)) (fun _ => rfl) ?_
  refine z_evT (z_bo_0.mpr (fun q0 => q0 ((show _ ↔ m < 6 from z_ltN h_m rfl (by omega) (by omega)).mpr (by omega)))) ?_
  refine z_evL ?_
  refine z_evG 3 (y := z_ret (z_cl E (d + 45) 64 [.ref 76] (161, (I, J, RF w))) 20 [some (.ref 0), none] []) (fun _ => rfl) ?_
  refine z_evK (v := .int 1) (z' := 161) (σ' := (I1, J, RF w)) hr ?_
  refine z_evG 1 (y := if 1 = 0 then z_go 37 [some (.ref 0), none] [] 161 (I1, J, RF w) else z_go 23 [some (.ref 0), none] [] 161 (I1, J, RF w)) (fun _ => rfl) ?_
  refine z_evI (fun q => absurd q (by decide)) (fun _ => ?_)
  refine z_evL ?_
  refine z_evG 5 (y := z_ret (z_cl E (d + 45) 86 [.ref 79, .ref 76] (161, (I1, J, RF w))) 34 [some (.ref 0), none] []) (fun _ => rfl) ?_
  refine z_evK (v := .int (nI m)) (z' := 161) (σ' := ((z_u2 (z_u2 (z_u2 (z_ur I1 (81 + m) (va_cpy (I1 78) (I1 (81 + m)) 0 0 c)) 87 m ((z_ur I1 (81 + m) (va_cpy (I1 78) (I1 (81 + m)) 0 0 c)) 76 8)) 88 m ((z_u2 (z_ur I1 (81 + m) (va_cpy (I1 78) (I1 (81 + m)) 0 0 c)) 87 m ((z_ur I1 (81 + m) (va_cpy (I1 78) (I1 (81 + m)) 0 0 c)) 76 8)) 76 7)) 79 6 (nI (m + 1))), J, RF w)) (x_rules_add E (d + 43) I1 J w m c h_n (by omega) h_c (by omega)) ?_
  refine z_evG 5 (y := z_ret (z_cl E (d + 45) 59 [.ref 76] (161, ((z_u2 (z_u2 (z_u2 (z_ur I1 (81 + m) (va_cpy (I1 78) (I1 (81 + m)) 0 0 c)) 87 m ((z_ur I1 (81 + m) (va_cpy (I1 78) (I1 (81 + m)) 0 0 c)) 76 8)) 88 m ((z_u2 (z_ur I1 (81 + m) (va_cpy (I1 78) (I1 (81 + m)) 0 0 c)) 87 m ((z_ur I1 (81 + m) (va_cpy (I1 78) (I1 (81 + m)) 0 0 c)) 76 8)) 76 7)) 79 6 (nI (m + 1))), J, RF w))) 55 [some (.ref 0), some (.int (nI m))] []) (fun _ => rfl) ?_
  refine z_evV (z' := 161) (σ' := ((z_u2 (z_u2 (z_u2 (z_u2 (z_ur I1 (81 + m) (va_cpy (I1 78) (I1 (81 + m)) 0 0 c)) 87 m ((z_ur I1 (81 + m) (va_cpy (I1 78) (I1 (81 + m)) 0 0 c)) 76 8)) 88 m ((z_u2 (z_ur I1 (81 + m) (va_cpy (I1 78) (I1 (81 + m)) 0 0 c)) 87 m ((z_ur I1 (81 + m) (va_cpy (I1 78) (I1 (81 + m)) 0 0 c)) 76 8)) 76 7)) 79 6 (nI (m + 1))) 76 1 0), J, RF w)) (x_reader_empty E (d + 44) (z_u2 (z_u2 (z_u2 (z_ur I1 (81 + m) (va_cpy (I1 78) (I1 (81 + m)) 0 0 c)) 87 m ((z_ur I1 (81 + m) (va_cpy (I1 78) (I1 (81 + m)) 0 0 c)) 76 8)) 88 m ((z_u2 (z_ur I1 (81 + m) (va_cpy (I1 78) (I1 (81 + m)) 0 0 c)) 87 m ((z_ur I1 (81 + m) (va_cpy (I1 78) (I1 (81 + m)) 0 0 c)) 76 8)) 76 7)) 79 6 (nI (m + 1))) J w) ?_
  refine z_evG 2 (y := some (.inr (some (.int (nI m)), 161, (z_u2 (z_u2 (z_u2 (z_u2 (z_ur I1 (81 + m) (va_cpy (I1 78) (I1 (81 + m)) 0 0 c)) 87 m ((z_ur I1 (81 + m) (va_cpy (I1 78) (I1 (81 + m)) 0 0 c)) 76 8)) 88 m ((z_u2 (z_ur I1 (81 + m) (va_cpy (I1 78) (I1 (81 + m)) 0 0 c)) 87 m ((z_ur I1 (81 + m) (va_cpy (I1 78) (I1 (81 + m)) 0 0 c)) 76 8)) 76 7)) 79 6 (nI (m + 1))) 76 1 0), J, RF w))) (fun _ => rfl) ?_
  exact z_evR rfl
set_option maxRecDepth 20000 in
theorem m_text_full (E : zE) (d : Nat) (I : Nat → Nat → Int32) (J : Nat → Nat → Int64) (w : Nat) (m : Nat) (h_m : I 127 16 = nI m) (hm : m = 6) : z_Ev E (d + 6) z_m215 0 [some (.ref 127), none, none, none] [] 161 (I, J, RF w) (some (.int (-4)), 161, I, J, RF w) := by
  refine z_evG 4 (y := if (I 127 16) = 6 then z_go 9 [some (.ref 127), none, none, none] [] 161 (I, J, RF w) else z_go 12 [some (.ref 127), none, none, none] [] 161 (I, J, RF w)) (fun _ => rfl) ?_
  refine z_evT (((show _ ↔ m = 6 from z_eqN h_m rfl (by omega) (by omega)).mpr (by omega))) ?_
  refine z_evL ?_
  refine z_evG 2 (y := some (.inr (some (.int (-4)), 161, I, J, RF w))) (fun _ => rfl) ?_
  exact z_evR rfl
set_option maxRecDepth 20000 in
theorem m_text_bad (E : zE) (d : Nat) (I : Nat → Nat → Int32) (J : Nat → Nat → Int64) (w : Nat) (m : Nat) (x : Int32) (I1 : Nat → Nat → Int32) (h_m : I 127 16 = nI m) (hm : m < 6) (hr : z_cl E (d + 6) 214 [.ref 127, .int (-1)] (161, I, J, RF w) = some (some (.int x), 161, I1, J, RF w)) (hx : ¬ x < 0) : z_Ev E (d + 6) z_m215 0 [some (.ref 127), none, none, none] [] 161 (I, J, RF w) (some (.int ((-100) - x)), 161, (z_u2 I1 127 15 0), J, RF w) := by
  refine z_evG 4 (y := if (I 127 16) = 6 then z_go 9 [some (.ref 127), none, none, none] [] 161 (I, J, RF w) else z_go 12 [some (.ref 127), none, none, none] [] 161 (I, J, RF w)) (fun _ => rfl) ?_
  refine z_evF (mt (z_eqN (b := 6) h_m rfl (by omega) (by decide)).mp (by omega)) ?_
  refine z_evL ?_
  refine z_evG 3 (y := z_ret (z_cl E (d + 6) 214 [.ref 127, .int (-1)] (161, (I, J, RF w))) 17 [some (.ref 127), none, none, none] []) (fun _ => rfl) ?_
  refine z_evK (v := .int x) (z' := 161) (σ' := (I1, J, RF w)) hr ?_
  refine z_evG 9 (y := if x < 0 then z_go 37 [some (.ref 127), some (.int x), some (.int (I1 127 15)), none] [] 161 ((z_u2 I1 127 15 0), J, RF w) else z_go 32 [some (.ref 127), some (.int x), some (.int (I1 127 15)), none] [] 161 ((z_u2 I1 127 15 0), J, RF w)) (fun _ => rfl) ?_
  refine z_evF hx ?_
  refine z_evL ?_
  refine z_evG 4 (y := some (.inr (some (.int ((-100) - x)), 161, (z_u2 I1 127 15 0), J, RF w))) (fun _ => rfl) ?_
  exact z_evR rfl
set_option maxRecDepth 20000 in
theorem m_text_ok (E : zE) (d : Nat) (I : Nat → Nat → Int32) (J : Nat → Nat → Int64) (w : Nat) (m c : Nat) (x : Int32) (I1 : Nat → Nat → Int32) (h_m : I 127 16 = nI m) (hm : m < 6) (hr : z_cl E (d + 6) 214 [.ref 127, .int (-1)] (161, I, J, RF w) = some (some (.int x), 161, I1, J, RF w)) (hx : x < 0) (h_n : I1 127 16 = nI m) (h_c : I1 127 15 = nI c) (hc : c ≤ 160) : z_Ev E (d + 6) z_m215 0 [some (.ref 127), none, none, none] [] 161 (I, J, RF w) (some (.int (nI m)), 161, (z_u2 (z_u2 (z_ur (z_u2 I1 127 15 0) 139 (z_fil (I1 139) (160 * m) c (fun j => I1 137 j))) 140 m (nI c)) 127 16 (nI (m + 1))), J, RF w) := by
  refine z_evG 4 (y := if (I 127 16) = 6 then z_go 9 [some (.ref 127), none, none, none] [] 161 (I, J, RF w) else z_go 12 [some (.ref 127), none, none, none] [] 161 (I, J, RF w)) (fun _ => rfl) ?_
  refine z_evF (mt (z_eqN (b := 6) h_m rfl (by omega) (by decide)).mp (by omega)) ?_
  refine z_evL ?_
  refine z_evG 3 (y := z_ret (z_cl E (d + 6) 214 [.ref 127, .int (-1)] (161, (I, J, RF w))) 17 [some (.ref 127), none, none, none] []) (fun _ => rfl) ?_
  refine z_evK (v := .int x) (z' := 161) (σ' := (I1, J, RF w)) hr ?_
  refine z_evG 9 (y := if x < 0 then z_go 37 [some (.ref 127), some (.int x), some (.int (I1 127 15)), none] [] 161 ((z_u2 I1 127 15 0), J, RF w) else z_go 32 [some (.ref 127), some (.int x), some (.int (I1 127 15)), none] [] 161 ((z_u2 I1 127 15 0), J, RF w)) (fun _ => rfl) ?_
  refine z_evT hx ?_
  refine z_evL ?_
  refine z_evG 2 (y := z_go 39 [some (.ref 127), some (.int x), some (.int (I1 127 15)), some (.int 0)] [] 161 ((z_u2 I1 127 15 0), J, RF w)) (fun _ => rfl) ?_
  refine z_evL ?_
  have st0 : ∀ m0, m0 = 0 → ∀ qz, z_Ev E (d + 6) z_m215 39 [some (.ref 127), some (.int x), some (.int (I1 127 15)), some (.int (nI m0))] [] 161 ((z_ur (z_u2 I1 127 15 0) 139 (z_fil (I1 139) (160 * m) m0 (fun j => I1 137 j))), J, RF w) qz → z_Ev E (d + 6) z_m215 39 [some (.ref 127), some (.int x), some (.int (I1 127 15)), some (.int 0)] [] 161 ((z_u2 I1 127 15 0), J, RF w) qz := by intro m0 hm0 qz h; rw [hm0, z_fil_0x _ (by rfl)] at h; subst hm0; exact h
  refine st0 0 rfl _ ?_
  refine z_loop (F := fun k => ([some (.ref 127), some (.int x), some (.int (I1 127 15)), some (.int (nI k))], ((z_ur (z_u2 I1 127 15 0) 139 (z_fil (I1 139) (160 * m) k (fun j => I1 137 j))), J, RF w))) (P := fun k => True) c trivial (fun hP => ?_) (fun k hk hP next => ?_)
  · show z_Ev E (d + 6) z_m215 39 [some (.ref 127), some (.int x), some (.int (I1 127 15)), some (.int (nI c))] [] 161 ((z_ur (z_u2 I1 127 15 0) 139 (z_fil (I1 139) (160 * m) c (fun j => I1 137 j))), J, RF w) _
    refine z_evG 3 (y := if (nI c) < (I1 127 15) then z_go 44 [some (.ref 127), some (.int x), some (.int (I1 127 15)), some (.int (nI c))] [] 161 ((z_ur (z_u2 I1 127 15 0) 139 (z_fil (I1 139) (160 * m) c (fun j => I1 137 j))), J, RF w) else z_go 71 [some (.ref 127), some (.int x), some (.int (I1 127 15)), some (.int (nI c))] [] 161 ((z_ur (z_u2 I1 127 15 0) 139 (z_fil (I1 139) (160 * m) c (fun j => I1 137 j))), J, RF w)) (fun _ => rfl) ?_
    refine z_evF (mt (show _ ↔ c < c from z_ltN rfl h_c (by omega) (by omega)).mp (by omega)) ?_
    refine z_evL ?_
    refine z_evG 6 (y := z_ck (z_in (I1 127 16) 6) (z_go 81 [some (.ref 127), some (.int x), some (.int (I1 127 15)), some (.int (nI c))] [] 161 ((z_u2 (z_ur (z_u2 I1 127 15 0) 139 (z_fil (I1 139) (160 * m) c (fun j => I1 137 j))) 140 ((I1 127 16).toNatClampNeg) (I1 127 15)), J, RF w))) (fun _ => rfl) ?_
    refine z_evC (z_inN (k := m) h_n (by omega) (by decide)) ?_
    refine z_evL ?_
    rw [show ((I1 127 16 : Int32)).toNatClampNeg = m from z_natE h_n (by omega)]
    refine z_evG 11 (y := some (.inr (some (.int (((I1 127 16) + 1) - 1)), 161, (z_u2 (z_u2 (z_ur (z_u2 I1 127 15 0) 139 (z_fil (I1 139) (160 * m) c (fun j => I1 137 j))) 140 m (I1 127 15)) 127 16 ((I1 127 16) + 1)), J, RF w))) (fun _ => rfl) ?_
    rw [show (((I1 127 16) + 1) - 1 : Int32) = nI m from (z_predE (z_addE h_n rfl))]
    rw [show ((I1 127 16) + 1 : Int32) = nI (m + 1) from (z_addE h_n rfl)]
    rw [show (I1 127 15 : Int32) = nI c from h_c]
    exact z_evR rfl
  · show z_Ev E (d + 6) z_m215 39 [some (.ref 127), some (.int x), some (.int (I1 127 15)), some (.int (nI k))] [] 161 ((z_ur (z_u2 I1 127 15 0) 139 (z_fil (I1 139) (160 * m) k (fun j => I1 137 j))), J, RF w) _
    have nx : (True) → z_Ev E (d + 6) z_m215 39 [some (.ref 127), some (.int x), some (.int (I1 127 15)), some (.int (nI (k + 1)))] [] 161 ((z_ur (z_u2 I1 127 15 0) 139 (z_fil (I1 139) (160 * m) (k + 1) (fun j => I1 137 j))), J, RF w) _ := next
    refine z_evG 3 (y := if (nI k) < (I1 127 15) then z_go 44 [some (.ref 127), some (.int x), some (.int (I1 127 15)), some (.int (nI k))] [] 161 ((z_ur (z_u2 I1 127 15 0) 139 (z_fil (I1 139) (160 * m) k (fun j => I1 137 j))), J, RF w) else z_go 71 [some (.ref 127), some (.int x), some (.int (I1 127 15)), some (.int (nI k))] [] 161 ((z_ur (z_u2 I1 127 15 0) 139 (z_fil (I1 139) (160 * m) k (fun j => I1 137 j))), J, RF w)) (fun _ => rfl) ?_
    refine z_evT ((show _ ↔ k < c from z_ltN rfl h_c (by omega) (by omega)).mpr (by omega)) ?_
    refine z_evL ?_
    refine z_evG 12 (y := z_ild (z_ia E 161 ((z_ur (z_u2 I1 127 15 0) 139 (z_fil (I1 139) (160 * m) k (fun j => I1 137 j))), J, RF w) 137) (nI k) fun vv => z_go 64 [some (.ref 127), some (.int x), some (.int (I1 127 15)), some (.int (nI k))] [.int vv, .int ((160 * (I1 127 16)) + (nI k)), .ref 139] 161 ((z_ur (z_u2 I1 127 15 0) 139 (z_fil (I1 139) (160 * m) k (fun j => I1 137 j))), J, RF w)) (fun _ => rfl) ?_
    refine z_evBn (N := 160) (f := ((z_ur (z_u2 I1 127 15 0) 139 (z_fil (I1 139) (160 * m) k (fun j => I1 137 j))) 137)) (k := k) rfl rfl (by omega) ?_
    refine z_evL ?_
    refine z_evG 1 (y := z_ck (z_in ((160 * (I1 127 16)) + (nI k)) 960) (z_go 65 [some (.ref 127), some (.int x), some (.int (I1 127 15)), some (.int (nI k))] [] 161 ((z_u2 (z_ur (z_u2 I1 127 15 0) 139 (z_fil (I1 139) (160 * m) k (fun j => I1 137 j))) 139 (((160 * (I1 127 16)) + (nI k)).toNatClampNeg) (I1 137 k)), J, RF w))) (fun _ => rfl) ?_
    refine z_evC (z_inN (k := 160 * m + k) (z_addE (z_mulE rfl h_n) rfl) (by omega) (by decide)) ?_
    refine z_evL ?_
    rw [show (((160 * (I1 127 16)) + (nI k) : Int32)).toNatClampNeg = 160 * m + k from z_natE (z_addE (z_mulE rfl h_n) rfl) (by omega)]
    refine z_evG 2 (y := z_go 39 [some (.ref 127), some (.int x), some (.int (I1 127 15)), some (.int ((nI k) + 1))] [] 161 ((z_u2 (z_ur (z_u2 I1 127 15 0) 139 (z_fil (I1 139) (160 * m) k (fun j => I1 137 j))) 139 (160 * m + k) (I1 137 k)), J, RF w)) (fun _ => rfl) ?_
    refine z_evL ?_
    rw [nI_1 k, z_fil_sx _ _ _ _ (by rfl)]
    exact nx trivial
