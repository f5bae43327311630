-- SHINE by both, with what turns and what wears as premises
set_option maxRecDepth 20000 in
theorem x_sh0 (E : zE) (d : Nat) (I : Nat → Nat → Int32) (J : Nat → Nat → Int64) (w : Nat) (l t n m : Nat) (I1 : Nat → Nat → Int32) (h_n : I 43 1 = nI n) (hn : n < 20) (h_m : I 37 7 = nI m) (hm : m ≤ 20) (hl : l < n) (ht : t < m) (t1 : z_cl E (d + 5) 120 [.ref 37, .int (nI t), .ref (45 + l), .ref 125] (161, I, J, RF w) = some (none, 161, I1, J, RF w)) (h1 : I1 43 1 = nI n) : z_Ev E (d + 5) z_m134 0 [some (.ref 0), some (.int (nI l)), some (.int (nI t)), some (.int 0)] [] 161 (I, J, RF w) (some (.int (nI n)), 161, (z_u2 (z_ur I1 (45 + n) (va_cpy (I1 125) (I1 (45 + n)) 0 0 8)) 43 1 (nI (n + 1))), J, RF w) := by
  refine z_evG 4 (y := z_ret (z_cl E (d + 5) 8 [.ref 43, .int (nI l)] (161, (I, J, RF w))) 8 [some (.ref 0), some (.int (nI l)), some (.int (nI t)), some (.int 0)] []) (fun _ => rfl) ?_
  refine z_evK (v := .int (z_bo (¬ (nI l) < 0 ∧ (nI l) < I 43 1))) (z' := 161) (σ' := (I, J, RF w)) (x_lights_has E (d + 4) I J w (nI l)) ?_
  refine z_evG 1 (y := if (z_bo (¬ (nI l) < 0 ∧ (nI l) < I 43 1)) = 0 then z_go 31 [some (.ref 0), some (.int (nI l)), some (.int (nI t)), some (.int 0)] [] 161 (I, J, RF w) else z_go 11 [some (.ref 0), some (.int (nI l)), some (.int (nI t)), some (.int 0)] [] 161 (I, J, RF w)) (fun _ => rfl) ?_
  refine z_evF (fun q0 => z_bo_0.mp q0 ⟨(mt (show _ ↔ l < 0 from z_ltN rfl rfl (by omega) (by omega)).mp (by omega)), ((show _ ↔ l < n from z_ltN rfl h_n (by omega) (by omega)).mpr (by omega))⟩) ?_
  refine z_evL ?_
  refine z_evG 4 (y := z_ret (z_cl E (d + 5) 108 [.ref 37, .int (nI t)] (161, (I, J, RF w))) 19 [some (.ref 0), some (.int (nI l)), some (.int (nI t)), some (.int 0)] []) (fun _ => rfl) ?_
  refine z_evK (v := .int (z_bo (¬ (nI t) < 0 ∧ (nI t) < I 37 7))) (z' := 161) (σ' := (I, J, RF w)) (x_things_has E (d + 4) I J w (nI t)) ?_
  refine z_evG 1 (y := if (z_bo (¬ (nI t) < 0 ∧ (nI t) < I 37 7)) = 0 then z_go 31 [some (.ref 0), some (.int (nI l)), some (.int (nI t)), some (.int 0)] [] 161 (I, J, RF w) else z_go 22 [some (.ref 0), some (.int (nI l)), some (.int (nI t)), some (.int 0)] [] 161 (I, J, RF w)) (fun _ => rfl) ?_
  refine z_evF (fun q0 => z_bo_0.mp q0 ⟨(mt (show _ ↔ t < 0 from z_ltN rfl rfl (by omega) (by omega)).mp (by omega)), ((show _ ↔ t < m from z_ltN rfl h_m (by omega) (by omega)).mpr (by omega))⟩) ?_
  refine z_evL ?_
  refine z_evG 2 (y := if 0 < 0 then z_go 31 [some (.ref 0), some (.int (nI l)), some (.int (nI t)), some (.int 0)] [] 161 (I, J, RF w) else z_go 26 [some (.ref 0), some (.int (nI l)), some (.int (nI t)), some (.int 0)] [] 161 (I, J, RF w)) (fun _ => rfl) ?_
  refine z_evI (fun q => absurd q (by decide)) (fun _ => ?_)
  refine z_evL ?_
  refine z_evG 3 (y := if 1 < 0 then z_go 31 [some (.ref 0), some (.int (nI l)), some (.int (nI t)), some (.int 0)] [] 161 (I, J, RF w) else z_go 34 [some (.ref 0), some (.int (nI l)), some (.int (nI t)), some (.int 0)] [] 161 (I, J, RF w)) (fun _ => rfl) ?_
  refine z_evI (fun q => absurd q (by decide)) (fun _ => ?_)
  refine z_evL ?_
  refine z_evG 3 (y := z_ret (z_cl E (d + 5) 10 [.ref 43] (161, (I, J, RF w))) 41 [some (.ref 0), some (.int (nI l)), some (.int (nI t)), some (.int 0)] []) (fun _ => rfl) ?_
  refine z_evK (v := .int (z_bo (¬ I 43 1 < 20))) (z' := 161) (σ' := (I, J, RF w)) (x_lights_isFull E (d + 4) I J w) ?_
  refine z_evG 1 (y := if (z_bo (¬ I 43 1 < 20)) = 0 then z_go 47 [some (.ref 0), some (.int (nI l)), some (.int (nI t)), some (.int 0)] [] 161 (I, J, RF w) else z_go 44 [some (.ref 0), some (.int (nI l)), some (.int (nI t)), some (.int 0)] [] 161 (I, J, RF w)) (fun _ => rfl) ?_
  refine z_evT (z_bo_0.mpr (fun q0 => q0 ((show _ ↔ n < 20 from z_ltN h_n rfl (by omega) (by omega)).mpr (by omega)))) ?_
  refine z_evL ?_
  refine z_evG 7 (y := z_ret (z_cl E (d + 5) 11 [.ref 43, .int (nI l)] (161, (I, J, RF w))) 60 [some (.ref 0), some (.int (nI l)), some (.int (nI t)), some (.int 0)] [.int (nI t), .ref 37]) (fun _ => rfl) ?_
  refine z_evK (v := .ref (45 + l)) (z' := 161) (σ' := (I, J, RF w)) (x_lights_getN E (d + 4) I J w l (by omega)) ?_
  refine z_evG 3 (y := z_ret (z_cl E (d + 5) 120 [.ref 37, .int (nI t), .ref (45 + l), .ref 125] (161, (I, J, RF w))) 67 [some (.ref 0), some (.int (nI l)), some (.int (nI t)), some (.int 0)] []) (fun _ => rfl) ?_
  refine z_evV (z' := 161) (σ' := (I1, J, RF w)) t1 ?_
  refine z_evG 3 (y := if 0 = 1 then z_go 72 [some (.ref 0), some (.int (nI l)), some (.int (nI t)), some (.int 0)] [] 161 (I1, J, RF w) else z_go 88 [some (.ref 0), some (.int (nI l)), some (.int (nI t)), some (.int 0)] [] 161 (I1, J, RF w)) (fun _ => rfl) ?_
  refine z_evI (fun q => absurd q (by decide)) (fun _ => ?_)
  refine z_evL ?_
  refine z_evG 5 (y := z_ret (z_cl E (d + 5) 12 [.ref 43, .ref 125] (161, (I1, J, RF w))) 99 [some (.ref 0), some (.int (nI l)), some (.int (nI t)), some (.int 0)] []) (fun _ => rfl) ?_
  refine z_evK (v := .int (nI n)) (z' := 161) (σ' := ((z_u2 (z_ur I1 (45 + n) (va_cpy (I1 125) (I1 (45 + n)) 0 0 8)) 43 1 (nI (n + 1))), J, RF w)) (x_lights_add E (d + 4) I1 J w 125 n z_A_125 h1 (by omega)) ?_
  refine z_evG 1 (y := some (.inr (some (.int (nI n)), 161, (z_u2 (z_ur I1 (45 + n) (va_cpy (I1 125) (I1 (45 + n)) 0 0 8)) 43 1 (nI (n + 1))), J, RF w))) (fun _ => rfl) ?_
  exact z_evR rfl
set_option maxRecDepth 20000 in
theorem x_sh1 (E : zE) (d : Nat) (I : Nat → Nat → Int32) (J : Nat → Nat → Int64) (w : Nat) (l t n m : Nat) (I1 I2 : Nat → Nat → Int32) (h_n : I 43 1 = nI n) (hn : n < 20) (h_m : I 37 7 = nI m) (hm : m ≤ 20) (hl : l < n) (ht : t < m) (t1 : z_cl E (d + 5) 120 [.ref 37, .int (nI t), .ref (45 + l), .ref 125] (161, I, J, RF w) = some (none, 161, I1, J, RF w)) (t2 : z_cl E (d + 5) 124 [.ref 37, .int (nI t), .int (I1 0 13), .ref 125] (161, I1, J, RF w) = some (none, 161, I2, J, RF w)) (h1 : I2 43 1 = nI n) : z_Ev E (d + 5) z_m134 0 [some (.ref 0), some (.int (nI l)), some (.int (nI t)), some (.int 1)] [] 161 (I, J, RF w) (some (.int (nI n)), 161, (z_u2 (z_ur I2 (45 + n) (va_cpy (I2 125) (I2 (45 + n)) 0 0 8)) 43 1 (nI (n + 1))), J, RF w) := by
  refine z_evG 4 (y := z_ret (z_cl E (d + 5) 8 [.ref 43, .int (nI l)] (161, (I, J, RF w))) 8 [some (.ref 0), some (.int (nI l)), some (.int (nI t)), some (.int 1)] []) (fun _ => rfl) ?_
  refine z_evK (v := .int (z_bo (¬ (nI l) < 0 ∧ (nI l) < I 43 1))) (z' := 161) (σ' := (I, J, RF w)) (x_lights_has E (d + 4) I J w (nI l)) ?_
  refine z_evG 1 (y := if (z_bo (¬ (nI l) < 0 ∧ (nI l) < I 43 1)) = 0 then z_go 31 [some (.ref 0), some (.int (nI l)), some (.int (nI t)), some (.int 1)] [] 161 (I, J, RF w) else z_go 11 [some (.ref 0), some (.int (nI l)), some (.int (nI t)), some (.int 1)] [] 161 (I, J, RF w)) (fun _ => rfl) ?_
  refine z_evF (fun q0 => z_bo_0.mp q0 ⟨(mt (show _ ↔ l < 0 from z_ltN rfl rfl (by omega) (by omega)).mp (by omega)), ((show _ ↔ l < n from z_ltN rfl h_n (by omega) (by omega)).mpr (by omega))⟩) ?_
  refine z_evL ?_
  refine z_evG 4 (y := z_ret (z_cl E (d + 5) 108 [.ref 37, .int (nI t)] (161, (I, J, RF w))) 19 [some (.ref 0), some (.int (nI l)), some (.int (nI t)), some (.int 1)] []) (fun _ => rfl) ?_
  refine z_evK (v := .int (z_bo (¬ (nI t) < 0 ∧ (nI t) < I 37 7))) (z' := 161) (σ' := (I, J, RF w)) (x_things_has E (d + 4) I J w (nI t)) ?_
  refine z_evG 1 (y := if (z_bo (¬ (nI t) < 0 ∧ (nI t) < I 37 7)) = 0 then z_go 31 [some (.ref 0), some (.int (nI l)), some (.int (nI t)), some (.int 1)] [] 161 (I, J, RF w) else z_go 22 [some (.ref 0), some (.int (nI l)), some (.int (nI t)), some (.int 1)] [] 161 (I, J, RF w)) (fun _ => rfl) ?_
  refine z_evF (fun q0 => z_bo_0.mp q0 ⟨(mt (show _ ↔ t < 0 from z_ltN rfl rfl (by omega) (by omega)).mp (by omega)), ((show _ ↔ t < m from z_ltN rfl h_m (by omega) (by omega)).mpr (by omega))⟩) ?_
  refine z_evL ?_
  refine z_evG 2 (y := if 1 < 0 then z_go 31 [some (.ref 0), some (.int (nI l)), some (.int (nI t)), some (.int 1)] [] 161 (I, J, RF w) else z_go 26 [some (.ref 0), some (.int (nI l)), some (.int (nI t)), some (.int 1)] [] 161 (I, J, RF w)) (fun _ => rfl) ?_
  refine z_evI (fun q => absurd q (by decide)) (fun _ => ?_)
  refine z_evL ?_
  refine z_evG 3 (y := if 1 < 1 then z_go 31 [some (.ref 0), some (.int (nI l)), some (.int (nI t)), some (.int 1)] [] 161 (I, J, RF w) else z_go 34 [some (.ref 0), some (.int (nI l)), some (.int (nI t)), some (.int 1)] [] 161 (I, J, RF w)) (fun _ => rfl) ?_
  refine z_evI (fun q => absurd q (by decide)) (fun _ => ?_)
  refine z_evL ?_
  refine z_evG 3 (y := z_ret (z_cl E (d + 5) 10 [.ref 43] (161, (I, J, RF w))) 41 [some (.ref 0), some (.int (nI l)), some (.int (nI t)), some (.int 1)] []) (fun _ => rfl) ?_
  refine z_evK (v := .int (z_bo (¬ I 43 1 < 20))) (z' := 161) (σ' := (I, J, RF w)) (x_lights_isFull E (d + 4) I J w) ?_
  refine z_evG 1 (y := if (z_bo (¬ I 43 1 < 20)) = 0 then z_go 47 [some (.ref 0), some (.int (nI l)), some (.int (nI t)), some (.int 1)] [] 161 (I, J, RF w) else z_go 44 [some (.ref 0), some (.int (nI l)), some (.int (nI t)), some (.int 1)] [] 161 (I, J, RF w)) (fun _ => rfl) ?_
  refine z_evT (z_bo_0.mpr (fun q0 => q0 ((show _ ↔ n < 20 from z_ltN h_n rfl (by omega) (by omega)).mpr (by omega)))) ?_
  refine z_evL ?_
  refine z_evG 7 (y := z_ret (z_cl E (d + 5) 11 [.ref 43, .int (nI l)] (161, (I, J, RF w))) 60 [some (.ref 0), some (.int (nI l)), some (.int (nI t)), some (.int 1)] [.int (nI t), .ref 37]) (fun _ => rfl) ?_
  refine z_evK (v := .ref (45 + l)) (z' := 161) (σ' := (I, J, RF w)) (x_lights_getN E (d + 4) I J w l (by omega)) ?_
  refine z_evG 3 (y := z_ret (z_cl E (d + 5) 120 [.ref 37, .int (nI t), .ref (45 + l), .ref 125] (161, (I, J, RF w))) 67 [some (.ref 0), some (.int (nI l)), some (.int (nI t)), some (.int 1)] []) (fun _ => rfl) ?_
  refine z_evV (z' := 161) (σ' := (I1, J, RF w)) t1 ?_
  refine z_evG 3 (y := if 1 = 1 then z_go 72 [some (.ref 0), some (.int (nI l)), some (.int (nI t)), some (.int 1)] [] 161 (I1, J, RF w) else z_go 88 [some (.ref 0), some (.int (nI l)), some (.int (nI t)), some (.int 1)] [] 161 (I1, J, RF w)) (fun _ => rfl) ?_
  refine z_evI (fun _ => ?_) (fun q => absurd (by decide) q)
  refine z_evL ?_
  refine z_evG 8 (y := z_ret (z_cl E (d + 5) 124 [.ref 37, .int (nI t), .int (I1 0 13), .ref 125] (161, (I1, J, RF w))) 88 [some (.ref 0), some (.int (nI l)), some (.int (nI t)), some (.int 1)] []) (fun _ => rfl) ?_
  refine z_evV (z' := 161) (σ' := (I2, J, RF w)) t2 ?_
  refine z_evG 5 (y := z_ret (z_cl E (d + 5) 12 [.ref 43, .ref 125] (161, (I2, J, RF w))) 99 [some (.ref 0), some (.int (nI l)), some (.int (nI t)), some (.int 1)] []) (fun _ => rfl) ?_
  refine z_evK (v := .int (nI n)) (z' := 161) (σ' := ((z_u2 (z_ur I2 (45 + n) (va_cpy (I2 125) (I2 (45 + n)) 0 0 8)) 43 1 (nI (n + 1))), J, RF w)) (x_lights_add E (d + 4) I2 J w 125 n z_A_125 h1 (by omega)) ?_
  refine z_evG 1 (y := some (.inr (some (.int (nI n)), 161, (z_u2 (z_ur I2 (45 + n) (va_cpy (I2 125) (I2 (45 + n)) 0 0 8)) 43 1 (nI (n + 1))), J, RF w))) (fun _ => rfl) ?_
  exact z_evR rfl
set_option maxRecDepth 20000 in
theorem m_sh0 (E : zE) (d : Nat) (I : Nat → Nat → Int32) (J : Nat → Nat → Int64) (w : Nat) (l t n m : Nat) (I1 : Nat → Nat → Int32) (h_n : I 127 9 = nI n) (hn : n < 20) (h_m : I 127 3 = nI m) (hm : m ≤ 20) (hl : l < n) (ht : t < m) (t1 : z_cl E (d + 4) 189 [.ref 127, .int (nI l), .int (nI t), .int (I 127 9)] (161, I, J, RF w) = some (none, 161, I1, J, RF w)) (h1 : I1 127 9 = nI n) : z_Ev E (d + 4) z_m192 0 [some (.ref 127), some (.int (nI l)), some (.int (nI t)), some (.int 0), none, none, none] [] 161 (I, J, RF w) (some (.int (nI n)), 161, (z_u2 (z_ur I1 134 (z_fil (I1 134) (8 * n) 8 (fun c => ((I1 134 (8 * n + c)).toInt64 * 100 / 100).toInt32))) 127 9 (nI (n + 1))), J, RF w) := by
  refine z_evG 3 (y := z_ret (z_cl E (d + 4) 184 [.ref 127, .int (nI l)] (161, (I, J, RF w))) 5 [some (.ref 127), some (.int (nI l)), some (.int (nI t)), some (.int 0), none, none, none] []) (fun _ => rfl) ?_
  refine z_evK (v := .int (z_bo (¬ (nI l) < 0 ∧ ¬ I 127 9 - 1 < (nI l)))) (z' := 161) (σ' := (I, J, RF w)) (m_isLight E (d + 2) I J w (nI l)) ?_
  refine z_evG 1 (y := if (z_bo (¬ (nI l) < 0 ∧ ¬ I 127 9 - 1 < (nI l))) = 0 then z_go 25 [some (.ref 127), some (.int (nI l)), some (.int (nI t)), some (.int 0), none, none, none] [] 161 (I, J, RF w) else z_go 8 [some (.ref 127), some (.int (nI l)), some (.int (nI t)), some (.int 0), none, none, none] [] 161 (I, J, RF w)) (fun _ => rfl) ?_
  refine z_evF (fun q0 => z_bo_0.mp q0 ⟨(mt (show _ ↔ l < 0 from z_ltN rfl rfl (by omega) (by omega)).mp (by omega)), (z_plt h_n rfl (by omega) (by omega))⟩) ?_
  refine z_evL ?_
  refine z_evG 3 (y := z_ret (z_cl E (d + 4) 183 [.ref 127, .int (nI t)] (161, (I, J, RF w))) 13 [some (.ref 127), some (.int (nI l)), some (.int (nI t)), some (.int 0), none, none, none] []) (fun _ => rfl) ?_
  refine z_evK (v := .int (z_bo (¬ (nI t) < 0 ∧ ¬ I 127 3 - 1 < (nI t)))) (z' := 161) (σ' := (I, J, RF w)) (m_isThing E (d + 2) I J w (nI t)) ?_
  refine z_evG 1 (y := if (z_bo (¬ (nI t) < 0 ∧ ¬ I 127 3 - 1 < (nI t))) = 0 then z_go 25 [some (.ref 127), some (.int (nI l)), some (.int (nI t)), some (.int 0), none, none, none] [] 161 (I, J, RF w) else z_go 16 [some (.ref 127), some (.int (nI l)), some (.int (nI t)), some (.int 0), none, none, none] [] 161 (I, J, RF w)) (fun _ => rfl) ?_
  refine z_evF (fun q0 => z_bo_0.mp q0 ⟨(mt (show _ ↔ t < 0 from z_ltN rfl rfl (by omega) (by omega)).mp (by omega)), (z_plt h_m rfl (by omega) (by omega))⟩) ?_
  refine z_evL ?_
  refine z_evG 4 (y := z_ret (z_cl E (d + 4) 178 [.int 0, .int 0, .int 1] (161, (I, J, RF w))) 22 [some (.ref 127), some (.int (nI l)), some (.int (nI t)), some (.int 0), none, none, none] []) (fun _ => rfl) ?_
  refine z_evK (v := .int (z_bo (¬ 0 < 0 ∧ ¬ 1 < 0))) (z' := 161) (σ' := (I, J, RF w)) (m_in E (d + 3) I J w 0 0 1) ?_
  refine z_evG 1 (y := if (z_bo (¬ 0 < 0 ∧ ¬ 1 < 0)) = 0 then z_go 25 [some (.ref 127), some (.int (nI l)), some (.int (nI t)), some (.int 0), none, none, none] [] 161 (I, J, RF w) else z_go 28 [some (.ref 127), some (.int (nI l)), some (.int (nI t)), some (.int 0), none, none, none] [] 161 (I, J, RF w)) (fun _ => rfl) ?_
  refine z_evF (fun q0 => z_bo_0.mp q0 ⟨(by decide), (by decide)⟩) ?_
  refine z_evL ?_
  refine z_evG 4 (y := if (I 127 9) = 20 then z_go 37 [some (.ref 127), some (.int (nI l)), some (.int (nI t)), some (.int 0), none, none, none] [] 161 (I, J, RF w) else z_go 40 [some (.ref 127), some (.int (nI l)), some (.int (nI t)), some (.int 0), none, none, none] [] 161 (I, J, RF w)) (fun _ => rfl) ?_
  refine z_evF ((mt (show _ ↔ n = 20 from z_eqN h_n rfl (by omega) (by omega)).mp (by omega))) ?_
  refine z_evL ?_
  refine z_evG 6 (y := z_ret (z_cl E (d + 4) 189 [.ref 127, .int (nI l), .int (nI t), .int (I 127 9)] (161, (I, J, RF w))) 50 [some (.ref 127), some (.int (nI l)), some (.int (nI t)), some (.int 0), none, none, none] []) (fun _ => rfl) ?_
  refine z_evV (z' := 161) (σ' := (I1, J, RF w)) t1 ?_
  refine z_evG 3 (y := if 0 = 1 then z_go 55 [some (.ref 127), some (.int (nI l)), some (.int (nI t)), some (.int 0), none, none, none] [] 161 (I1, J, RF w) else z_go 75 [some (.ref 127), some (.int (nI l)), some (.int (nI t)), some (.int 0), none, none, none] [] 161 (I1, J, RF w)) (fun _ => rfl) ?_
  refine z_evI (fun q => absurd q (by decide)) (fun _ => ?_)
  refine z_evL ?_
  refine z_evG 4 (y := z_go 83 [some (.ref 127), some (.int (nI l)), some (.int (nI t)), some (.int 0), some (.long 100), none, some (.int 0)] [] 161 (I1, J, RF w)) (fun _ => rfl) ?_
  refine z_evL ?_
  have st0 : ∀ m0, m0 = 0 → ∀ qz, z_Ev E (d + 4) z_m192 83 [some (.ref 127), some (.int (nI l)), some (.int (nI t)), some (.int 0), some (.long 100), none, some (.int (nI m0))] [] 161 ((z_ur I1 134 (z_fil (I1 134) (8 * n) m0 (fun c => ((I1 134 (8 * n + c)).toInt64 * 100 / 100).toInt32))), J, RF w) qz → z_Ev E (d + 4) z_m192 83 [some (.ref 127), some (.int (nI l)), some (.int (nI t)), some (.int 0), some (.long 100), none, some (.int 0)] [] 161 (I1, J, RF w) qz := by intro m0 hm0 qz h; rw [hm0, z_fil_0 I1 134 (8 * n)] at h; subst hm0; exact h
  refine st0 0 rfl _ ?_
  refine z_loop (F := fun k => ([some (.ref 127), some (.int (nI l)), some (.int (nI t)), some (.int 0), some (.long 100), none, some (.int (nI k))], ((z_ur I1 134 (z_fil (I1 134) (8 * n) k (fun c => ((I1 134 (8 * n + c)).toInt64 * 100 / 100).toInt32))), J, RF w))) (P := fun k => True) 8 trivial (fun hP => ?_) (fun k hk hP next => ?_)
  · show z_Ev E (d + 4) z_m192 83 [some (.ref 127), some (.int (nI l)), some (.int (nI t)), some (.int 0), some (.long 100), none, some (.int (nI 8))] [] 161 ((z_ur I1 134 (z_fil (I1 134) (8 * n) 8 (fun c => ((I1 134 (8 * n + c)).toInt64 * 100 / 100).toInt32))), J, RF w) _
    refine z_evG 3 (y := if (nI 8) < 8 then z_go 90 [some (.ref 127), some (.int (nI l)), some (.int (nI t)), some (.int 0), some (.long 100), none, some (.int (nI 8))] [] 161 ((z_ur I1 134 (z_fil (I1 134) (8 * n) 8 (fun c => ((I1 134 (8 * n + c)).toInt64 * 100 / 100).toInt32))), J, RF w) else z_go 135 [some (.ref 127), some (.int (nI l)), some (.int (nI t)), some (.int 0), some (.long 100), none, some (.int (nI 8))] [] 161 ((z_ur I1 134 (z_fil (I1 134) (8 * n) 8 (fun c => ((I1 134 (8 * n + c)).toInt64 * 100 / 100).toInt32))), J, RF w)) (fun _ => rfl) ?_
    refine z_evF (mt (show _ ↔ 8 < 8 from z_ltN rfl rfl (by omega) (by omega)).mp (by omega)) ?_
    refine z_evL ?_
    refine z_evG 11 (y := some (.inr (some (.int (((I1 127 9) + 1) - 1)), 161, (z_u2 (z_ur I1 134 (z_fil (I1 134) (8 * n) 8 (fun c => ((I1 134 (8 * n + c)).toInt64 * 100 / 100).toInt32))) 127 9 ((I1 127 9) + 1)), J, RF w))) (fun _ => rfl) ?_
    rw [show (((I1 127 9) + 1) - 1 : Int32) = nI n from (z_predE (z_addE h1 rfl))]
    rw [show ((I1 127 9) + 1 : Int32) = nI (n + 1) from (z_addE h1 rfl)]
    exact z_evR rfl
  · show z_Ev E (d + 4) z_m192 83 [some (.ref 127), some (.int (nI l)), some (.int (nI t)), some (.int 0), some (.long 100), none, some (.int (nI k))] [] 161 ((z_ur I1 134 (z_fil (I1 134) (8 * n) k (fun c => ((I1 134 (8 * n + c)).toInt64 * 100 / 100).toInt32))), J, RF w) _
    have nx : (True) → z_Ev E (d + 4) z_m192 83 [some (.ref 127), some (.int (nI l)), some (.int (nI t)), some (.int 0), some (.long 100), none, some (.int (nI (k + 1)))] [] 161 ((z_ur I1 134 (z_fil (I1 134) (8 * n) (k + 1) (fun c => ((I1 134 (8 * n + c)).toInt64 * 100 / 100).toInt32))), J, RF w) _ := next
    refine z_evG 3 (y := if (nI k) < 8 then z_go 90 [some (.ref 127), some (.int (nI l)), some (.int (nI t)), some (.int 0), some (.long 100), none, some (.int (nI k))] [] 161 ((z_ur I1 134 (z_fil (I1 134) (8 * n) k (fun c => ((I1 134 (8 * n + c)).toInt64 * 100 / 100).toInt32))), J, RF w) else z_go 135 [some (.ref 127), some (.int (nI l)), some (.int (nI t)), some (.int 0), some (.long 100), none, some (.int (nI k))] [] 161 ((z_ur I1 134 (z_fil (I1 134) (8 * n) k (fun c => ((I1 134 (8 * n + c)).toInt64 * 100 / 100).toInt32))), J, RF w)) (fun _ => rfl) ?_
    refine z_evT ((show _ ↔ k < 8 from z_ltN rfl rfl (by omega) (by omega)).mpr (by omega)) ?_
    refine z_evL ?_
    refine z_evG 17 (y := z_ild (z_ia E 161 ((z_ur I1 134 (z_fil (I1 134) (8 * n) k (fun c => ((I1 134 (8 * n + c)).toInt64 * 100 / 100).toInt32))), J, RF w) 134) ((8 * (I1 127 9)) + (nI k)) fun vv => z_go 119 [some (.ref 127), some (.int (nI l)), some (.int (nI t)), some (.int 0), some (.long 100), none, some (.int (nI k))] [.int vv, .int ((8 * (I1 127 9)) + (nI k)), .ref 134] 161 ((z_ur I1 134 (z_fil (I1 134) (8 * n) k (fun c => ((I1 134 (8 * n + c)).toInt64 * 100 / 100).toInt32))), J, RF w)) (fun _ => rfl) ?_
    refine z_evBn (N := 192) (f := ((z_ur I1 134 (z_fil (I1 134) (8 * n) k (fun c => ((I1 134 (8 * n + c)).toInt64 * 100 / 100).toInt32))) 134)) (k := (8 * n + k)) rfl (z_addE (z_mulE rfl h1) rfl) (by omega) ?_
    refine z_evL ?_
    rw [show (z_ur I1 134 (z_fil (I1 134) (8 * n) k (fun c => ((I1 134 (8 * n + c)).toInt64 * 100 / 100).toInt32))) 134 (8 * n + k) = I1 134 (8 * n + k) from ((congrFun (z_ur_same _ _ _) _).trans (z_fil_ge (by omega)))]
    refine z_evG 5 (y := z_ck (!decide ((100 : Int64) = 0)) (z_go 127 [some (.ref 127), some (.int (nI l)), some (.int (nI t)), some (.int 0), some (.long 100), none, some (.int (nI k))] [.long ((((I1 134 (8 * n + k)).toInt64) * 100) / 100), .int ((8 * (I1 127 9)) + (nI k)), .ref 134] 161 ((z_ur I1 134 (z_fil (I1 134) (8 * n) k (fun c => ((I1 134 (8 * n + c)).toInt64 * 100 / 100).toInt32))), J, RF w))) (fun _ => rfl) ?_
    refine z_evC (by decide) ?_
    refine z_evL ?_
    refine z_evG 2 (y := z_ck (z_in ((8 * (I1 127 9)) + (nI k)) 192) (z_go 129 [some (.ref 127), some (.int (nI l)), some (.int (nI t)), some (.int 0), some (.long 100), none, some (.int (nI k))] [] 161 ((z_u2 (z_ur I1 134 (z_fil (I1 134) (8 * n) k (fun c => ((I1 134 (8 * n + c)).toInt64 * 100 / 100).toInt32))) 134 (((8 * (I1 127 9)) + (nI k)).toNatClampNeg) (((((I1 134 (8 * n + k)).toInt64) * 100) / 100).toInt32)), J, RF w))) (fun _ => rfl) ?_
    refine z_evC (z_inN (k := 8 * n + k) (z_addE (z_mulE rfl h1) rfl) (by omega) (by decide)) ?_
    refine z_evL ?_
    rw [show (((8 * (I1 127 9)) + (nI k) : Int32)).toNatClampNeg = 8 * n + k from z_natE (z_addE (z_mulE rfl h1) rfl) (by omega)]
    refine z_evG 2 (y := z_go 83 [some (.ref 127), some (.int (nI l)), some (.int (nI t)), some (.int 0), some (.long 100), none, some (.int ((nI k) + 1))] [] 161 ((z_u2 (z_ur I1 134 (z_fil (I1 134) (8 * n) k (fun c => ((I1 134 (8 * n + c)).toInt64 * 100 / 100).toInt32))) 134 (8 * n + k) (((((I1 134 (8 * n + k)).toInt64) * 100) / 100).toInt32)), J, RF w)) (fun _ => rfl) ?_
    refine z_evL ?_
    have e := z_fil_s I1 134 (8 * n) k (fun c => ((I1 134 (8 * n + c)).toInt64 * 100 / 100).toInt32)
    rw [nI_1 k]
    rw [← e] at nx
    exact nx trivial
set_option maxRecDepth 20000 in
theorem m_sh1 (E : zE) (d : Nat) (I : Nat → Nat → Int32) (J : Nat → Nat → Int64) (w : Nat) (l t n m : Nat) (I1 : Nat → Nat → Int32) (v : Int32) (h_n : I 127 9 = nI n) (hn : n < 20) (h_m : I 127 3 = nI m) (hm : m ≤ 20) (hl : l < n) (ht : t < m) (t1 : z_cl E (d + 4) 189 [.ref 127, .int (nI l), .int (nI t), .int (I 127 9)] (161, I, J, RF w) = some (none, 161, I1, J, RF w)) (h1 : I1 127 9 = nI n) (t2 : z_cl E (d + 4) 234 [.ref 127, .int (nI t), .int (I1 127 0 - I1 132 t)] (161, I1, J, RF w) = some (some (.int v), 161, I1, J, RF w)) : z_Ev E (d + 4) z_m192 0 [some (.ref 127), some (.int (nI l)), some (.int (nI t)), some (.int 1), none, none, none] [] 161 (I, J, RF w) (some (.int (nI n)), 161, (z_u2 (z_ur I1 134 (z_fil (I1 134) (8 * n) 8 (fun c => ((I1 134 (8 * n + c)).toInt64 * v.toInt64 / 100).toInt32))) 127 9 (nI (n + 1))), J, RF w) := by
  refine z_evG 3 (y := z_ret (z_cl E (d + 4) 184 [.ref 127, .int (nI l)] (161, (I, J, RF w))) 5 [some (.ref 127), some (.int (nI l)), some (.int (nI t)), some (.int 1), none, none, none] []) (fun _ => rfl) ?_
  refine z_evK (v := .int (z_bo (¬ (nI l) < 0 ∧ ¬ I 127 9 - 1 < (nI l)))) (z' := 161) (σ' := (I, J, RF w)) (m_isLight E (d + 2) I J w (nI l)) ?_
  refine z_evG 1 (y := if (z_bo (¬ (nI l) < 0 ∧ ¬ I 127 9 - 1 < (nI l))) = 0 then z_go 25 [some (.ref 127), some (.int (nI l)), some (.int (nI t)), some (.int 1), none, none, none] [] 161 (I, J, RF w) else z_go 8 [some (.ref 127), some (.int (nI l)), some (.int (nI t)), some (.int 1), none, none, none] [] 161 (I, J, RF w)) (fun _ => rfl) ?_
  refine z_evF (fun q0 => z_bo_0.mp q0 ⟨(mt (show _ ↔ l < 0 from z_ltN rfl rfl (by omega) (by omega)).mp (by omega)), (z_plt h_n rfl (by omega) (by omega))⟩) ?_
  refine z_evL ?_
  refine z_evG 3 (y := z_ret (z_cl E (d + 4) 183 [.ref 127, .int (nI t)] (161, (I, J, RF w))) 13 [some (.ref 127), some (.int (nI l)), some (.int (nI t)), some (.int 1), none, none, none] []) (fun _ => rfl) ?_
  refine z_evK (v := .int (z_bo (¬ (nI t) < 0 ∧ ¬ I 127 3 - 1 < (nI t)))) (z' := 161) (σ' := (I, J, RF w)) (m_isThing E (d + 2) I J w (nI t)) ?_
  refine z_evG 1 (y := if (z_bo (¬ (nI t) < 0 ∧ ¬ I 127 3 - 1 < (nI t))) = 0 then z_go 25 [some (.ref 127), some (.int (nI l)), some (.int (nI t)), some (.int 1), none, none, none] [] 161 (I, J, RF w) else z_go 16 [some (.ref 127), some (.int (nI l)), some (.int (nI t)), some (.int 1), none, none, none] [] 161 (I, J, RF w)) (fun _ => rfl) ?_
  refine z_evF (fun q0 => z_bo_0.mp q0 ⟨(mt (show _ ↔ t < 0 from z_ltN rfl rfl (by omega) (by omega)).mp (by omega)), (z_plt h_m rfl (by omega) (by omega))⟩) ?_
  refine z_evL ?_
  refine z_evG 4 (y := z_ret (z_cl E (d + 4) 178 [.int 1, .int 0, .int 1] (161, (I, J, RF w))) 22 [some (.ref 127), some (.int (nI l)), some (.int (nI t)), some (.int 1), none, none, none] []) (fun _ => rfl) ?_
  refine z_evK (v := .int (z_bo (¬ 1 < 0 ∧ ¬ 1 < 1))) (z' := 161) (σ' := (I, J, RF w)) (m_in E (d + 3) I J w 1 0 1) ?_
  refine z_evG 1 (y := if (z_bo (¬ 1 < 0 ∧ ¬ 1 < 1)) = 0 then z_go 25 [some (.ref 127), some (.int (nI l)), some (.int (nI t)), some (.int 1), none, none, none] [] 161 (I, J, RF w) else z_go 28 [some (.ref 127), some (.int (nI l)), some (.int (nI t)), some (.int 1), none, none, none] [] 161 (I, J, RF w)) (fun _ => rfl) ?_
  refine z_evF (fun q0 => z_bo_0.mp q0 ⟨(by decide), (by decide)⟩) ?_
  refine z_evL ?_
  refine z_evG 4 (y := if (I 127 9) = 20 then z_go 37 [some (.ref 127), some (.int (nI l)), some (.int (nI t)), some (.int 1), none, none, none] [] 161 (I, J, RF w) else z_go 40 [some (.ref 127), some (.int (nI l)), some (.int (nI t)), some (.int 1), none, none, none] [] 161 (I, J, RF w)) (fun _ => rfl) ?_
  refine z_evF ((mt (show _ ↔ n = 20 from z_eqN h_n rfl (by omega) (by omega)).mp (by omega))) ?_
  refine z_evL ?_
  refine z_evG 6 (y := z_ret (z_cl E (d + 4) 189 [.ref 127, .int (nI l), .int (nI t), .int (I 127 9)] (161, (I, J, RF w))) 50 [some (.ref 127), some (.int (nI l)), some (.int (nI t)), some (.int 1), none, none, none] []) (fun _ => rfl) ?_
  refine z_evV (z' := 161) (σ' := (I1, J, RF w)) t1 ?_
  refine z_evG 3 (y := if 1 = 1 then z_go 55 [some (.ref 127), some (.int (nI l)), some (.int (nI t)), some (.int 1), none, none, none] [] 161 (I1, J, RF w) else z_go 75 [some (.ref 127), some (.int (nI l)), some (.int (nI t)), some (.int 1), none, none, none] [] 161 (I1, J, RF w)) (fun _ => rfl) ?_
  refine z_evI (fun _ => ?_) (fun q => absurd (by decide) q)
  refine z_evL ?_
  refine z_evG 8 (y := z_ild (z_ia E 161 (I1, J, RF w) 132) (nI t) fun vv => z_go 67 [some (.ref 127), some (.int (nI l)), some (.int (nI t)), some (.int 1), none, none, none] [.int vv, .int (I1 127 0), .int (nI t), .ref 127] 161 (I1, J, RF w)) (fun _ => rfl) ?_
  refine z_evBn (N := 20) (f := (I1 132)) (k := t) rfl rfl (by omega) ?_
  refine z_evL ?_
  refine z_evG 2 (y := z_ret (z_cl E (d + 4) 234 [.ref 127, .int (nI t), .int ((I1 127 0) - (I1 132 t))] (161, (I1, J, RF w))) 71 [some (.ref 127), some (.int (nI l)), some (.int (nI t)), some (.int 1), none, none, none] []) (fun _ => rfl) ?_
  refine z_evK (v := .int v) (z' := 161) (σ' := (I1, J, RF w)) t2 ?_
  refine z_evG 5 (y := z_go 83 [some (.ref 127), some (.int (nI l)), some (.int (nI t)), some (.int 1), some (.long v.toInt64), none, some (.int 0)] [] 161 (I1, J, RF w)) (fun _ => rfl) ?_
  refine z_evL ?_
  have st0 : ∀ m0, m0 = 0 → ∀ qz, z_Ev E (d + 4) z_m192 83 [some (.ref 127), some (.int (nI l)), some (.int (nI t)), some (.int 1), some (.long v.toInt64), none, some (.int (nI m0))] [] 161 ((z_ur I1 134 (z_fil (I1 134) (8 * n) m0 (fun c => ((I1 134 (8 * n + c)).toInt64 * v.toInt64 / 100).toInt32))), J, RF w) qz → z_Ev E (d + 4) z_m192 83 [some (.ref 127), some (.int (nI l)), some (.int (nI t)), some (.int 1), some (.long v.toInt64), none, some (.int 0)] [] 161 (I1, J, RF w) qz := by intro m0 hm0 qz h; rw [hm0, z_fil_0 I1 134 (8 * n)] at h; subst hm0; exact h
  refine st0 0 rfl _ ?_
  refine z_loop (F := fun k => ([some (.ref 127), some (.int (nI l)), some (.int (nI t)), some (.int 1), some (.long v.toInt64), none, some (.int (nI k))], ((z_ur I1 134 (z_fil (I1 134) (8 * n) k (fun c => ((I1 134 (8 * n + c)).toInt64 * v.toInt64 / 100).toInt32))), J, RF w))) (P := fun k => True) 8 trivial (fun hP => ?_) (fun k hk hP next => ?_)
  · show z_Ev E (d + 4) z_m192 83 [some (.ref 127), some (.int (nI l)), some (.int (nI t)), some (.int 1), some (.long v.toInt64), none, some (.int (nI 8))] [] 161 ((z_ur I1 134 (z_fil (I1 134) (8 * n) 8 (fun c => ((I1 134 (8 * n + c)).toInt64 * v.toInt64 / 100).toInt32))), J, RF w) _
    refine z_evG 3 (y := if (nI 8) < 8 then z_go 90 [some (.ref 127), some (.int (nI l)), some (.int (nI t)), some (.int 1), some (.long v.toInt64), none, some (.int (nI 8))] [] 161 ((z_ur I1 134 (z_fil (I1 134) (8 * n) 8 (fun c => ((I1 134 (8 * n + c)).toInt64 * v.toInt64 / 100).toInt32))), J, RF w) else z_go 135 [some (.ref 127), some (.int (nI l)), some (.int (nI t)), some (.int 1), some (.long v.toInt64), none, some (.int (nI 8))] [] 161 ((z_ur I1 134 (z_fil (I1 134) (8 * n) 8 (fun c => ((I1 134 (8 * n + c)).toInt64 * v.toInt64 / 100).toInt32))), J, RF w)) (fun _ => rfl) ?_
    refine z_evF (mt (show _ ↔ 8 < 8 from z_ltN rfl rfl (by omega) (by omega)).mp (by omega)) ?_
    refine z_evL ?_
    refine z_evG 11 (y := some (.inr (some (.int (((I1 127 9) + 1) - 1)), 161, (z_u2 (z_ur I1 134 (z_fil (I1 134) (8 * n) 8 (fun c => ((I1 134 (8 * n + c)).toInt64 * v.toInt64 / 100).toInt32))) 127 9 ((I1 127 9) + 1)), J, RF w))) (fun _ => rfl) ?_
    rw [show (((I1 127 9) + 1) - 1 : Int32) = nI n from (z_predE (z_addE h1 rfl))]
    rw [show ((I1 127 9) + 1 : Int32) = nI (n + 1) from (z_addE h1 rfl)]
    exact z_evR rfl
  · show z_Ev E (d + 4) z_m192 83 [some (.ref 127), some (.int (nI l)), some (.int (nI t)), some (.int 1), some (.long v.toInt64), none, some (.int (nI k))] [] 161 ((z_ur I1 134 (z_fil (I1 134) (8 * n) k (fun c => ((I1 134 (8 * n + c)).toInt64 * v.toInt64 / 100).toInt32))), J, RF w) _
    have nx : (True) → z_Ev E (d + 4) z_m192 83 [some (.ref 127), some (.int (nI l)), some (.int (nI t)), some (.int 1), some (.long v.toInt64), none, some (.int (nI (k + 1)))] [] 161 ((z_ur I1 134 (z_fil (I1 134) (8 * n) (k + 1) (fun c => ((I1 134 (8 * n + c)).toInt64 * v.toInt64 / 100).toInt32))), J, RF w) _ := next
    refine z_evG 3 (y := if (nI k) < 8 then z_go 90 [some (.ref 127), some (.int (nI l)), some (.int (nI t)), some (.int 1), some (.long v.toInt64), none, some (.int (nI k))] [] 161 ((z_ur I1 134 (z_fil (I1 134) (8 * n) k (fun c => ((I1 134 (8 * n + c)).toInt64 * v.toInt64 / 100).toInt32))), J, RF w) else z_go 135 [some (.ref 127), some (.int (nI l)), some (.int (nI t)), some (.int 1), some (.long v.toInt64), none, some (.int (nI k))] [] 161 ((z_ur I1 134 (z_fil (I1 134) (8 * n) k (fun c => ((I1 134 (8 * n + c)).toInt64 * v.toInt64 / 100).toInt32))), J, RF w)) (fun _ => rfl) ?_
    refine z_evT ((show _ ↔ k < 8 from z_ltN rfl rfl (by omega) (by omega)).mpr (by omega)) ?_
    refine z_evL ?_
    refine z_evG 17 (y := z_ild (z_ia E 161 ((z_ur I1 134 (z_fil (I1 134) (8 * n) k (fun c => ((I1 134 (8 * n + c)).toInt64 * v.toInt64 / 100).toInt32))), J, RF w) 134) ((8 * (I1 127 9)) + (nI k)) fun vv => z_go 119 [some (.ref 127), some (.int (nI l)), some (.int (nI t)), some (.int 1), some (.long v.toInt64), none, some (.int (nI k))] [.int vv, .int ((8 * (I1 127 9)) + (nI k)), .ref 134] 161 ((z_ur I1 134 (z_fil (I1 134) (8 * n) k (fun c => ((I1 134 (8 * n + c)).toInt64 * v.toInt64 / 100).toInt32))), J, RF w)) (fun _ => rfl) ?_
    refine z_evBn (N := 192) (f := ((z_ur I1 134 (z_fil (I1 134) (8 * n) k (fun c => ((I1 134 (8 * n + c)).toInt64 * v.toInt64 / 100).toInt32))) 134)) (k := (8 * n + k)) rfl (z_addE (z_mulE rfl h1) rfl) (by omega) ?_
    refine z_evL ?_
    rw [show (z_ur I1 134 (z_fil (I1 134) (8 * n) k (fun c => ((I1 134 (8 * n + c)).toInt64 * v.toInt64 / 100).toInt32))) 134 (8 * n + k) = I1 134 (8 * n + k) from ((congrFun (z_ur_same _ _ _) _).trans (z_fil_ge (by omega)))]
    refine z_evG 5 (y := z_ck (!decide ((100 : Int64) = 0)) (z_go 127 [some (.ref 127), some (.int (nI l)), some (.int (nI t)), some (.int 1), some (.long v.toInt64), none, some (.int (nI k))] [.long ((((I1 134 (8 * n + k)).toInt64) * v.toInt64) / 100), .int ((8 * (I1 127 9)) + (nI k)), .ref 134] 161 ((z_ur I1 134 (z_fil (I1 134) (8 * n) k (fun c => ((I1 134 (8 * n + c)).toInt64 * v.toInt64 / 100).toInt32))), J, RF w))) (fun _ => rfl) ?_
    refine z_evC (by decide) ?_
    refine z_evL ?_
    refine z_evG 2 (y := z_ck (z_in ((8 * (I1 127 9)) + (nI k)) 192) (z_go 129 [some (.ref 127), some (.int (nI l)), some (.int (nI t)), some (.int 1), some (.long v.toInt64), none, some (.int (nI k))] [] 161 ((z_u2 (z_ur I1 134 (z_fil (I1 134) (8 * n) k (fun c => ((I1 134 (8 * n + c)).toInt64 * v.toInt64 / 100).toInt32))) 134 (((8 * (I1 127 9)) + (nI k)).toNatClampNeg) (((((I1 134 (8 * n + k)).toInt64) * v.toInt64) / 100).toInt32)), J, RF w))) (fun _ => rfl) ?_
    refine z_evC (z_inN (k := 8 * n + k) (z_addE (z_mulE rfl h1) rfl) (by omega) (by decide)) ?_
    refine z_evL ?_
    rw [show (((8 * (I1 127 9)) + (nI k) : Int32)).toNatClampNeg = 8 * n + k from z_natE (z_addE (z_mulE rfl h1) rfl) (by omega)]
    refine z_evG 2 (y := z_go 83 [some (.ref 127), some (.int (nI l)), some (.int (nI t)), some (.int 1), some (.long v.toInt64), none, some (.int ((nI k) + 1))] [] 161 ((z_u2 (z_ur I1 134 (z_fil (I1 134) (8 * n) k (fun c => ((I1 134 (8 * n + c)).toInt64 * v.toInt64 / 100).toInt32))) 134 (8 * n + k) (((((I1 134 (8 * n + k)).toInt64) * v.toInt64) / 100).toInt32)), J, RF w)) (fun _ => rfl) ?_
    refine z_evL ?_
    have e := z_fil_s I1 134 (8 * n) k (fun c => ((I1 134 (8 * n + c)).toInt64 * v.toInt64 / 100).toInt32)
    rw [nI_1 k]
    rw [← e] at nx
    exact nx trivial
