-- TRUE by the class and by the reference
theorem z_apa_congr {A A' B B' R R' : Nat → Int32} (h : ∀ c, c < 8 → A c = A' c) (h2 : ∀ c, c < 8 → B c = B' c) (h3 : ∀ c, c < 8 → R c = R' c) : z_apa A B R = z_apa A' B' R' := z_fo8 (fun k hk x => by rw [h k hk, h2 k hk, h3 k hk])
theorem s_fx_congr {A A' B B' : Nat → Int32} {R R' : Nat → Nat → Int32} {q t : Nat} (h : ∀ c, c < 8 → A c = A' c) (h2 : ∀ c, c < 8 → B c = B' c) (h3 : t < q → ∀ c, c < 8 → R t c = R' t c) : s_fx A B R q t = s_fx A' B' R' q t := by
  unfold s_fx
  by_cases g : t < q
  · rw [if_pos g, if_pos g, z_apa_congr h h2 (h3 g)]
  · rw [if_neg g, if_neg g]
theorem s_fm_congr {A A' B B' : Nat → Int32} {R R' : Nat → Nat → Int32} {q t : Nat} (h : ∀ c, c < 8 → A c = A' c) (h2 : ∀ c, c < 8 → B c = B' c) (h3 : t < q → ∀ c, c < 8 → R t c = R' t c) : s_fm A B R q t = s_fm A' B' R' q t := by
  unfold s_fm
  by_cases g : t < q
  · rw [if_pos g, if_pos g, z_see_congr h (h3 g), z_see_congr h2 (h3 g)]
  · rw [if_neg g, if_neg g]
set_option maxRecDepth 20000 in
theorem x_tru_s (E : zE) (d : Nat) (I : Nat → Nat → Int32) (J : Nat → Nat → Int64) (w : Nat) (e t x y : Nat) (v : Int32) (I1 I2 I3 : Nat → Nat → Int32) (ht : t < 20) (hx : x < 20) (hy : y < 20) (t1 : z_cl E (d + 4) 120 [.ref 37, .int (nI t), .ref (45 + x), .ref 125] (161, I, J, RF w) = some (none, 161, I1, J, RF w)) (t2 : z_cl E (d + 4) 120 [.ref 37, .int (nI t), .ref (45 + y), .ref 126] (161, I1, J, RF w) = some (none, 161, I2, J, RF w)) (t3 : z_cl E (d + 4) 88 [.ref 79, .int (nI e), .ref 125, .ref 126, .int (I2 38 t), .int (I2 0 13)] (161, I2, J, RF w) = some (some (.int v), 161, I3, J, RF w)) : z_Ev E (d + 4) z_m166 0 [some (.ref 0), some (.int (nI e)), some (.int (nI t)), some (.int (nI x)), some (.int (nI y))] [] 161 (I, J, RF w) (some (.int v), 161, I3, J, RF w) := by
  refine z_evG 7 (y := z_ret (z_cl E (d + 4) 11 [.ref 43, .int (nI x)] (161, (I, J, RF w))) 13 [some (.ref 0), some (.int (nI e)), some (.int (nI t)), some (.int (nI x)), some (.int (nI y))] [.int (nI t), .ref 37]) (fun _ => rfl) ?_
  refine z_evK (v := .ref (45 + x)) (z' := 161) (σ' := (I, J, RF w)) (x_lights_getN E (d + 3) I J w x (by omega)) ?_
  refine z_evG 3 (y := z_ret (z_cl E (d + 4) 120 [.ref 37, .int (nI t), .ref (45 + x), .ref 125] (161, (I, J, RF w))) 20 [some (.ref 0), some (.int (nI e)), some (.int (nI t)), some (.int (nI x)), some (.int (nI y))] []) (fun _ => rfl) ?_
  refine z_evV (z' := 161) (σ' := (I1, J, RF w)) t1 ?_
  refine z_evG 7 (y := z_ret (z_cl E (d + 4) 11 [.ref 43, .int (nI y)] (161, (I1, J, RF w))) 34 [some (.ref 0), some (.int (nI e)), some (.int (nI t)), some (.int (nI x)), some (.int (nI y))] [.int (nI t), .ref 37]) (fun _ => rfl) ?_
  refine z_evK (v := .ref (45 + y)) (z' := 161) (σ' := (I1, J, RF w)) (x_lights_getN E (d + 3) I1 J w y (by omega)) ?_
  refine z_evG 3 (y := z_ret (z_cl E (d + 4) 120 [.ref 37, .int (nI t), .ref (45 + y), .ref 126] (161, (I1, J, RF w))) 41 [some (.ref 0), some (.int (nI e)), some (.int (nI t)), some (.int (nI x)), some (.int (nI y))] []) (fun _ => rfl) ?_
  refine z_evV (z' := 161) (σ' := (I2, J, RF w)) t2 ?_
  refine z_evG 11 (y := z_ret (z_cl E (d + 4) 113 [.ref 37, .int (nI t)] (161, (I2, J, RF w))) 62 [some (.ref 0), some (.int (nI e)), some (.int (nI t)), some (.int (nI x)), some (.int (nI y))] [.ref 126, .ref 125, .int (nI e), .ref 79]) (fun _ => rfl) ?_
  refine z_evK (v := .int (I2 38 t)) (z' := 161) (σ' := (I2, J, RF w)) (x_things_kindOfN E (d + 3) I2 J w t (by omega)) ?_
  refine z_evG 3 (y := z_ret (z_cl E (d + 4) 88 [.ref 79, .int (nI e), .ref 125, .ref 126, .int (I2 38 t), .int (I2 0 13)] (161, (I2, J, RF w))) 69 [some (.ref 0), some (.int (nI e)), some (.int (nI t)), some (.int (nI x)), some (.int (nI y))] []) (fun _ => rfl) ?_
  refine z_evK (v := .int v) (z' := 161) (σ' := (I3, J, RF w)) t3 ?_
  refine z_evG 1 (y := some (.inr (some (.int v), 161, I3, J, RF w))) (fun _ => rfl) ?_
  exact z_evR rfl
set_option maxRecDepth 20000 in
theorem m_tru_s (E : zE) (d : Nat) (I : Nat → Nat → Int32) (J : Nat → Nat → Int64) (w : Nat) (e t x y : Nat) (v : Int32) (I1 I2 I3 I4 : Nat → Nat → Int32) (ht : t < 20) (t1 : z_cl E (d + 6) 189 [.ref 127, .int (nI x), .int (nI t), .int 20] (161, I, J, RF w) = some (none, 161, I1, J, RF w)) (t2 : z_cl E (d + 6) 189 [.ref 127, .int (nI y), .int (nI t), .int 21] (161, I1, J, RF w) = some (none, 161, I2, J, RF w)) (t3 : z_cl E (d + 6) 218 [.ref 127, .int (nI e), .int 20, .int 21, .int (I2 129 t)] (161, I2, J, RF w) = some (none, 161, I3, J, RF w)) (t4 : z_cl E (d + 6) 214 [.ref 127, .int (I3 127 20)] (161, I3, J, RF w) = some (some (.int v), 161, I4, J, RF w)) : z_Ev E (d + 6) z_m221 0 [some (.ref 127), some (.int (nI e)), some (.int (nI t)), some (.int (nI x)), some (.int (nI y))] [] 161 (I, J, RF w) (some (.int (I4 127 35)), 161, I4, J, RF w) := by
  refine z_evG 5 (y := z_ret (z_cl E (d + 6) 189 [.ref 127, .int (nI x), .int (nI t), .int 20] (161, (I, J, RF w))) 8 [some (.ref 127), some (.int (nI e)), some (.int (nI t)), some (.int (nI x)), some (.int (nI y))] []) (fun _ => rfl) ?_
  refine z_evV (z' := 161) (σ' := (I1, J, RF w)) t1 ?_
  refine z_evG 5 (y := z_ret (z_cl E (d + 6) 189 [.ref 127, .int (nI y), .int (nI t), .int 21] (161, (I1, J, RF w))) 17 [some (.ref 127), some (.int (nI e)), some (.int (nI t)), some (.int (nI x)), some (.int (nI y))] []) (fun _ => rfl) ?_
  refine z_evV (z' := 161) (σ' := (I2, J, RF w)) t2 ?_
  refine z_evG 8 (y := z_ild (z_ia E 161 (I2, J, RF w) 129) (nI t) fun vv => z_go 29 [some (.ref 127), some (.int (nI e)), some (.int (nI t)), some (.int (nI x)), some (.int (nI y))] [.int vv, .int 21, .int 20, .int (nI e), .ref 127] 161 (I2, J, RF w)) (fun _ => rfl) ?_
  refine z_evBn (N := 20) (f := (I2 129)) (k := t) rfl rfl (by omega) ?_
  refine z_evL ?_
  refine z_evG 1 (y := z_ret (z_cl E (d + 6) 218 [.ref 127, .int (nI e), .int 20, .int 21, .int (I2 129 t)] (161, (I2, J, RF w))) 32 [some (.ref 127), some (.int (nI e)), some (.int (nI t)), some (.int (nI x)), some (.int (nI y))] []) (fun _ => rfl) ?_
  refine z_evV (z' := 161) (σ' := (I3, J, RF w)) t3 ?_
  refine z_evG 4 (y := z_ret (z_cl E (d + 6) 214 [.ref 127, .int (I3 127 20)] (161, (I3, J, RF w))) 40 [some (.ref 127), some (.int (nI e)), some (.int (nI t)), some (.int (nI x)), some (.int (nI y))] []) (fun _ => rfl) ?_
  refine z_evK (v := .int v) (z' := 161) (σ' := (I4, J, RF w)) t4 ?_
  refine z_evG 4 (y := some (.inr (some (.int (I4 127 35)), 161, I4, J, RF w))) (fun _ => rfl) ?_
  exact z_evR rfl
set_option maxRecDepth 20000 in
/-- LampHouse.like -/
theorem x_like_bad (E : zE) (d : Nat) (I : Nat → Nat → Int32) (J : Nat → Nat → Int64) (w : Nat) (e a b : Int32) (hbad : ¬ ((¬ e < 0 ∧ e < I 65 3) ∧ (¬ a < 0 ∧ a < I 43 1) ∧ (¬ b < 0 ∧ b < I 43 1))) : z_cl E (d + 5) 144 [.ref 0, .int e, .int a, .int b] (161, I, J, RF w) = some (some (.long (-4611686018427387904)), 161, I, J, RF w) := by
  refine z_call (d := d + 4) (M := z_m144) rfl rfl ?_
  refine z_evG 4 (y := z_ret (z_cl E (d + 4) 15 [.ref 65, .int e] (161, (I, J, RF w))) 8 [some (.ref 0), some (.int e), some (.int a), some (.int b)] []) (fun _ => rfl) ?_
  refine z_evK (v := .int (z_bo (¬ e < 0 ∧ e < I 65 3))) (z' := 161) (σ' := (I, J, RF w)) (x_eyes_has E (d + 3) I J w e) ?_
  refine z_evG 1 (y := if (z_bo (¬ e < 0 ∧ e < I 65 3)) = 0 then z_go 33 [some (.ref 0), some (.int e), some (.int a), some (.int b)] [] 161 (I, J, RF w) else z_go 11 [some (.ref 0), some (.int e), some (.int a), some (.int b)] [] 161 (I, J, RF w)) (fun _ => rfl) ?_
  refine z_evO (fun h1 => ?_) (fun h1 => ?_)
  · refine z_evL ?_
    refine z_evG 2 (y := some (.inr (some (.long (-4611686018427387904)), 161, I, J, RF w))) (fun _ => rfl) ?_
    exact z_evR rfl
  · refine z_evL ?_
    refine z_evG 4 (y := z_ret (z_cl E (d + 4) 8 [.ref 43, .int a] (161, (I, J, RF w))) 19 [some (.ref 0), some (.int e), some (.int a), some (.int b)] []) (fun _ => rfl) ?_
    refine z_evK (v := .int (z_bo (¬ a < 0 ∧ a < I 43 1))) (z' := 161) (σ' := (I, J, RF w)) (x_lights_has E (d + 3) I J w a) ?_
    refine z_evG 1 (y := if (z_bo (¬ a < 0 ∧ a < I 43 1)) = 0 then z_go 33 [some (.ref 0), some (.int e), some (.int a), some (.int b)] [] 161 (I, J, RF w) else z_go 22 [some (.ref 0), some (.int e), some (.int a), some (.int b)] [] 161 (I, J, RF w)) (fun _ => rfl) ?_
    refine z_evO (fun h2 => ?_) (fun h2 => ?_)
    · refine z_evL ?_
      refine z_evG 2 (y := some (.inr (some (.long (-4611686018427387904)), 161, I, J, RF w))) (fun _ => rfl) ?_
      exact z_evR rfl
    · refine z_evL ?_
      refine z_evG 4 (y := z_ret (z_cl E (d + 4) 8 [.ref 43, .int b] (161, (I, J, RF w))) 30 [some (.ref 0), some (.int e), some (.int a), some (.int b)] []) (fun _ => rfl) ?_
      refine z_evK (v := .int (z_bo (¬ b < 0 ∧ b < I 43 1))) (z' := 161) (σ' := (I, J, RF w)) (x_lights_has E (d + 3) I J w b) ?_
      refine z_evG 1 (y := if (z_bo (¬ b < 0 ∧ b < I 43 1)) = 0 then z_go 33 [some (.ref 0), some (.int e), some (.int a), some (.int b)] [] 161 (I, J, RF w) else z_go 37 [some (.ref 0), some (.int e), some (.int a), some (.int b)] [] 161 (I, J, RF w)) (fun _ => rfl) ?_
      refine z_evO (fun h3 => ?_) (fun h3 => ?_)
      · refine z_evL ?_
        refine z_evG 2 (y := some (.inr (some (.long (-4611686018427387904)), 161, I, J, RF w))) (fun _ => rfl) ?_
        exact z_evR rfl
      · refine z_evL ?_
        exact absurd ⟨h1, h2, h3⟩ hbad
set_option maxRecDepth 20000 in
/-- LampHouseModel.like -/
theorem m_like_bad (E : zE) (d : Nat) (I : Nat → Nat → Int32) (J : Nat → Nat → Int64) (w : Nat) (e a b : Int32) (hbad : ¬ ((¬ e < 0 ∧ ¬ I 127 11 - 1 < e) ∧ (¬ a < 0 ∧ ¬ I 127 9 - 1 < a) ∧ (¬ b < 0 ∧ ¬ I 127 9 - 1 < b))) : z_cl E (d + 8) 220 [.ref 127, .int e, .int a, .int b] (161, I, J, RF w) = some (some (.long (-4611686018427387904)), 161, I, J, RF w) := by
  refine z_call (d := d + 7) (M := z_m220) rfl rfl ?_
  refine z_evG 3 (y := z_ret (z_cl E (d + 7) 185 [.ref 127, .int e] (161, (I, J, RF w))) 5 [some (.ref 127), some (.int e), some (.int a), some (.int b)] []) (fun _ => rfl) ?_
  refine z_evK (v := .int (z_bo (¬ e < 0 ∧ ¬ I 127 11 - 1 < e))) (z' := 161) (σ' := (I, J, RF w)) (m_isEye E (d + 5) I J w e) ?_
  refine z_evG 1 (y := if (z_bo (¬ e < 0 ∧ ¬ I 127 11 - 1 < e)) = 0 then z_go 35 [some (.ref 127), some (.int e), some (.int a), some (.int b)] [] 161 (I, J, RF w) else z_go 8 [some (.ref 127), some (.int e), some (.int a), some (.int b)] [] 161 (I, J, RF w)) (fun _ => rfl) ?_
  refine z_evO (fun h1 => ?_) (fun h1 => ?_)
  · refine z_evL ?_
    refine z_evG 2 (y := some (.inr (some (.long (-4611686018427387904)), 161, I, J, RF w))) (fun _ => rfl) ?_
    exact z_evR rfl
  · refine z_evL ?_
    refine z_evG 3 (y := z_ret (z_cl E (d + 7) 184 [.ref 127, .int a] (161, (I, J, RF w))) 13 [some (.ref 127), some (.int e), some (.int a), some (.int b)] []) (fun _ => rfl) ?_
    refine z_evK (v := .int (z_bo (¬ a < 0 ∧ ¬ I 127 9 - 1 < a))) (z' := 161) (σ' := (I, J, RF w)) (m_isLight E (d + 5) I J w a) ?_
    refine z_evG 1 (y := if (z_bo (¬ a < 0 ∧ ¬ I 127 9 - 1 < a)) = 0 then z_go 35 [some (.ref 127), some (.int e), some (.int a), some (.int b)] [] 161 (I, J, RF w) else z_go 16 [some (.ref 127), some (.int e), some (.int a), some (.int b)] [] 161 (I, J, RF w)) (fun _ => rfl) ?_
    refine z_evO (fun h2 => ?_) (fun h2 => ?_)
    · refine z_evL ?_
      refine z_evG 2 (y := some (.inr (some (.long (-4611686018427387904)), 161, I, J, RF w))) (fun _ => rfl) ?_
      exact z_evR rfl
    · refine z_evL ?_
      refine z_evG 3 (y := z_ret (z_cl E (d + 7) 184 [.ref 127, .int b] (161, (I, J, RF w))) 21 [some (.ref 127), some (.int e), some (.int a), some (.int b)] []) (fun _ => rfl) ?_
      refine z_evK (v := .int (z_bo (¬ b < 0 ∧ ¬ I 127 9 - 1 < b))) (z' := 161) (σ' := (I, J, RF w)) (m_isLight E (d + 5) I J w b) ?_
      refine z_evG 1 (y := if (z_bo (¬ b < 0 ∧ ¬ I 127 9 - 1 < b)) = 0 then z_go 35 [some (.ref 127), some (.int e), some (.int a), some (.int b)] [] 161 (I, J, RF w) else z_go 24 [some (.ref 127), some (.int e), some (.int a), some (.int b)] [] 161 (I, J, RF w)) (fun _ => rfl) ?_
      refine z_evO (fun h3 => ?_) (fun h3 => ?_)
      · refine z_evL ?_
        refine z_evG 2 (y := some (.inr (some (.long (-4611686018427387904)), 161, I, J, RF w))) (fun _ => rfl) ?_
        exact z_evR rfl
      · refine z_evL ?_
        exact absurd ⟨h1, h2, h3⟩ hbad
set_option maxRecDepth 20000 in
theorem x_like_s (E : zE) (d : Nat) (I : Nat → Nat → Int32) (J : Nat → Nat → Int64) (w : Nat) (e a b n m : Nat) (v : Int32) (I1 : Nat → Nat → Int32) (h_n : I 65 3 = nI n) (hm_n : n ≤ 8) (h_m : I 43 1 = nI m) (hm_m : m ≤ 20) (hl_e : e < n) (hl_a : a < m) (hl_b : b < m) (t1 : z_cl E (d + 4) 87 [.ref 79, .int (nI e), .ref (45 + a), .ref (45 + b), .int (I 0 13)] (161, I, J, RF w) = some (some (.int v), 161, I1, J, RF w)) : z_Ev E (d + 4) z_m144 0 [some (.ref 0), some (.int (nI e)), some (.int (nI a)), some (.int (nI b))] [] 161 (I, J, RF w) (some (.long v.toInt64), 161, I1, J, RF w) := by
  refine z_evG 4 (y := z_ret (z_cl E (d + 4) 15 [.ref 65, .int (nI e)] (161, (I, J, RF w))) 8 [some (.ref 0), some (.int (nI e)), some (.int (nI a)), some (.int (nI b))] []) (fun _ => rfl) ?_
  refine z_evK (v := .int (z_bo (¬ (nI e) < 0 ∧ (nI e) < I 65 3))) (z' := 161) (σ' := (I, J, RF w)) (x_eyes_has E (d + 3) I J w (nI e)) ?_
  refine z_evG 1 (y := if (z_bo (¬ (nI e) < 0 ∧ (nI e) < I 65 3)) = 0 then z_go 33 [some (.ref 0), some (.int (nI e)), some (.int (nI a)), some (.int (nI b))] [] 161 (I, J, RF w) else z_go 11 [some (.ref 0), some (.int (nI e)), some (.int (nI a)), some (.int (nI b))] [] 161 (I, J, RF w)) (fun _ => rfl) ?_
  refine z_evF (fun q0 => z_bo_0.mp q0 ⟨(mt (show _ ↔ e < 0 from z_ltN rfl rfl (by omega) (by omega)).mp (by omega)), ((show _ ↔ e < n from z_ltN rfl h_n (by omega) (by omega)).mpr (by omega))⟩) ?_
  refine z_evL ?_
  refine z_evG 4 (y := z_ret (z_cl E (d + 4) 8 [.ref 43, .int (nI a)] (161, (I, J, RF w))) 19 [some (.ref 0), some (.int (nI e)), some (.int (nI a)), some (.int (nI b))] []) (fun _ => rfl) ?_
  refine z_evK (v := .int (z_bo (¬ (nI a) < 0 ∧ (nI a) < I 43 1))) (z' := 161) (σ' := (I, J, RF w)) (x_lights_has E (d + 3) I J w (nI a)) ?_
  refine z_evG 1 (y := if (z_bo (¬ (nI a) < 0 ∧ (nI a) < I 43 1)) = 0 then z_go 33 [some (.ref 0), some (.int (nI e)), some (.int (nI a)), some (.int (nI b))] [] 161 (I, J, RF w) else z_go 22 [some (.ref 0), some (.int (nI e)), some (.int (nI a)), some (.int (nI b))] [] 161 (I, J, RF w)) (fun _ => rfl) ?_
  refine z_evF (fun q0 => z_bo_0.mp q0 ⟨(mt (show _ ↔ a < 0 from z_ltN rfl rfl (by omega) (by omega)).mp (by omega)), ((show _ ↔ a < m from z_ltN rfl h_m (by omega) (by omega)).mpr (by omega))⟩) ?_
  refine z_evL ?_
  refine z_evG 4 (y := z_ret (z_cl E (d + 4) 8 [.ref 43, .int (nI b)] (161, (I, J, RF w))) 30 [some (.ref 0), some (.int (nI e)), some (.int (nI a)), some (.int (nI b))] []) (fun _ => rfl) ?_
  refine z_evK (v := .int (z_bo (¬ (nI b) < 0 ∧ (nI b) < I 43 1))) (z' := 161) (σ' := (I, J, RF w)) (x_lights_has E (d + 3) I J w (nI b)) ?_
  refine z_evG 1 (y := if (z_bo (¬ (nI b) < 0 ∧ (nI b) < I 43 1)) = 0 then z_go 33 [some (.ref 0), some (.int (nI e)), some (.int (nI a)), some (.int (nI b))] [] 161 (I, J, RF w) else z_go 37 [some (.ref 0), some (.int (nI e)), some (.int (nI a)), some (.int (nI b))] [] 161 (I, J, RF w)) (fun _ => rfl) ?_
  refine z_evF (fun q0 => z_bo_0.mp q0 ⟨(mt (show _ ↔ b < 0 from z_ltN rfl rfl (by omega) (by omega)).mp (by omega)), ((show _ ↔ b < m from z_ltN rfl h_m (by omega) (by omega)).mpr (by omega))⟩) ?_
  refine z_evL ?_
  refine z_evG 7 (y := z_ret (z_cl E (d + 4) 11 [.ref 43, .int (nI a)] (161, (I, J, RF w))) 50 [some (.ref 0), some (.int (nI e)), some (.int (nI a)), some (.int (nI b))] [.int (nI e), .ref 79]) (fun _ => rfl) ?_
  refine z_evK (v := .ref (45 + a)) (z' := 161) (σ' := (I, J, RF w)) (x_lights_getN E (d + 3) I J w a (by omega)) ?_
  refine z_evG 4 (y := z_ret (z_cl E (d + 4) 11 [.ref 43, .int (nI b)] (161, (I, J, RF w))) 58 [some (.ref 0), some (.int (nI e)), some (.int (nI a)), some (.int (nI b))] [.ref (45 + a), .int (nI e), .ref 79]) (fun _ => rfl) ?_
  refine z_evK (v := .ref (45 + b)) (z' := 161) (σ' := (I, J, RF w)) (x_lights_getN E (d + 3) I J w b (by omega)) ?_
  refine z_evG 3 (y := z_ret (z_cl E (d + 4) 87 [.ref 79, .int (nI e), .ref (45 + a), .ref (45 + b), .int (I 0 13)] (161, (I, J, RF w))) 65 [some (.ref 0), some (.int (nI e)), some (.int (nI a)), some (.int (nI b))] []) (fun _ => rfl) ?_
  refine z_evK (v := .int v) (z' := 161) (σ' := (I1, J, RF w)) t1 ?_
  refine z_evG 2 (y := some (.inr (some (.long v.toInt64), 161, I1, J, RF w))) (fun _ => rfl) ?_
  exact z_evR rfl
set_option maxRecDepth 20000 in
theorem m_like_s (E : zE) (d : Nat) (I : Nat → Nat → Int32) (J : Nat → Nat → Int64) (w : Nat) (e a b n m : Nat) (v : Int32) (I1 : Nat → Nat → Int32) (h_n : I 127 11 = nI n) (hm_n : n ≤ 8) (h_m : I 127 9 = nI m) (hm_m : m ≤ 20) (hl_e : e < n) (hl_a : a < m) (hl_b : b < m) (t1 : z_cl E (d + 7) 219 [.ref 127, .int (nI e), .int (nI a), .int (nI b)] (161, I, J, RF w) = some (some (.int v), 161, I1, J, RF w)) : z_Ev E (d + 7) z_m220 0 [some (.ref 127), some (.int (nI e)), some (.int (nI a)), some (.int (nI b))] [] 161 (I, J, RF w) (some (.long v.toInt64), 161, I1, J, RF w) := by
  refine z_evG 3 (y := z_ret (z_cl E (d + 7) 185 [.ref 127, .int (nI e)] (161, (I, J, RF w))) 5 [some (.ref 127), some (.int (nI e)), some (.int (nI a)), some (.int (nI b))] []) (fun _ => rfl) ?_
  refine z_evK (v := .int (z_bo (¬ (nI e) < 0 ∧ ¬ I 127 11 - 1 < (nI e)))) (z' := 161) (σ' := (I, J, RF w)) (m_isEye E (d + 5) I J w (nI e)) ?_
  refine z_evG 1 (y := if (z_bo (¬ (nI e) < 0 ∧ ¬ I 127 11 - 1 < (nI e))) = 0 then z_go 35 [some (.ref 127), some (.int (nI e)), some (.int (nI a)), some (.int (nI b))] [] 161 (I, J, RF w) else z_go 8 [some (.ref 127), some (.int (nI e)), some (.int (nI a)), some (.int (nI b))] [] 161 (I, J, RF w)) (fun _ => rfl) ?_
  refine z_evF (fun q0 => z_bo_0.mp q0 ⟨(mt (show _ ↔ e < 0 from z_ltN rfl rfl (by omega) (by omega)).mp (by omega)), (z_plt h_n rfl (by omega) (by omega))⟩) ?_
  refine z_evL ?_
  refine z_evG 3 (y := z_ret (z_cl E (d + 7) 184 [.ref 127, .int (nI a)] (161, (I, J, RF w))) 13 [some (.ref 127), some (.int (nI e)), some (.int (nI a)), some (.int (nI b))] []) (fun _ => rfl) ?_
  refine z_evK (v := .int (z_bo (¬ (nI a) < 0 ∧ ¬ I 127 9 - 1 < (nI a)))) (z' := 161) (σ' := (I, J, RF w)) (m_isLight E (d + 5) I J w (nI a)) ?_
  refine z_evG 1 (y := if (z_bo (¬ (nI a) < 0 ∧ ¬ I 127 9 - 1 < (nI a))) = 0 then z_go 35 [some (.ref 127), some (.int (nI e)), some (.int (nI a)), some (.int (nI b))] [] 161 (I, J, RF w) else z_go 16 [some (.ref 127), some (.int (nI e)), some (.int (nI a)), some (.int (nI b))] [] 161 (I, J, RF w)) (fun _ => rfl) ?_
  refine z_evF (fun q0 => z_bo_0.mp q0 ⟨(mt (show _ ↔ a < 0 from z_ltN rfl rfl (by omega) (by omega)).mp (by omega)), (z_plt h_m rfl (by omega) (by omega))⟩) ?_
  refine z_evL ?_
  refine z_evG 3 (y := z_ret (z_cl E (d + 7) 184 [.ref 127, .int (nI b)] (161, (I, J, RF w))) 21 [some (.ref 127), some (.int (nI e)), some (.int (nI a)), some (.int (nI b))] []) (fun _ => rfl) ?_
  refine z_evK (v := .int (z_bo (¬ (nI b) < 0 ∧ ¬ I 127 9 - 1 < (nI b)))) (z' := 161) (σ' := (I, J, RF w)) (m_isLight E (d + 5) I J w (nI b)) ?_
  refine z_evG 1 (y := if (z_bo (¬ (nI b) < 0 ∧ ¬ I 127 9 - 1 < (nI b))) = 0 then z_go 35 [some (.ref 127), some (.int (nI e)), some (.int (nI a)), some (.int (nI b))] [] 161 (I, J, RF w) else z_go 24 [some (.ref 127), some (.int (nI e)), some (.int (nI a)), some (.int (nI b))] [] 161 (I, J, RF w)) (fun _ => rfl) ?_
  refine z_evF (fun q0 => z_bo_0.mp q0 ⟨(mt (show _ ↔ b < 0 from z_ltN rfl rfl (by omega) (by omega)).mp (by omega)), (z_plt h_m rfl (by omega) (by omega))⟩) ?_
  refine z_evL ?_
  refine z_evG 5 (y := z_ret (z_cl E (d + 7) 219 [.ref 127, .int (nI e), .int (nI a), .int (nI b)] (161, (I, J, RF w))) 31 [some (.ref 127), some (.int (nI e)), some (.int (nI a)), some (.int (nI b))] []) (fun _ => rfl) ?_
  refine z_evK (v := .int v) (z' := 161) (σ' := (I1, J, RF w)) t1 ?_
  refine z_evG 3 (y := some (.inr (some (.long v.toInt64), 161, I1, J, RF w))) (fun _ => rfl) ?_
  exact z_evR rfl
set_option maxRecDepth 20000 in
/-- LampHouse.trueOf -/
theorem x_trueOf_bad (E : zE) (d : Nat) (I : Nat → Nat → Int32) (J : Nat → Nat → Int64) (w : Nat) (e t x y : Int32) (hbad : ¬ ((¬ e < 0 ∧ e < I 65 3) ∧ (¬ t < 0 ∧ t < I 37 7) ∧ (¬ x < 0 ∧ x < I 43 1) ∧ (¬ y < 0 ∧ y < I 43 1))) : z_cl E (d + 6) 146 [.ref 0, .int e, .int t, .int x, .int y] (161, I, J, RF w) = some (some (.long (-4611686018427387904)), 161, I, J, RF w) := by
  refine z_call (d := d + 5) (M := z_m146) rfl rfl ?_
  refine z_evG 4 (y := z_ret (z_cl E (d + 5) 15 [.ref 65, .int e] (161, (I, J, RF w))) 8 [some (.ref 0), some (.int e), some (.int t), some (.int x), some (.int y)] []) (fun _ => rfl) ?_
  refine z_evK (v := .int (z_bo (¬ e < 0 ∧ e < I 65 3))) (z' := 161) (σ' := (I, J, RF w)) (x_eyes_has E (d + 4) I J w e) ?_
  refine z_evG 1 (y := if (z_bo (¬ e < 0 ∧ e < I 65 3)) = 0 then z_go 45 [some (.ref 0), some (.int e), some (.int t), some (.int x), some (.int y)] [] 161 (I, J, RF w) else z_go 11 [some (.ref 0), some (.int e), some (.int t), some (.int x), some (.int y)] [] 161 (I, J, RF w)) (fun _ => rfl) ?_
  refine z_evO (fun h1 => ?_) (fun h1 => ?_)
  · refine z_evL ?_
    refine z_evG 2 (y := some (.inr (some (.long (-4611686018427387904)), 161, I, J, RF w))) (fun _ => rfl) ?_
    exact z_evR rfl
  · refine z_evL ?_
    refine z_evG 4 (y := z_ret (z_cl E (d + 5) 108 [.ref 37, .int t] (161, (I, J, RF w))) 19 [some (.ref 0), some (.int e), some (.int t), some (.int x), some (.int y)] []) (fun _ => rfl) ?_
    refine z_evK (v := .int (z_bo (¬ t < 0 ∧ t < I 37 7))) (z' := 161) (σ' := (I, J, RF w)) (x_things_has E (d + 4) I J w t) ?_
    refine z_evG 1 (y := if (z_bo (¬ t < 0 ∧ t < I 37 7)) = 0 then z_go 45 [some (.ref 0), some (.int e), some (.int t), some (.int x), some (.int y)] [] 161 (I, J, RF w) else z_go 22 [some (.ref 0), some (.int e), some (.int t), some (.int x), some (.int y)] [] 161 (I, J, RF w)) (fun _ => rfl) ?_
    refine z_evO (fun h2 => ?_) (fun h2 => ?_)
    · refine z_evL ?_
      refine z_evG 2 (y := some (.inr (some (.long (-4611686018427387904)), 161, I, J, RF w))) (fun _ => rfl) ?_
      exact z_evR rfl
    · refine z_evL ?_
      refine z_evG 4 (y := z_ret (z_cl E (d + 5) 8 [.ref 43, .int x] (161, (I, J, RF w))) 30 [some (.ref 0), some (.int e), some (.int t), some (.int x), some (.int y)] []) (fun _ => rfl) ?_
      refine z_evK (v := .int (z_bo (¬ x < 0 ∧ x < I 43 1))) (z' := 161) (σ' := (I, J, RF w)) (x_lights_has E (d + 4) I J w x) ?_
      refine z_evG 1 (y := if (z_bo (¬ x < 0 ∧ x < I 43 1)) = 0 then z_go 45 [some (.ref 0), some (.int e), some (.int t), some (.int x), some (.int y)] [] 161 (I, J, RF w) else z_go 33 [some (.ref 0), some (.int e), some (.int t), some (.int x), some (.int y)] [] 161 (I, J, RF w)) (fun _ => rfl) ?_
      refine z_evO (fun h3 => ?_) (fun h3 => ?_)
      · refine z_evL ?_
        refine z_evG 2 (y := some (.inr (some (.long (-4611686018427387904)), 161, I, J, RF w))) (fun _ => rfl) ?_
        exact z_evR rfl
      · refine z_evL ?_
        refine z_evG 4 (y := z_ret (z_cl E (d + 5) 8 [.ref 43, .int y] (161, (I, J, RF w))) 42 [some (.ref 0), some (.int e), some (.int t), some (.int x), some (.int y)] []) (fun _ => rfl) ?_
        refine z_evK (v := .int (z_bo (¬ y < 0 ∧ y < I 43 1))) (z' := 161) (σ' := (I, J, RF w)) (x_lights_has E (d + 4) I J w y) ?_
        refine z_evG 1 (y := if (z_bo (¬ y < 0 ∧ y < I 43 1)) = 0 then z_go 45 [some (.ref 0), some (.int e), some (.int t), some (.int x), some (.int y)] [] 161 (I, J, RF w) else z_go 49 [some (.ref 0), some (.int e), some (.int t), some (.int x), some (.int y)] [] 161 (I, J, RF w)) (fun _ => rfl) ?_
        refine z_evO (fun h4 => ?_) (fun h4 => ?_)
        · refine z_evL ?_
          refine z_evG 2 (y := some (.inr (some (.long (-4611686018427387904)), 161, I, J, RF w))) (fun _ => rfl) ?_
          exact z_evR rfl
        · refine z_evL ?_
          exact absurd ⟨h1, h2, h3, h4⟩ hbad
set_option maxRecDepth 20000 in
/-- LampHouseModel.trueOf -/
theorem m_trueOf_bad (E : zE) (d : Nat) (I : Nat → Nat → Int32) (J : Nat → Nat → Int64) (w : Nat) (e t x y : Int32) (hbad : ¬ ((¬ e < 0 ∧ ¬ I 127 11 - 1 < e) ∧ (¬ t < 0 ∧ ¬ I 127 3 - 1 < t) ∧ (¬ x < 0 ∧ ¬ I 127 9 - 1 < x) ∧ (¬ y < 0 ∧ ¬ I 127 9 - 1 < y))) : z_cl E (d + 8) 222 [.ref 127, .int e, .int t, .int x, .int y] (161, I, J, RF w) = some (some (.long (-4611686018427387904)), 161, I, J, RF w) := by
  refine z_call (d := d + 7) (M := z_m222) rfl rfl ?_
  refine z_evG 3 (y := z_ret (z_cl E (d + 7) 185 [.ref 127, .int e] (161, (I, J, RF w))) 5 [some (.ref 127), some (.int e), some (.int t), some (.int x), some (.int y)] []) (fun _ => rfl) ?_
  refine z_evK (v := .int (z_bo (¬ e < 0 ∧ ¬ I 127 11 - 1 < e))) (z' := 161) (σ' := (I, J, RF w)) (m_isEye E (d + 5) I J w e) ?_
  refine z_evG 1 (y := if (z_bo (¬ e < 0 ∧ ¬ I 127 11 - 1 < e)) = 0 then z_go 46 [some (.ref 127), some (.int e), some (.int t), some (.int x), some (.int y)] [] 161 (I, J, RF w) else z_go 8 [some (.ref 127), some (.int e), some (.int t), some (.int x), some (.int y)] [] 161 (I, J, RF w)) (fun _ => rfl) ?_
  refine z_evO (fun h1 => ?_) (fun h1 => ?_)
  · refine z_evL ?_
    refine z_evG 2 (y := some (.inr (some (.long (-4611686018427387904)), 161, I, J, RF w))) (fun _ => rfl) ?_
    exact z_evR rfl
  · refine z_evL ?_
    refine z_evG 3 (y := z_ret (z_cl E (d + 7) 183 [.ref 127, .int t] (161, (I, J, RF w))) 13 [some (.ref 127), some (.int e), some (.int t), some (.int x), some (.int y)] []) (fun _ => rfl) ?_
    refine z_evK (v := .int (z_bo (¬ t < 0 ∧ ¬ I 127 3 - 1 < t))) (z' := 161) (σ' := (I, J, RF w)) (m_isThing E (d + 5) I J w t) ?_
    refine z_evG 1 (y := if (z_bo (¬ t < 0 ∧ ¬ I 127 3 - 1 < t)) = 0 then z_go 46 [some (.ref 127), some (.int e), some (.int t), some (.int x), some (.int y)] [] 161 (I, J, RF w) else z_go 16 [some (.ref 127), some (.int e), some (.int t), some (.int x), some (.int y)] [] 161 (I, J, RF w)) (fun _ => rfl) ?_
    refine z_evO (fun h2 => ?_) (fun h2 => ?_)
    · refine z_evL ?_
      refine z_evG 2 (y := some (.inr (some (.long (-4611686018427387904)), 161, I, J, RF w))) (fun _ => rfl) ?_
      exact z_evR rfl
    · refine z_evL ?_
      refine z_evG 3 (y := z_ret (z_cl E (d + 7) 184 [.ref 127, .int x] (161, (I, J, RF w))) 21 [some (.ref 127), some (.int e), some (.int t), some (.int x), some (.int y)] []) (fun _ => rfl) ?_
      refine z_evK (v := .int (z_bo (¬ x < 0 ∧ ¬ I 127 9 - 1 < x))) (z' := 161) (σ' := (I, J, RF w)) (m_isLight E (d + 5) I J w x) ?_
      refine z_evG 1 (y := if (z_bo (¬ x < 0 ∧ ¬ I 127 9 - 1 < x)) = 0 then z_go 46 [some (.ref 127), some (.int e), some (.int t), some (.int x), some (.int y)] [] 161 (I, J, RF w) else z_go 24 [some (.ref 127), some (.int e), some (.int t), some (.int x), some (.int y)] [] 161 (I, J, RF w)) (fun _ => rfl) ?_
      refine z_evO (fun h3 => ?_) (fun h3 => ?_)
      · refine z_evL ?_
        refine z_evG 2 (y := some (.inr (some (.long (-4611686018427387904)), 161, I, J, RF w))) (fun _ => rfl) ?_
        exact z_evR rfl
      · refine z_evL ?_
        refine z_evG 3 (y := z_ret (z_cl E (d + 7) 184 [.ref 127, .int y] (161, (I, J, RF w))) 30 [some (.ref 127), some (.int e), some (.int t), some (.int x), some (.int y)] []) (fun _ => rfl) ?_
        refine z_evK (v := .int (z_bo (¬ y < 0 ∧ ¬ I 127 9 - 1 < y))) (z' := 161) (σ' := (I, J, RF w)) (m_isLight E (d + 5) I J w y) ?_
        refine z_evG 1 (y := if (z_bo (¬ y < 0 ∧ ¬ I 127 9 - 1 < y)) = 0 then z_go 46 [some (.ref 127), some (.int e), some (.int t), some (.int x), some (.int y)] [] 161 (I, J, RF w) else z_go 33 [some (.ref 127), some (.int e), some (.int t), some (.int x), some (.int y)] [] 161 (I, J, RF w)) (fun _ => rfl) ?_
        refine z_evO (fun h4 => ?_) (fun h4 => ?_)
        · refine z_evL ?_
          refine z_evG 2 (y := some (.inr (some (.long (-4611686018427387904)), 161, I, J, RF w))) (fun _ => rfl) ?_
          exact z_evR rfl
        · refine z_evL ?_
          exact absurd ⟨h1, h2, h3, h4⟩ hbad
set_option maxRecDepth 20000 in
theorem x_trueOf_s (E : zE) (d : Nat) (I : Nat → Nat → Int32) (J : Nat → Nat → Int64) (w : Nat) (e t x y n m o : Nat) (v : Int32) (I1 : Nat → Nat → Int32) (h_n : I 65 3 = nI n) (hm_n : n ≤ 8) (h_m : I 43 1 = nI m) (hm_m : m ≤ 20) (h_o : I 37 7 = nI o) (hm_o : o ≤ 20) (hl_e : e < n) (hl_t : t < o) (hl_x : x < m) (hl_y : y < m) (t1 : z_cl E (d + 5) 166 [.ref 0, .int (nI e), .int (nI t), .int (nI x), .int (nI y)] (161, I, J, RF w) = some (some (.int v), 161, I1, J, RF w)) : z_Ev E (d + 5) z_m146 0 [some (.ref 0), some (.int (nI e)), some (.int (nI t)), some (.int (nI x)), some (.int (nI y))] [] 161 (I, J, RF w) (some (.long v.toInt64), 161, I1, J, RF w) := by
  refine z_evG 4 (y := z_ret (z_cl E (d + 5) 15 [.ref 65, .int (nI e)] (161, (I, J, RF w))) 8 [some (.ref 0), some (.int (nI e)), some (.int (nI t)), some (.int (nI x)), some (.int (nI y))] []) (fun _ => rfl) ?_
  refine z_evK (v := .int (z_bo (¬ (nI e) < 0 ∧ (nI e) < I 65 3))) (z' := 161) (σ' := (I, J, RF w)) (x_eyes_has E (d + 4) I J w (nI e)) ?_
  refine z_evG 1 (y := if (z_bo (¬ (nI e) < 0 ∧ (nI e) < I 65 3)) = 0 then z_go 45 [some (.ref 0), some (.int (nI e)), some (.int (nI t)), some (.int (nI x)), some (.int (nI y))] [] 161 (I, J, RF w) else z_go 11 [some (.ref 0), some (.int (nI e)), some (.int (nI t)), some (.int (nI x)), some (.int (nI y))] [] 161 (I, J, RF w)) (fun _ => rfl) ?_
  refine z_evF (fun q0 => z_bo_0.mp q0 ⟨(mt (show _ ↔ e < 0 from z_ltN rfl rfl (by omega) (by omega)).mp (by omega)), ((show _ ↔ e < n from z_ltN rfl h_n (by omega) (by omega)).mpr (by omega))⟩) ?_
  refine z_evL ?_
  refine z_evG 4 (y := z_ret (z_cl E (d + 5) 108 [.ref 37, .int (nI t)] (161, (I, J, RF w))) 19 [some (.ref 0), some (.int (nI e)), some (.int (nI t)), some (.int (nI x)), some (.int (nI y))] []) (fun _ => rfl) ?_
  refine z_evK (v := .int (z_bo (¬ (nI t) < 0 ∧ (nI t) < I 37 7))) (z' := 161) (σ' := (I, J, RF w)) (x_things_has E (d + 4) I J w (nI t)) ?_
  refine z_evG 1 (y := if (z_bo (¬ (nI t) < 0 ∧ (nI t) < I 37 7)) = 0 then z_go 45 [some (.ref 0), some (.int (nI e)), some (.int (nI t)), some (.int (nI x)), some (.int (nI y))] [] 161 (I, J, RF w) else z_go 22 [some (.ref 0), some (.int (nI e)), some (.int (nI t)), some (.int (nI x)), some (.int (nI y))] [] 161 (I, J, RF w)) (fun _ => rfl) ?_
  refine z_evF (fun q0 => z_bo_0.mp q0 ⟨(mt (show _ ↔ t < 0 from z_ltN rfl rfl (by omega) (by omega)).mp (by omega)), ((show _ ↔ t < o from z_ltN rfl h_o (by omega) (by omega)).mpr (by omega))⟩) ?_
  refine z_evL ?_
  refine z_evG 4 (y := z_ret (z_cl E (d + 5) 8 [.ref 43, .int (nI x)] (161, (I, J, RF w))) 30 [some (.ref 0), some (.int (nI e)), some (.int (nI t)), some (.int (nI x)), some (.int (nI y))] []) (fun _ => rfl) ?_
  refine z_evK (v := .int (z_bo (¬ (nI x) < 0 ∧ (nI x) < I 43 1))) (z' := 161) (σ' := (I, J, RF w)) (x_lights_has E (d + 4) I J w (nI x)) ?_
  refine z_evG 1 (y := if (z_bo (¬ (nI x) < 0 ∧ (nI x) < I 43 1)) = 0 then z_go 45 [some (.ref 0), some (.int (nI e)), some (.int (nI t)), some (.int (nI x)), some (.int (nI y))] [] 161 (I, J, RF w) else z_go 33 [some (.ref 0), some (.int (nI e)), some (.int (nI t)), some (.int (nI x)), some (.int (nI y))] [] 161 (I, J, RF w)) (fun _ => rfl) ?_
  refine z_evF (fun q0 => z_bo_0.mp q0 ⟨(mt (show _ ↔ x < 0 from z_ltN rfl rfl (by omega) (by omega)).mp (by omega)), ((show _ ↔ x < m from z_ltN rfl h_m (by omega) (by omega)).mpr (by omega))⟩) ?_
  refine z_evL ?_
  refine z_evG 4 (y := z_ret (z_cl E (d + 5) 8 [.ref 43, .int (nI y)] (161, (I, J, RF w))) 42 [some (.ref 0), some (.int (nI e)), some (.int (nI t)), some (.int (nI x)), some (.int (nI y))] []) (fun _ => rfl) ?_
  refine z_evK (v := .int (z_bo (¬ (nI y) < 0 ∧ (nI y) < I 43 1))) (z' := 161) (σ' := (I, J, RF w)) (x_lights_has E (d + 4) I J w (nI y)) ?_
  refine z_evG 1 (y := if (z_bo (¬ (nI y) < 0 ∧ (nI y) < I 43 1)) = 0 then z_go 45 [some (.ref 0), some (.int (nI e)), some (.int (nI t)), some (.int (nI x)), some (.int (nI y))] [] 161 (I, J, RF w) else z_go 49 [some (.ref 0), some (.int (nI e)), some (.int (nI t)), some (.int (nI x)), some (.int (nI y))] [] 161 (I, J, RF w)) (fun _ => rfl) ?_
  refine z_evF (fun q0 => z_bo_0.mp q0 ⟨(mt (show _ ↔ y < 0 from z_ltN rfl rfl (by omega) (by omega)).mp (by omega)), ((show _ ↔ y < m from z_ltN rfl h_m (by omega) (by omega)).mpr (by omega))⟩) ?_
  refine z_evL ?_
  refine z_evG 6 (y := z_ret (z_cl E (d + 5) 166 [.ref 0, .int (nI e), .int (nI t), .int (nI x), .int (nI y)] (161, (I, J, RF w))) 58 [some (.ref 0), some (.int (nI e)), some (.int (nI t)), some (.int (nI x)), some (.int (nI y))] []) (fun _ => rfl) ?_
  refine z_evK (v := .int v) (z' := 161) (σ' := (I1, J, RF w)) t1 ?_
  refine z_evG 2 (y := some (.inr (some (.long v.toInt64), 161, I1, J, RF w))) (fun _ => rfl) ?_
  exact z_evR rfl
set_option maxRecDepth 20000 in
theorem m_trueOf_s (E : zE) (d : Nat) (I : Nat → Nat → Int32) (J : Nat → Nat → Int64) (w : Nat) (e t x y n m o : Nat) (v : Int32) (I1 : Nat → Nat → Int32) (h_n : I 127 11 = nI n) (hm_n : n ≤ 8) (h_m : I 127 9 = nI m) (hm_m : m ≤ 20) (h_o : I 127 3 = nI o) (hm_o : o ≤ 20) (hl_e : e < n) (hl_t : t < o) (hl_x : x < m) (hl_y : y < m) (t1 : z_cl E (d + 7) 221 [.ref 127, .int (nI e), .int (nI t), .int (nI x), .int (nI y)] (161, I, J, RF w) = some (some (.int v), 161, I1, J, RF w)) : z_Ev E (d + 7) z_m222 0 [some (.ref 127), some (.int (nI e)), some (.int (nI t)), some (.int (nI x)), some (.int (nI y))] [] 161 (I, J, RF w) (some (.long v.toInt64), 161, I1, J, RF w) := by
  refine z_evG 3 (y := z_ret (z_cl E (d + 7) 185 [.ref 127, .int (nI e)] (161, (I, J, RF w))) 5 [some (.ref 127), some (.int (nI e)), some (.int (nI t)), some (.int (nI x)), some (.int (nI y))] []) (fun _ => rfl) ?_
  refine z_evK (v := .int (z_bo (¬ (nI e) < 0 ∧ ¬ I 127 11 - 1 < (nI e)))) (z' := 161) (σ' := (I, J, RF w)) (m_isEye E (d + 5) I J w (nI e)) ?_
  refine z_evG 1 (y := if (z_bo (¬ (nI e) < 0 ∧ ¬ I 127 11 - 1 < (nI e))) = 0 then z_go 46 [some (.ref 127), some (.int (nI e)), some (.int (nI t)), some (.int (nI x)), some (.int (nI y))] [] 161 (I, J, RF w) else z_go 8 [some (.ref 127), some (.int (nI e)), some (.int (nI t)), some (.int (nI x)), some (.int (nI y))] [] 161 (I, J, RF w)) (fun _ => rfl) ?_
  refine z_evF (fun q0 => z_bo_0.mp q0 ⟨(mt (show _ ↔ e < 0 from z_ltN rfl rfl (by omega) (by omega)).mp (by omega)), (z_plt h_n rfl (by omega) (by omega))⟩) ?_
  refine z_evL ?_
  refine z_evG 3 (y := z_ret (z_cl E (d + 7) 183 [.ref 127, .int (nI t)] (161, (I, J, RF w))) 13 [some (.ref 127), some (.int (nI e)), some (.int (nI t)), some (.int (nI x)), some (.int (nI y))] []) (fun _ => rfl) ?_
  refine z_evK (v := .int (z_bo (¬ (nI t) < 0 ∧ ¬ I 127 3 - 1 < (nI t)))) (z' := 161) (σ' := (I, J, RF w)) (m_isThing E (d + 5) I J w (nI t)) ?_
  refine z_evG 1 (y := if (z_bo (¬ (nI t) < 0 ∧ ¬ I 127 3 - 1 < (nI t))) = 0 then z_go 46 [some (.ref 127), some (.int (nI e)), some (.int (nI t)), some (.int (nI x)), some (.int (nI y))] [] 161 (I, J, RF w) else z_go 16 [some (.ref 127), some (.int (nI e)), some (.int (nI t)), some (.int (nI x)), some (.int (nI y))] [] 161 (I, J, RF w)) (fun _ => rfl) ?_
  refine z_evF (fun q0 => z_bo_0.mp q0 ⟨(mt (show _ ↔ t < 0 from z_ltN rfl rfl (by omega) (by omega)).mp (by omega)), (z_plt h_o rfl (by omega) (by omega))⟩) ?_
  refine z_evL ?_
  refine z_evG 3 (y := z_ret (z_cl E (d + 7) 184 [.ref 127, .int (nI x)] (161, (I, J, RF w))) 21 [some (.ref 127), some (.int (nI e)), some (.int (nI t)), some (.int (nI x)), some (.int (nI y))] []) (fun _ => rfl) ?_
  refine z_evK (v := .int (z_bo (¬ (nI x) < 0 ∧ ¬ I 127 9 - 1 < (nI x)))) (z' := 161) (σ' := (I, J, RF w)) (m_isLight E (d + 5) I J w (nI x)) ?_
  refine z_evG 1 (y := if (z_bo (¬ (nI x) < 0 ∧ ¬ I 127 9 - 1 < (nI x))) = 0 then z_go 46 [some (.ref 127), some (.int (nI e)), some (.int (nI t)), some (.int (nI x)), some (.int (nI y))] [] 161 (I, J, RF w) else z_go 24 [some (.ref 127), some (.int (nI e)), some (.int (nI t)), some (.int (nI x)), some (.int (nI y))] [] 161 (I, J, RF w)) (fun _ => rfl) ?_
  refine z_evF (fun q0 => z_bo_0.mp q0 ⟨(mt (show _ ↔ x < 0 from z_ltN rfl rfl (by omega) (by omega)).mp (by omega)), (z_plt h_m rfl (by omega) (by omega))⟩) ?_
  refine z_evL ?_
  refine z_evG 3 (y := z_ret (z_cl E (d + 7) 184 [.ref 127, .int (nI y)] (161, (I, J, RF w))) 30 [some (.ref 127), some (.int (nI e)), some (.int (nI t)), some (.int (nI x)), some (.int (nI y))] []) (fun _ => rfl) ?_
  refine z_evK (v := .int (z_bo (¬ (nI y) < 0 ∧ ¬ I 127 9 - 1 < (nI y)))) (z' := 161) (σ' := (I, J, RF w)) (m_isLight E (d + 5) I J w (nI y)) ?_
  refine z_evG 1 (y := if (z_bo (¬ (nI y) < 0 ∧ ¬ I 127 9 - 1 < (nI y))) = 0 then z_go 46 [some (.ref 127), some (.int (nI e)), some (.int (nI t)), some (.int (nI x)), some (.int (nI y))] [] 161 (I, J, RF w) else z_go 33 [some (.ref 127), some (.int (nI e)), some (.int (nI t)), some (.int (nI x)), some (.int (nI y))] [] 161 (I, J, RF w)) (fun _ => rfl) ?_
  refine z_evF (fun q0 => z_bo_0.mp q0 ⟨(mt (show _ ↔ y < 0 from z_ltN rfl rfl (by omega) (by omega)).mp (by omega)), (z_plt h_m rfl (by omega) (by omega))⟩) ?_
  refine z_evL ?_
  refine z_evG 6 (y := z_ret (z_cl E (d + 7) 221 [.ref 127, .int (nI e), .int (nI t), .int (nI x), .int (nI y)] (161, (I, J, RF w))) 42 [some (.ref 127), some (.int (nI e)), some (.int (nI t)), some (.int (nI x)), some (.int (nI y))] []) (fun _ => rfl) ?_
  refine z_evK (v := .int v) (z' := 161) (σ' := (I1, J, RF w)) t1 ?_
  refine z_evG 3 (y := some (.inr (some (.long v.toInt64), 161, I1, J, RF w))) (fun _ => rfl) ?_
  exact z_evR rfl
