-- COPY; refusals of SHEET
theorem z_evYn {E : zE} {d : Nat} {M : zM} {σ : zS} {r : zR} {s t : Nat} {sp dp n : Int32} {N m a b c : Nat} {f : Nat → Int32} {k : Nat → zS → zY} (ho : z_ia E 161 σ s = some (N, f)) (ht : z_A t m) (ea : sp = nI a) (eb : dp = nI b) (ec : n = nI c) (h1 : a + c ≤ N) (h2 : b + c ≤ m) (hN : N < 2 ^ 31) (hm : m < 2 ^ 31) (h : z_EY E d M (k 161 (z_ur σ.1 t (va_cpy f (σ.1 t) a b c), σ.2.1, σ.2.2)) r) : z_EY E d M (z_copy E 161 σ s t sp dp n k) r := by
  have c1 := z_natE ea (by omega)
  have c2 := z_natE eb (by omega)
  have c3 := z_natE ec (by omega)
  have p : ∀ {x : Int32} {q : Nat}, x = nI q → q < 2 ^ 31 → decide (0 ≤ x) = true := by
    intro x q e h
    subst e
    refine decide_eq_true ?_
    have := nI_pos h
    rw [Int32.lt_iff_toInt_lt] at this
    rw [Int32.le_iff_toInt_le]
    omega
  refine z_evY ho (z_cpA ht ?_) ?_
  · rw [p ea (by omega), p eb (by omega), p ec (by omega), c1, c2, c3, Nat.ble_eq_true_of_le h1, Nat.ble_eq_true_of_le h2]; rfl
  · rw [c1, c2, c3]; exact h
set_option maxRecDepth 20000 in
/-- LampHouse.sheet -/
theorem x_sheet_badB (E : zE) (d : Nat) (I : Nat → Nat → Int32) (J : Nat → Nat → Int64) (w : Nat) (s : Nat) (o n : Int32) (hl_s : s < 4) (ho : ¬ o = (-1)) (hbad : ¬ ((¬ o < 0 ∧ ¬ 2 < o) ∧ (¬ 40 < n))) : z_cl E (d + 3) 161 [.ref 0, .int (nI s), .int o, .int n] (161, I, J, RF w) = some (some (.int (-2)), 161, I, J, RF w) := by
  refine z_call (d := d + 2) (M := z_m161) rfl rfl ?_
  refine z_evG 2 (y := z_ret (z_cl E (d + 2) 95 [.int (nI s)] (161, (I, J, RF w))) 4 [some (.ref 0), some (.int (nI s)), some (.int o), some (.int n)] []) (fun _ => rfl) ?_
  refine z_evK (v := .int (z_bo (¬ (nI s) < 0 ∧ (nI s) < 4))) (z' := 161) (σ' := (I, J, RF w)) (x_isPlace E (d + 1) I J w (nI s)) ?_
  refine z_evG 1 (y := if (z_bo (¬ (nI s) < 0 ∧ (nI s) < 4)) = 0 then z_go 7 [some (.ref 0), some (.int (nI s)), some (.int o), some (.int n)] [] 161 (I, J, RF w) else z_go 10 [some (.ref 0), some (.int (nI s)), some (.int o), some (.int n)] [] 161 (I, J, RF w)) (fun _ => rfl) ?_
  refine z_evF (fun q0 => z_bo_0.mp q0 ⟨nI_pos (by omega), (show _ ↔ s < 4 from z_ltN rfl rfl (by omega) (by decide)).mpr (by omega)⟩) ?_
  refine z_evL ?_
  refine z_evG 3 (y := if o = (-1) then z_go 15 [some (.ref 0), some (.int (nI s)), some (.int o), some (.int n)] [] 161 (I, J, RF w) else z_go 24 [some (.ref 0), some (.int (nI s)), some (.int o), some (.int n)] [] 161 (I, J, RF w)) (fun _ => rfl) ?_
  refine z_evF ho ?_
  refine z_evL ?_
  refine z_evG 2 (y := z_ret (z_cl E (d + 2) 96 [.int o] (161, (I, J, RF w))) 28 [some (.ref 0), some (.int (nI s)), some (.int o), some (.int n)] []) (fun _ => rfl) ?_
  refine z_evK (v := .int (z_bo (¬ o < 0 ∧ ¬ 2 < o))) (z' := 161) (σ' := (I, J, RF w)) (x_isSort E (d + 1) I J w o) ?_
  refine z_evG 1 (y := if (z_bo (¬ o < 0 ∧ ¬ 2 < o)) = 0 then z_go 37 [some (.ref 0), some (.int (nI s)), some (.int o), some (.int n)] [] 161 (I, J, RF w) else z_go 31 [some (.ref 0), some (.int (nI s)), some (.int o), some (.int n)] [] 161 (I, J, RF w)) (fun _ => rfl) ?_
  refine z_evO (fun h3 => ?_) (fun h3 => ?_)
  · refine z_evL ?_
    refine z_evG 2 (y := some (.inr (some (.int (-2)), 161, I, J, RF w))) (fun _ => rfl) ?_
    exact z_evR rfl
  · refine z_evL ?_
    refine z_evG 3 (y := if 40 < n then z_go 37 [some (.ref 0), some (.int (nI s)), some (.int o), some (.int n)] [] 161 (I, J, RF w) else z_go 40 [some (.ref 0), some (.int (nI s)), some (.int o), some (.int n)] [] 161 (I, J, RF w)) (fun _ => rfl) ?_
    refine z_evI (fun h4 => ?_) (fun h4 => ?_)
    · refine z_evL ?_
      refine z_evG 2 (y := some (.inr (some (.int (-2)), 161, I, J, RF w))) (fun _ => rfl) ?_
      exact z_evR rfl
    · refine z_evL ?_
      exact absurd ⟨h3, h4⟩ hbad
set_option maxRecDepth 20000 in
/-- LampHouseModel.sheet -/
theorem m_sheet_badB (E : zE) (d : Nat) (I : Nat → Nat → Int32) (J : Nat → Nat → Int64) (w : Nat) (s : Nat) (o n : Int32) (hl_s : s < 4) (ho : ¬ o < 0) (hbad : ¬ ((¬ o < (-1) ∧ ¬ 2 < o) ∧ (¬ 40 < n))) : z_cl E (d + 3) 248 [.ref 127, .int (nI s), .int o, .int n] (161, I, J, RF w) = some (some (.int (-2)), 161, I, J, RF w) := by
  refine z_call (d := d + 2) (M := z_m248) rfl rfl ?_
  refine z_evG 2 (y := z_ret (z_cl E (d + 2) 247 [.int (nI s)] (161, (I, J, RF w))) 4 [some (.ref 127), some (.int (nI s)), some (.int o), some (.int n), none] []) (fun _ => rfl) ?_
  refine z_evK (v := .int (z_bo (¬ (nI s) < 0 ∧ ¬ 3 < (nI s)))) (z' := 161) (σ' := (I, J, RF w)) (m_isSheet E d I J w (nI s)) ?_
  refine z_evG 1 (y := if (z_bo (¬ (nI s) < 0 ∧ ¬ 3 < (nI s))) = 0 then z_go 26 [some (.ref 127), some (.int (nI s)), some (.int o), some (.int n), none] [] 161 (I, J, RF w) else z_go 7 [some (.ref 127), some (.int (nI s)), some (.int o), some (.int n), none] [] 161 (I, J, RF w)) (fun _ => rfl) ?_
  refine z_evF (fun q0 => z_bo_0.mp q0 ⟨nI_pos (by omega), mt (show _ ↔ 3 < s from z_ltN rfl rfl (by decide) (by omega)).mp (by omega)⟩) ?_
  refine z_evL ?_
  refine z_evG 4 (y := z_ret (z_cl E (d + 2) 178 [.int o, .int (-1), .int 2] (161, (I, J, RF w))) 13 [some (.ref 127), some (.int (nI s)), some (.int o), some (.int n), none] []) (fun _ => rfl) ?_
  refine z_evK (v := .int (z_bo (¬ o < (-1) ∧ ¬ 2 < o))) (z' := 161) (σ' := (I, J, RF w)) (m_in E (d + 1) I J w o (-1) 2) ?_
  refine z_evG 1 (y := if (z_bo (¬ o < (-1) ∧ ¬ 2 < o)) = 0 then z_go 26 [some (.ref 127), some (.int (nI s)), some (.int o), some (.int n), none] [] 161 (I, J, RF w) else z_go 16 [some (.ref 127), some (.int (nI s)), some (.int o), some (.int n), none] [] 161 (I, J, RF w)) (fun _ => rfl) ?_
  refine z_evO (fun h2 => ?_) (fun h2 => ?_)
  · refine z_evL ?_
    refine z_evG 2 (y := some (.inr (some (.int (-2)), 161, I, J, RF w))) (fun _ => rfl) ?_
    exact z_evR rfl
  · refine z_evL ?_
    refine z_evG 2 (y := if o < 0 then z_go 29 [some (.ref 127), some (.int (nI s)), some (.int o), some (.int n), none] [] 161 (I, J, RF w) else z_go 20 [some (.ref 127), some (.int (nI s)), some (.int o), some (.int n), none] [] 161 (I, J, RF w)) (fun _ => rfl) ?_
    refine z_evF ho ?_
    refine z_evL ?_
    refine z_evG 3 (y := if 40 < n then z_go 26 [some (.ref 127), some (.int (nI s)), some (.int o), some (.int n), none] [] 161 (I, J, RF w) else z_go 29 [some (.ref 127), some (.int (nI s)), some (.int o), some (.int n), none] [] 161 (I, J, RF w)) (fun _ => rfl) ?_
    refine z_evI (fun h4 => ?_) (fun h4 => ?_)
    · refine z_evL ?_
      refine z_evG 2 (y := some (.inr (some (.int (-2)), 161, I, J, RF w))) (fun _ => rfl) ?_
      exact z_evR rfl
    · refine z_evL ?_
      exact absurd ⟨h2, h4⟩ hbad
set_option maxRecDepth 20000 in
/-- LampHouseModel.sheet -/
theorem m_sheet_badC (E : zE) (d : Nat) (I : Nat → Nat → Int32) (J : Nat → Nat → Int64) (w : Nat) (s : Nat) (o n : Int32) (hl_s : s < 4) (hbad : ¬ (¬ o < (-1) ∧ ¬ 2 < o)) : z_cl E (d + 3) 248 [.ref 127, .int (nI s), .int o, .int n] (161, I, J, RF w) = some (some (.int (-2)), 161, I, J, RF w) := by
  refine z_call (d := d + 2) (M := z_m248) rfl rfl ?_
  refine z_evG 2 (y := z_ret (z_cl E (d + 2) 247 [.int (nI s)] (161, (I, J, RF w))) 4 [some (.ref 127), some (.int (nI s)), some (.int o), some (.int n), none] []) (fun _ => rfl) ?_
  refine z_evK (v := .int (z_bo (¬ (nI s) < 0 ∧ ¬ 3 < (nI s)))) (z' := 161) (σ' := (I, J, RF w)) (m_isSheet E d I J w (nI s)) ?_
  refine z_evG 1 (y := if (z_bo (¬ (nI s) < 0 ∧ ¬ 3 < (nI s))) = 0 then z_go 26 [some (.ref 127), some (.int (nI s)), some (.int o), some (.int n), none] [] 161 (I, J, RF w) else z_go 7 [some (.ref 127), some (.int (nI s)), some (.int o), some (.int n), none] [] 161 (I, J, RF w)) (fun _ => rfl) ?_
  refine z_evF (fun q0 => z_bo_0.mp q0 ⟨nI_pos (by omega), mt (show _ ↔ 3 < s from z_ltN rfl rfl (by decide) (by omega)).mp (by omega)⟩) ?_
  refine z_evL ?_
  refine z_evG 4 (y := z_ret (z_cl E (d + 2) 178 [.int o, .int (-1), .int 2] (161, (I, J, RF w))) 13 [some (.ref 127), some (.int (nI s)), some (.int o), some (.int n), none] []) (fun _ => rfl) ?_
  refine z_evK (v := .int (z_bo (¬ o < (-1) ∧ ¬ 2 < o))) (z' := 161) (σ' := (I, J, RF w)) (m_in E (d + 1) I J w o (-1) 2) ?_
  refine z_evG 1 (y := if (z_bo (¬ o < (-1) ∧ ¬ 2 < o)) = 0 then z_go 26 [some (.ref 127), some (.int (nI s)), some (.int o), some (.int n), none] [] 161 (I, J, RF w) else z_go 16 [some (.ref 127), some (.int (nI s)), some (.int o), some (.int n), none] [] 161 (I, J, RF w)) (fun _ => rfl) ?_
  refine z_evO (fun h2 => ?_) (fun h2 => ?_)
  · refine z_evL ?_
    refine z_evG 2 (y := some (.inr (some (.int (-2)), 161, I, J, RF w))) (fun _ => rfl) ?_
    exact z_evR rfl
  · refine z_evL ?_
    exact absurd h2 hbad
set_option maxRecDepth 20000 in
/-- LampHouse.copy -/
theorem x_copy_badA (E : zE) (d : Nat) (I : Nat → Nat → Int32) (J : Nat → Nat → Int64) (w : Nat) (s i o j n : Int32) (hbad : ¬ ((¬ s < 0 ∧ s < 4) ∧ (¬ o < 0 ∧ o < 4))) : z_cl E (d + 2) 163 [.ref 0, .int s, .int i, .int o, .int j, .int n] (161, I, J, RF w) = some (some (.int (-2)), 161, I, J, RF w) := by
  refine z_call (d := d + 1) (M := z_m163) rfl rfl ?_
  refine z_evG 2 (y := z_ret (z_cl E (d + 1) 95 [.int s] (161, (I, J, RF w))) 4 [some (.ref 0), some (.int s), some (.int i), some (.int o), some (.int j), some (.int n)] []) (fun _ => rfl) ?_
  refine z_evK (v := .int (z_bo (¬ s < 0 ∧ s < 4))) (z' := 161) (σ' := (I, J, RF w)) (x_isPlace E d I J w s) ?_
  refine z_evG 1 (y := if (z_bo (¬ s < 0 ∧ s < 4)) = 0 then z_go 14 [some (.ref 0), some (.int s), some (.int i), some (.int o), some (.int j), some (.int n)] [] 161 (I, J, RF w) else z_go 7 [some (.ref 0), some (.int s), some (.int i), some (.int o), some (.int j), some (.int n)] [] 161 (I, J, RF w)) (fun _ => rfl) ?_
  refine z_evO (fun h1 => ?_) (fun h1 => ?_)
  · refine z_evL ?_
    refine z_evG 2 (y := some (.inr (some (.int (-2)), 161, I, J, RF w))) (fun _ => rfl) ?_
    exact z_evR rfl
  · refine z_evL ?_
    refine z_evG 2 (y := z_ret (z_cl E (d + 1) 95 [.int o] (161, (I, J, RF w))) 11 [some (.ref 0), some (.int s), some (.int i), some (.int o), some (.int j), some (.int n)] []) (fun _ => rfl) ?_
    refine z_evK (v := .int (z_bo (¬ o < 0 ∧ o < 4))) (z' := 161) (σ' := (I, J, RF w)) (x_isPlace E d I J w o) ?_
    refine z_evG 1 (y := if (z_bo (¬ o < 0 ∧ o < 4)) = 0 then z_go 14 [some (.ref 0), some (.int s), some (.int i), some (.int o), some (.int j), some (.int n)] [] 161 (I, J, RF w) else z_go 17 [some (.ref 0), some (.int s), some (.int i), some (.int o), some (.int j), some (.int n)] [] 161 (I, J, RF w)) (fun _ => rfl) ?_
    refine z_evO (fun h2 => ?_) (fun h2 => ?_)
    · refine z_evL ?_
      refine z_evG 2 (y := some (.inr (some (.int (-2)), 161, I, J, RF w))) (fun _ => rfl) ?_
      exact z_evR rfl
    · refine z_evL ?_
      exact absurd ⟨h1, h2⟩ hbad
set_option maxRecDepth 20000 in
/-- LampHouseModel.copy -/
theorem m_copy_badA (E : zE) (d : Nat) (I : Nat → Nat → Int32) (J : Nat → Nat → Int64) (w : Nat) (s i o j n : Int32) (hbad : ¬ ((¬ s < 0 ∧ ¬ 3 < s) ∧ (¬ o < 0 ∧ ¬ 3 < o))) : z_cl E (d + 3) 250 [.ref 127, .int s, .int i, .int o, .int j, .int n] (161, I, J, RF w) = some (some (.int (-2)), 161, I, J, RF w) := by
  refine z_call (d := d + 2) (M := z_m250) rfl rfl ?_
  refine z_evG 2 (y := z_ret (z_cl E (d + 2) 247 [.int s] (161, (I, J, RF w))) 4 [some (.ref 127), some (.int s), some (.int i), some (.int o), some (.int j), some (.int n), none] []) (fun _ => rfl) ?_
  refine z_evK (v := .int (z_bo (¬ s < 0 ∧ ¬ 3 < s))) (z' := 161) (σ' := (I, J, RF w)) (m_isSheet E d I J w s) ?_
  refine z_evG 1 (y := if (z_bo (¬ s < 0 ∧ ¬ 3 < s)) = 0 then z_go 14 [some (.ref 127), some (.int s), some (.int i), some (.int o), some (.int j), some (.int n), none] [] 161 (I, J, RF w) else z_go 7 [some (.ref 127), some (.int s), some (.int i), some (.int o), some (.int j), some (.int n), none] [] 161 (I, J, RF w)) (fun _ => rfl) ?_
  refine z_evO (fun h1 => ?_) (fun h1 => ?_)
  · refine z_evL ?_
    refine z_evG 2 (y := some (.inr (some (.int (-2)), 161, I, J, RF w))) (fun _ => rfl) ?_
    exact z_evR rfl
  · refine z_evL ?_
    refine z_evG 2 (y := z_ret (z_cl E (d + 2) 247 [.int o] (161, (I, J, RF w))) 11 [some (.ref 127), some (.int s), some (.int i), some (.int o), some (.int j), some (.int n), none] []) (fun _ => rfl) ?_
    refine z_evK (v := .int (z_bo (¬ o < 0 ∧ ¬ 3 < o))) (z' := 161) (σ' := (I, J, RF w)) (m_isSheet E d I J w o) ?_
    refine z_evG 1 (y := if (z_bo (¬ o < 0 ∧ ¬ 3 < o)) = 0 then z_go 14 [some (.ref 127), some (.int s), some (.int i), some (.int o), some (.int j), some (.int n), none] [] 161 (I, J, RF w) else z_go 17 [some (.ref 127), some (.int s), some (.int i), some (.int o), some (.int j), some (.int n), none] [] 161 (I, J, RF w)) (fun _ => rfl) ?_
    refine z_evO (fun h2 => ?_) (fun h2 => ?_)
    · refine z_evL ?_
      refine z_evG 2 (y := some (.inr (some (.int (-2)), 161, I, J, RF w))) (fun _ => rfl) ?_
      exact z_evR rfl
    · refine z_evL ?_
      exact absurd ⟨h1, h2⟩ hbad
set_option maxRecDepth 20000 in
/-- LampHouse.copy -/
theorem x_copy_badB (E : zE) (d : Nat) (I : Nat → Nat → Int32) (J : Nat → Nat → Int64) (w : Nat) (s o : Nat) (i j n : Int32) (hl_s : s < 4) (hl_o : o < 4) (hbad : ¬ ((¬ I 123 s = (-1)) ∧ (¬ I 123 o = (-1)))) : z_cl E (d + 2) 163 [.ref 0, .int (nI s), .int i, .int (nI o), .int j, .int n] (161, I, J, RF w) = some (some (.int (-11)), 161, I, J, RF w) := by
  refine z_call (d := d + 1) (M := z_m163) rfl rfl ?_
  refine z_evG 2 (y := z_ret (z_cl E (d + 1) 95 [.int (nI s)] (161, (I, J, RF w))) 4 [some (.ref 0), some (.int (nI s)), some (.int i), some (.int (nI o)), some (.int j), some (.int n)] []) (fun _ => rfl) ?_
  refine z_evK (v := .int (z_bo (¬ (nI s) < 0 ∧ (nI s) < 4))) (z' := 161) (σ' := (I, J, RF w)) (x_isPlace E d I J w (nI s)) ?_
  refine z_evG 1 (y := if (z_bo (¬ (nI s) < 0 ∧ (nI s) < 4)) = 0 then z_go 14 [some (.ref 0), some (.int (nI s)), some (.int i), some (.int (nI o)), some (.int j), some (.int n)] [] 161 (I, J, RF w) else z_go 7 [some (.ref 0), some (.int (nI s)), some (.int i), some (.int (nI o)), some (.int j), some (.int n)] [] 161 (I, J, RF w)) (fun _ => rfl) ?_
  refine z_evF (fun q0 => z_bo_0.mp q0 ⟨nI_pos (by omega), (show _ ↔ s < 4 from z_ltN rfl rfl (by omega) (by decide)).mpr (by omega)⟩) ?_
  refine z_evL ?_
  refine z_evG 2 (y := z_ret (z_cl E (d + 1) 95 [.int (nI o)] (161, (I, J, RF w))) 11 [some (.ref 0), some (.int (nI s)), some (.int i), some (.int (nI o)), some (.int j), some (.int n)] []) (fun _ => rfl) ?_
  refine z_evK (v := .int (z_bo (¬ (nI o) < 0 ∧ (nI o) < 4))) (z' := 161) (σ' := (I, J, RF w)) (x_isPlace E d I J w (nI o)) ?_
  refine z_evG 1 (y := if (z_bo (¬ (nI o) < 0 ∧ (nI o) < 4)) = 0 then z_go 14 [some (.ref 0), some (.int (nI s)), some (.int i), some (.int (nI o)), some (.int j), some (.int n)] [] 161 (I, J, RF w) else z_go 17 [some (.ref 0), some (.int (nI s)), some (.int i), some (.int (nI o)), some (.int j), some (.int n)] [] 161 (I, J, RF w)) (fun _ => rfl) ?_
  refine z_evF (fun q0 => z_bo_0.mp q0 ⟨nI_pos (by omega), (show _ ↔ o < 4 from z_ltN rfl rfl (by omega) (by decide)).mpr (by omega)⟩) ?_
  refine z_evL ?_
  refine z_evG 4 (y := z_ret (z_cl E (d + 1) 97 [.ref 117, .int (nI s)] (161, (I, J, RF w))) 25 [some (.ref 0), some (.int (nI s)), some (.int i), some (.int (nI o)), some (.int j), some (.int n)] []) (fun _ => rfl) ?_
  refine z_evK (v := .int (z_bo (I 123 s = (-1)))) (z' := 161) (σ' := (I, J, RF w)) (x_sheets_isMissingN E d I J w s (by omega)) ?_
  refine z_evG 1 (y := if (z_bo (I 123 s = (-1))) = 0 then z_go 28 [some (.ref 0), some (.int (nI s)), some (.int i), some (.int (nI o)), some (.int j), some (.int n)] [] 161 (I, J, RF w) else z_go 39 [some (.ref 0), some (.int (nI s)), some (.int i), some (.int (nI o)), some (.int j), some (.int n)] [] 161 (I, J, RF w)) (fun _ => rfl) ?_
  refine z_evO (fun h3 => ?_) (fun h3 => ?_)
  · refine z_evL ?_
    refine z_evG 4 (y := z_ret (z_cl E (d + 1) 97 [.ref 117, .int (nI o)] (161, (I, J, RF w))) 36 [some (.ref 0), some (.int (nI s)), some (.int i), some (.int (nI o)), some (.int j), some (.int n)] []) (fun _ => rfl) ?_
    refine z_evK (v := .int (z_bo (I 123 o = (-1)))) (z' := 161) (σ' := (I, J, RF w)) (x_sheets_isMissingN E d I J w o (by omega)) ?_
    refine z_evG 1 (y := if (z_bo (I 123 o = (-1))) = 0 then z_go 42 [some (.ref 0), some (.int (nI s)), some (.int i), some (.int (nI o)), some (.int j), some (.int n)] [] 161 (I, J, RF w) else z_go 39 [some (.ref 0), some (.int (nI s)), some (.int i), some (.int (nI o)), some (.int j), some (.int n)] [] 161 (I, J, RF w)) (fun _ => rfl) ?_
    refine z_evO (fun h4 => ?_) (fun h4 => ?_)
    · refine z_evL ?_
      exact absurd ⟨h3, h4⟩ hbad
    · refine z_evL ?_
      refine z_evG 2 (y := some (.inr (some (.int (-11)), 161, I, J, RF w))) (fun _ => rfl) ?_
      exact z_evR rfl
  · refine z_evL ?_
    refine z_evG 2 (y := some (.inr (some (.int (-11)), 161, I, J, RF w))) (fun _ => rfl) ?_
    exact z_evR rfl
set_option maxRecDepth 20000 in
/-- LampHouseModel.copy -/
theorem m_copy_badB (E : zE) (d : Nat) (I : Nat → Nat → Int32) (J : Nat → Nat → Int64) (w : Nat) (s o : Nat) (i j n : Int32) (hl_s : s < 4) (hl_o : o < 4) (hbad : ¬ ((¬ I 157 s < 0) ∧ (¬ I 157 o < 0))) : z_cl E (d + 3) 250 [.ref 127, .int (nI s), .int i, .int (nI o), .int j, .int n] (161, I, J, RF w) = some (some (.int (-11)), 161, I, J, RF w) := by
  refine z_call (d := d + 2) (M := z_m250) rfl rfl ?_
  refine z_evG 2 (y := z_ret (z_cl E (d + 2) 247 [.int (nI s)] (161, (I, J, RF w))) 4 [some (.ref 127), some (.int (nI s)), some (.int i), some (.int (nI o)), some (.int j), some (.int n), none] []) (fun _ => rfl) ?_
  refine z_evK (v := .int (z_bo (¬ (nI s) < 0 ∧ ¬ 3 < (nI s)))) (z' := 161) (σ' := (I, J, RF w)) (m_isSheet E d I J w (nI s)) ?_
  refine z_evG 1 (y := if (z_bo (¬ (nI s) < 0 ∧ ¬ 3 < (nI s))) = 0 then z_go 14 [some (.ref 127), some (.int (nI s)), some (.int i), some (.int (nI o)), some (.int j), some (.int n), none] [] 161 (I, J, RF w) else z_go 7 [some (.ref 127), some (.int (nI s)), some (.int i), some (.int (nI o)), some (.int j), some (.int n), none] [] 161 (I, J, RF w)) (fun _ => rfl) ?_
  refine z_evF (fun q0 => z_bo_0.mp q0 ⟨nI_pos (by omega), mt (show _ ↔ 3 < s from z_ltN rfl rfl (by decide) (by omega)).mp (by omega)⟩) ?_
  refine z_evL ?_
  refine z_evG 2 (y := z_ret (z_cl E (d + 2) 247 [.int (nI o)] (161, (I, J, RF w))) 11 [some (.ref 127), some (.int (nI s)), some (.int i), some (.int (nI o)), some (.int j), some (.int n), none] []) (fun _ => rfl) ?_
  refine z_evK (v := .int (z_bo (¬ (nI o) < 0 ∧ ¬ 3 < (nI o)))) (z' := 161) (σ' := (I, J, RF w)) (m_isSheet E d I J w (nI o)) ?_
  refine z_evG 1 (y := if (z_bo (¬ (nI o) < 0 ∧ ¬ 3 < (nI o))) = 0 then z_go 14 [some (.ref 127), some (.int (nI s)), some (.int i), some (.int (nI o)), some (.int j), some (.int n), none] [] 161 (I, J, RF w) else z_go 17 [some (.ref 127), some (.int (nI s)), some (.int i), some (.int (nI o)), some (.int j), some (.int n), none] [] 161 (I, J, RF w)) (fun _ => rfl) ?_
  refine z_evF (fun q0 => z_bo_0.mp q0 ⟨nI_pos (by omega), mt (show _ ↔ 3 < o from z_ltN rfl rfl (by decide) (by omega)).mp (by omega)⟩) ?_
  refine z_evL ?_
  refine z_evG 4 (y := z_ild (z_ia E 161 (I, J, RF w) 157) (nI s) fun vv => z_go 23 [some (.ref 127), some (.int (nI s)), some (.int i), some (.int (nI o)), some (.int j), some (.int n), none] [.int vv] 161 (I, J, RF w)) (fun _ => rfl) ?_
  refine z_evBn (N := 4) (f := (I 157)) (k := s) rfl rfl (by omega) ?_
  refine z_evL ?_
  refine z_evG 1 (y := if (I 157 s) < 0 then z_go 35 [some (.ref 127), some (.int (nI s)), some (.int i), some (.int (nI o)), some (.int j), some (.int n), none] [] 161 (I, J, RF w) else z_go 26 [some (.ref 127), some (.int (nI s)), some (.int i), some (.int (nI o)), some (.int j), some (.int n), none] [] 161 (I, J, RF w)) (fun _ => rfl) ?_
  refine z_evI (fun h3 => ?_) (fun h3 => ?_)
  · refine z_evL ?_
    refine z_evG 2 (y := some (.inr (some (.int (-11)), 161, I, J, RF w))) (fun _ => rfl) ?_
    exact z_evR rfl
  · refine z_evL ?_
    refine z_evG 4 (y := z_ild (z_ia E 161 (I, J, RF w) 157) (nI o) fun vv => z_go 32 [some (.ref 127), some (.int (nI s)), some (.int i), some (.int (nI o)), some (.int j), some (.int n), none] [.int vv] 161 (I, J, RF w)) (fun _ => rfl) ?_
    refine z_evBn (N := 4) (f := (I 157)) (k := o) rfl rfl (by omega) ?_
    refine z_evL ?_
    refine z_evG 1 (y := if (I 157 o) < 0 then z_go 35 [some (.ref 127), some (.int (nI s)), some (.int i), some (.int (nI o)), some (.int j), some (.int n), none] [] 161 (I, J, RF w) else z_go 38 [some (.ref 127), some (.int (nI s)), some (.int i), some (.int (nI o)), some (.int j), some (.int n), none] [] 161 (I, J, RF w)) (fun _ => rfl) ?_
    refine z_evI (fun h4 => ?_) (fun h4 => ?_)
    · refine z_evL ?_
      refine z_evG 2 (y := some (.inr (some (.int (-11)), 161, I, J, RF w))) (fun _ => rfl) ?_
      exact z_evR rfl
    · refine z_evL ?_
      exact absurd ⟨h3, h4⟩ hbad
set_option maxRecDepth 20000 in
/-- LampHouse.copy -/
theorem x_copy_badC (E : zE) (d : Nat) (I : Nat → Nat → Int32) (J : Nat → Nat → Int64) (w : Nat) (s o : Nat) (i j n : Int32) (hl_s : s < 4) (hl_o : o < 4) (hs : ¬ I 123 s = (-1)) (ho : ¬ I 123 o = (-1)) (hbad : ¬ (I 123 s = I 123 o)) : z_cl E (d + 2) 163 [.ref 0, .int (nI s), .int i, .int (nI o), .int j, .int n] (161, I, J, RF w) = some (some (.int (-13)), 161, I, J, RF w) := by
  refine z_call (d := d + 1) (M := z_m163) rfl rfl ?_
  refine z_evG 2 (y := z_ret (z_cl E (d + 1) 95 [.int (nI s)] (161, (I, J, RF w))) 4 [some (.ref 0), some (.int (nI s)), some (.int i), some (.int (nI o)), some (.int j), some (.int n)] []) (fun _ => rfl) ?_
  refine z_evK (v := .int (z_bo (¬ (nI s) < 0 ∧ (nI s) < 4))) (z' := 161) (σ' := (I, J, RF w)) (x_isPlace E d I J w (nI s)) ?_
  refine z_evG 1 (y := if (z_bo (¬ (nI s) < 0 ∧ (nI s) < 4)) = 0 then z_go 14 [some (.ref 0), some (.int (nI s)), some (.int i), some (.int (nI o)), some (.int j), some (.int n)] [] 161 (I, J, RF w) else z_go 7 [some (.ref 0), some (.int (nI s)), some (.int i), some (.int (nI o)), some (.int j), some (.int n)] [] 161 (I, J, RF w)) (fun _ => rfl) ?_
  refine z_evF (fun q0 => z_bo_0.mp q0 ⟨nI_pos (by omega), (show _ ↔ s < 4 from z_ltN rfl rfl (by omega) (by decide)).mpr (by omega)⟩) ?_
  refine z_evL ?_
  refine z_evG 2 (y := z_ret (z_cl E (d + 1) 95 [.int (nI o)] (161, (I, J, RF w))) 11 [some (.ref 0), some (.int (nI s)), some (.int i), some (.int (nI o)), some (.int j), some (.int n)] []) (fun _ => rfl) ?_
  refine z_evK (v := .int (z_bo (¬ (nI o) < 0 ∧ (nI o) < 4))) (z' := 161) (σ' := (I, J, RF w)) (x_isPlace E d I J w (nI o)) ?_
  refine z_evG 1 (y := if (z_bo (¬ (nI o) < 0 ∧ (nI o) < 4)) = 0 then z_go 14 [some (.ref 0), some (.int (nI s)), some (.int i), some (.int (nI o)), some (.int j), some (.int n)] [] 161 (I, J, RF w) else z_go 17 [some (.ref 0), some (.int (nI s)), some (.int i), some (.int (nI o)), some (.int j), some (.int n)] [] 161 (I, J, RF w)) (fun _ => rfl) ?_
  refine z_evF (fun q0 => z_bo_0.mp q0 ⟨nI_pos (by omega), (show _ ↔ o < 4 from z_ltN rfl rfl (by omega) (by decide)).mpr (by omega)⟩) ?_
  refine z_evL ?_
  refine z_evG 4 (y := z_ret (z_cl E (d + 1) 97 [.ref 117, .int (nI s)] (161, (I, J, RF w))) 25 [some (.ref 0), some (.int (nI s)), some (.int i), some (.int (nI o)), some (.int j), some (.int n)] []) (fun _ => rfl) ?_
  refine z_evK (v := .int (z_bo (I 123 s = (-1)))) (z' := 161) (σ' := (I, J, RF w)) (x_sheets_isMissingN E d I J w s (by omega)) ?_
  refine z_evG 1 (y := if (z_bo (I 123 s = (-1))) = 0 then z_go 28 [some (.ref 0), some (.int (nI s)), some (.int i), some (.int (nI o)), some (.int j), some (.int n)] [] 161 (I, J, RF w) else z_go 39 [some (.ref 0), some (.int (nI s)), some (.int i), some (.int (nI o)), some (.int j), some (.int n)] [] 161 (I, J, RF w)) (fun _ => rfl) ?_
  refine z_evT (z_bo_0.mpr hs) ?_
  refine z_evL ?_
  refine z_evG 4 (y := z_ret (z_cl E (d + 1) 97 [.ref 117, .int (nI o)] (161, (I, J, RF w))) 36 [some (.ref 0), some (.int (nI s)), some (.int i), some (.int (nI o)), some (.int j), some (.int n)] []) (fun _ => rfl) ?_
  refine z_evK (v := .int (z_bo (I 123 o = (-1)))) (z' := 161) (σ' := (I, J, RF w)) (x_sheets_isMissingN E d I J w o (by omega)) ?_
  refine z_evG 1 (y := if (z_bo (I 123 o = (-1))) = 0 then z_go 42 [some (.ref 0), some (.int (nI s)), some (.int i), some (.int (nI o)), some (.int j), some (.int n)] [] 161 (I, J, RF w) else z_go 39 [some (.ref 0), some (.int (nI s)), some (.int i), some (.int (nI o)), some (.int j), some (.int n)] [] 161 (I, J, RF w)) (fun _ => rfl) ?_
  refine z_evT (z_bo_0.mpr ho) ?_
  refine z_evL ?_
  refine z_evG 4 (y := z_ret (z_cl E (d + 1) 98 [.ref 117, .int (nI s)] (161, (I, J, RF w))) 50 [some (.ref 0), some (.int (nI s)), some (.int i), some (.int (nI o)), some (.int j), some (.int n)] []) (fun _ => rfl) ?_
  refine z_evK (v := .int (I 123 s)) (z' := 161) (σ' := (I, J, RF w)) (x_sheets_sortOfN E d I J w s (by omega)) ?_
  refine z_evG 4 (y := z_ret (z_cl E (d + 1) 98 [.ref 117, .int (nI o)] (161, (I, J, RF w))) 58 [some (.ref 0), some (.int (nI s)), some (.int i), some (.int (nI o)), some (.int j), some (.int n)] [.int (I 123 s)]) (fun _ => rfl) ?_
  refine z_evK (v := .int (I 123 o)) (z' := 161) (σ' := (I, J, RF w)) (x_sheets_sortOfN E d I J w o (by omega)) ?_
  refine z_evG 1 (y := if (I 123 s) = (I 123 o) then z_go 64 [some (.ref 0), some (.int (nI s)), some (.int i), some (.int (nI o)), some (.int j), some (.int n)] [] 161 (I, J, RF w) else z_go 61 [some (.ref 0), some (.int (nI s)), some (.int i), some (.int (nI o)), some (.int j), some (.int n)] [] 161 (I, J, RF w)) (fun _ => rfl) ?_
  refine z_evI (fun h5 => ?_) (fun h5 => ?_)
  · refine z_evL ?_
    exact absurd h5 hbad
  · refine z_evL ?_
    refine z_evG 2 (y := some (.inr (some (.int (-13)), 161, I, J, RF w))) (fun _ => rfl) ?_
    exact z_evR rfl
set_option maxRecDepth 20000 in
/-- LampHouseModel.copy -/
theorem m_copy_badC (E : zE) (d : Nat) (I : Nat → Nat → Int32) (J : Nat → Nat → Int64) (w : Nat) (s o : Nat) (i j n : Int32) (hl_s : s < 4) (hl_o : o < 4) (hs : ¬ I 157 s < 0) (ho : ¬ I 157 o < 0) (hbad : ¬ (I 157 s = I 157 o)) : z_cl E (d + 3) 250 [.ref 127, .int (nI s), .int i, .int (nI o), .int j, .int n] (161, I, J, RF w) = some (some (.int (-13)), 161, I, J, RF w) := by
  refine z_call (d := d + 2) (M := z_m250) rfl rfl ?_
  refine z_evG 2 (y := z_ret (z_cl E (d + 2) 247 [.int (nI s)] (161, (I, J, RF w))) 4 [some (.ref 127), some (.int (nI s)), some (.int i), some (.int (nI o)), some (.int j), some (.int n), none] []) (fun _ => rfl) ?_
  refine z_evK (v := .int (z_bo (¬ (nI s) < 0 ∧ ¬ 3 < (nI s)))) (z' := 161) (σ' := (I, J, RF w)) (m_isSheet E d I J w (nI s)) ?_
  refine z_evG 1 (y := if (z_bo (¬ (nI s) < 0 ∧ ¬ 3 < (nI s))) = 0 then z_go 14 [some (.ref 127), some (.int (nI s)), some (.int i), some (.int (nI o)), some (.int j), some (.int n), none] [] 161 (I, J, RF w) else z_go 7 [some (.ref 127), some (.int (nI s)), some (.int i), some (.int (nI o)), some (.int j), some (.int n), none] [] 161 (I, J, RF w)) (fun _ => rfl) ?_
  refine z_evF (fun q0 => z_bo_0.mp q0 ⟨nI_pos (by omega), mt (show _ ↔ 3 < s from z_ltN rfl rfl (by decide) (by omega)).mp (by omega)⟩) ?_
  refine z_evL ?_
  refine z_evG 2 (y := z_ret (z_cl E (d + 2) 247 [.int (nI o)] (161, (I, J, RF w))) 11 [some (.ref 127), some (.int (nI s)), some (.int i), some (.int (nI o)), some (.int j), some (.int n), none] []) (fun _ => rfl) ?_
  refine z_evK (v := .int (z_bo (¬ (nI o) < 0 ∧ ¬ 3 < (nI o)))) (z' := 161) (σ' := (I, J, RF w)) (m_isSheet E d I J w (nI o)) ?_
  refine z_evG 1 (y := if (z_bo (¬ (nI o) < 0 ∧ ¬ 3 < (nI o))) = 0 then z_go 14 [some (.ref 127), some (.int (nI s)), some (.int i), some (.int (nI o)), some (.int j), some (.int n), none] [] 161 (I, J, RF w) else z_go 17 [some (.ref 127), some (.int (nI s)), some (.int i), some (.int (nI o)), some (.int j), some (.int n), none] [] 161 (I, J, RF w)) (fun _ => rfl) ?_
  refine z_evF (fun q0 => z_bo_0.mp q0 ⟨nI_pos (by omega), mt (show _ ↔ 3 < o from z_ltN rfl rfl (by decide) (by omega)).mp (by omega)⟩) ?_
  refine z_evL ?_
  refine z_evG 4 (y := z_ild (z_ia E 161 (I, J, RF w) 157) (nI s) fun vv => z_go 23 [some (.ref 127), some (.int (nI s)), some (.int i), some (.int (nI o)), some (.int j), some (.int n), none] [.int vv] 161 (I, J, RF w)) (fun _ => rfl) ?_
  refine z_evBn (N := 4) (f := (I 157)) (k := s) rfl rfl (by omega) ?_
  refine z_evL ?_
  refine z_evG 1 (y := if (I 157 s) < 0 then z_go 35 [some (.ref 127), some (.int (nI s)), some (.int i), some (.int (nI o)), some (.int j), some (.int n), none] [] 161 (I, J, RF w) else z_go 26 [some (.ref 127), some (.int (nI s)), some (.int i), some (.int (nI o)), some (.int j), some (.int n), none] [] 161 (I, J, RF w)) (fun _ => rfl) ?_
  refine z_evF hs ?_
  refine z_evL ?_
  refine z_evG 4 (y := z_ild (z_ia E 161 (I, J, RF w) 157) (nI o) fun vv => z_go 32 [some (.ref 127), some (.int (nI s)), some (.int i), some (.int (nI o)), some (.int j), some (.int n), none] [.int vv] 161 (I, J, RF w)) (fun _ => rfl) ?_
  refine z_evBn (N := 4) (f := (I 157)) (k := o) rfl rfl (by omega) ?_
  refine z_evL ?_
  refine z_evG 1 (y := if (I 157 o) < 0 then z_go 35 [some (.ref 127), some (.int (nI s)), some (.int i), some (.int (nI o)), some (.int j), some (.int n), none] [] 161 (I, J, RF w) else z_go 38 [some (.ref 127), some (.int (nI s)), some (.int i), some (.int (nI o)), some (.int j), some (.int n), none] [] 161 (I, J, RF w)) (fun _ => rfl) ?_
  refine z_evF ho ?_
  refine z_evL ?_
  refine z_evG 4 (y := z_ild (z_ia E 161 (I, J, RF w) 157) (nI s) fun vv => z_go 44 [some (.ref 127), some (.int (nI s)), some (.int i), some (.int (nI o)), some (.int j), some (.int n), none] [.int vv] 161 (I, J, RF w)) (fun _ => rfl) ?_
  refine z_evBn (N := 4) (f := (I 157)) (k := s) rfl rfl (by omega) ?_
  refine z_evL ?_
  refine z_evG 4 (y := z_ild (z_ia E 161 (I, J, RF w) 157) (nI o) fun vv => z_go 50 [some (.ref 127), some (.int (nI s)), some (.int i), some (.int (nI o)), some (.int j), some (.int n), none] [.int vv, .int (I 157 s)] 161 (I, J, RF w)) (fun _ => rfl) ?_
  refine z_evBn (N := 4) (f := (I 157)) (k := o) rfl rfl (by omega) ?_
  refine z_evL ?_
  refine z_evG 1 (y := if (I 157 s) = (I 157 o) then z_go 56 [some (.ref 127), some (.int (nI s)), some (.int i), some (.int (nI o)), some (.int j), some (.int n), none] [] 161 (I, J, RF w) else z_go 53 [some (.ref 127), some (.int (nI s)), some (.int i), some (.int (nI o)), some (.int j), some (.int n), none] [] 161 (I, J, RF w)) (fun _ => rfl) ?_
  refine z_evI (fun h5 => ?_) (fun h5 => ?_)
  · refine z_evL ?_
    exact absurd h5 hbad
  · refine z_evL ?_
    refine z_evG 2 (y := some (.inr (some (.int (-13)), 161, I, J, RF w))) (fun _ => rfl) ?_
    exact z_evR rfl
set_option maxRecDepth 20000 in
/-- LampHouse.copy -/
theorem x_copy_badD (E : zE) (d : Nat) (I : Nat → Nat → Int32) (J : Nat → Nat → Int64) (w : Nat) (s o : Nat) (i j n : Int32) (hl_s : s < 4) (hl_o : o < 4) (hs : ¬ I 123 s = (-1)) (ho : ¬ I 123 o = (-1)) (he : I 123 s = I 123 o) (hbad : ¬ ((¬ i < 0 ∧ ¬ n < 0 ∧ ¬ I 124 s < i ∧ ¬ I 124 s - i < n) ∧ (¬ j < 0 ∧ ¬ n < 0 ∧ ¬ I 124 o < j ∧ ¬ I 124 o - j < n))) : z_cl E (d + 2) 163 [.ref 0, .int (nI s), .int i, .int (nI o), .int j, .int n] (161, I, J, RF w) = some (some (.int (-12)), 161, I, J, RF w) := by
  refine z_call (d := d + 1) (M := z_m163) rfl rfl ?_
  refine z_evG 2 (y := z_ret (z_cl E (d + 1) 95 [.int (nI s)] (161, (I, J, RF w))) 4 [some (.ref 0), some (.int (nI s)), some (.int i), some (.int (nI o)), some (.int j), some (.int n)] []) (fun _ => rfl) ?_
  refine z_evK (v := .int (z_bo (¬ (nI s) < 0 ∧ (nI s) < 4))) (z' := 161) (σ' := (I, J, RF w)) (x_isPlace E d I J w (nI s)) ?_
  refine z_evG 1 (y := if (z_bo (¬ (nI s) < 0 ∧ (nI s) < 4)) = 0 then z_go 14 [some (.ref 0), some (.int (nI s)), some (.int i), some (.int (nI o)), some (.int j), some (.int n)] [] 161 (I, J, RF w) else z_go 7 [some (.ref 0), some (.int (nI s)), some (.int i), some (.int (nI o)), some (.int j), some (.int n)] [] 161 (I, J, RF w)) (fun _ => rfl) ?_
  refine z_evF (fun q0 => z_bo_0.mp q0 ⟨nI_pos (by omega), (show _ ↔ s < 4 from z_ltN rfl rfl (by omega) (by decide)).mpr (by omega)⟩) ?_
  refine z_evL ?_
  refine z_evG 2 (y := z_ret (z_cl E (d + 1) 95 [.int (nI o)] (161, (I, J, RF w))) 11 [some (.ref 0), some (.int (nI s)), some (.int i), some (.int (nI o)), some (.int j), some (.int n)] []) (fun _ => rfl) ?_
  refine z_evK (v := .int (z_bo (¬ (nI o) < 0 ∧ (nI o) < 4))) (z' := 161) (σ' := (I, J, RF w)) (x_isPlace E d I J w (nI o)) ?_
  refine z_evG 1 (y := if (z_bo (¬ (nI o) < 0 ∧ (nI o) < 4)) = 0 then z_go 14 [some (.ref 0), some (.int (nI s)), some (.int i), some (.int (nI o)), some (.int j), some (.int n)] [] 161 (I, J, RF w) else z_go 17 [some (.ref 0), some (.int (nI s)), some (.int i), some (.int (nI o)), some (.int j), some (.int n)] [] 161 (I, J, RF w)) (fun _ => rfl) ?_
  refine z_evF (fun q0 => z_bo_0.mp q0 ⟨nI_pos (by omega), (show _ ↔ o < 4 from z_ltN rfl rfl (by omega) (by decide)).mpr (by omega)⟩) ?_
  refine z_evL ?_
  refine z_evG 4 (y := z_ret (z_cl E (d + 1) 97 [.ref 117, .int (nI s)] (161, (I, J, RF w))) 25 [some (.ref 0), some (.int (nI s)), some (.int i), some (.int (nI o)), some (.int j), some (.int n)] []) (fun _ => rfl) ?_
  refine z_evK (v := .int (z_bo (I 123 s = (-1)))) (z' := 161) (σ' := (I, J, RF w)) (x_sheets_isMissingN E d I J w s (by omega)) ?_
  refine z_evG 1 (y := if (z_bo (I 123 s = (-1))) = 0 then z_go 28 [some (.ref 0), some (.int (nI s)), some (.int i), some (.int (nI o)), some (.int j), some (.int n)] [] 161 (I, J, RF w) else z_go 39 [some (.ref 0), some (.int (nI s)), some (.int i), some (.int (nI o)), some (.int j), some (.int n)] [] 161 (I, J, RF w)) (fun _ => rfl) ?_
  refine z_evT (z_bo_0.mpr hs) ?_
  refine z_evL ?_
  refine z_evG 4 (y := z_ret (z_cl E (d + 1) 97 [.ref 117, .int (nI o)] (161, (I, J, RF w))) 36 [some (.ref 0), some (.int (nI s)), some (.int i), some (.int (nI o)), some (.int j), some (.int n)] []) (fun _ => rfl) ?_
  refine z_evK (v := .int (z_bo (I 123 o = (-1)))) (z' := 161) (σ' := (I, J, RF w)) (x_sheets_isMissingN E d I J w o (by omega)) ?_
  refine z_evG 1 (y := if (z_bo (I 123 o = (-1))) = 0 then z_go 42 [some (.ref 0), some (.int (nI s)), some (.int i), some (.int (nI o)), some (.int j), some (.int n)] [] 161 (I, J, RF w) else z_go 39 [some (.ref 0), some (.int (nI s)), some (.int i), some (.int (nI o)), some (.int j), some (.int n)] [] 161 (I, J, RF w)) (fun _ => rfl) ?_
  refine z_evT (z_bo_0.mpr ho) ?_
  refine z_evL ?_
  refine z_evG 4 (y := z_ret (z_cl E (d + 1) 98 [.ref 117, .int (nI s)] (161, (I, J, RF w))) 50 [some (.ref 0), some (.int (nI s)), some (.int i), some (.int (nI o)), some (.int j), some (.int n)] []) (fun _ => rfl) ?_
  refine z_evK (v := .int (I 123 s)) (z' := 161) (σ' := (I, J, RF w)) (x_sheets_sortOfN E d I J w s (by omega)) ?_
  refine z_evG 4 (y := z_ret (z_cl E (d + 1) 98 [.ref 117, .int (nI o)] (161, (I, J, RF w))) 58 [some (.ref 0), some (.int (nI s)), some (.int i), some (.int (nI o)), some (.int j), some (.int n)] [.int (I 123 s)]) (fun _ => rfl) ?_
  refine z_evK (v := .int (I 123 o)) (z' := 161) (σ' := (I, J, RF w)) (x_sheets_sortOfN E d I J w o (by omega)) ?_
  refine z_evG 1 (y := if (I 123 s) = (I 123 o) then z_go 64 [some (.ref 0), some (.int (nI s)), some (.int i), some (.int (nI o)), some (.int j), some (.int n)] [] 161 (I, J, RF w) else z_go 61 [some (.ref 0), some (.int (nI s)), some (.int i), some (.int (nI o)), some (.int j), some (.int n)] [] 161 (I, J, RF w)) (fun _ => rfl) ?_
  refine z_evT he ?_
  refine z_evL ?_
  refine z_evG 6 (y := z_ret (z_cl E (d + 1) 100 [.ref 117, .int (nI s), .int i, .int n] (161, (I, J, RF w))) 75 [some (.ref 0), some (.int (nI s)), some (.int i), some (.int (nI o)), some (.int j), some (.int n)] []) (fun _ => rfl) ?_
  refine z_evK (v := .int (z_bo (¬ i < 0 ∧ ¬ n < 0 ∧ ¬ I 124 s < i ∧ ¬ I 124 s - i < n))) (z' := 161) (σ' := (I, J, RF w)) (x_sheets_holdsN E d I J w s i n (by omega)) ?_
  refine z_evG 1 (y := if (z_bo (¬ i < 0 ∧ ¬ n < 0 ∧ ¬ I 124 s < i ∧ ¬ I 124 s - i < n)) = 0 then z_go 93 [some (.ref 0), some (.int (nI s)), some (.int i), some (.int (nI o)), some (.int j), some (.int n)] [] 161 (I, J, RF w) else z_go 78 [some (.ref 0), some (.int (nI s)), some (.int i), some (.int (nI o)), some (.int j), some (.int n)] [] 161 (I, J, RF w)) (fun _ => rfl) ?_
  refine z_evO (fun h6 => ?_) (fun h6 => ?_)
  · refine z_evL ?_
    refine z_evG 2 (y := some (.inr (some (.int (-12)), 161, I, J, RF w))) (fun _ => rfl) ?_
    exact z_evR rfl
  · refine z_evL ?_
    refine z_evG 6 (y := z_ret (z_cl E (d + 1) 100 [.ref 117, .int (nI o), .int j, .int n] (161, (I, J, RF w))) 90 [some (.ref 0), some (.int (nI s)), some (.int i), some (.int (nI o)), some (.int j), some (.int n)] []) (fun _ => rfl) ?_
    refine z_evK (v := .int (z_bo (¬ j < 0 ∧ ¬ n < 0 ∧ ¬ I 124 o < j ∧ ¬ I 124 o - j < n))) (z' := 161) (σ' := (I, J, RF w)) (x_sheets_holdsN E d I J w o j n (by omega)) ?_
    refine z_evG 1 (y := if (z_bo (¬ j < 0 ∧ ¬ n < 0 ∧ ¬ I 124 o < j ∧ ¬ I 124 o - j < n)) = 0 then z_go 93 [some (.ref 0), some (.int (nI s)), some (.int i), some (.int (nI o)), some (.int j), some (.int n)] [] 161 (I, J, RF w) else z_go 96 [some (.ref 0), some (.int (nI s)), some (.int i), some (.int (nI o)), some (.int j), some (.int n)] [] 161 (I, J, RF w)) (fun _ => rfl) ?_
    refine z_evO (fun h7 => ?_) (fun h7 => ?_)
    · refine z_evL ?_
      refine z_evG 2 (y := some (.inr (some (.int (-12)), 161, I, J, RF w))) (fun _ => rfl) ?_
      exact z_evR rfl
    · refine z_evL ?_
      exact absurd ⟨h6, h7⟩ hbad
set_option maxRecDepth 20000 in
/-- LampHouseModel.copy -/
theorem m_copy_badD (E : zE) (d : Nat) (I : Nat → Nat → Int32) (J : Nat → Nat → Int64) (w : Nat) (s o : Nat) (i j n : Int32) (hl_s : s < 4) (hl_o : o < 4) (hs : ¬ I 157 s < 0) (ho : ¬ I 157 o < 0) (he : I 157 s = I 157 o) (hbad : ¬ ((¬ n < 0) ∧ (¬ i < 0) ∧ (¬ j < 0) ∧ (¬ I 158 s - n < i) ∧ (¬ I 158 o - n < j))) : z_cl E (d + 3) 250 [.ref 127, .int (nI s), .int i, .int (nI o), .int j, .int n] (161, I, J, RF w) = some (some (.int (-12)), 161, I, J, RF w) := by
  refine z_call (d := d + 2) (M := z_m250) rfl rfl ?_
  refine z_evG 2 (y := z_ret (z_cl E (d + 2) 247 [.int (nI s)] (161, (I, J, RF w))) 4 [some (.ref 127), some (.int (nI s)), some (.int i), some (.int (nI o)), some (.int j), some (.int n), none] []) (fun _ => rfl) ?_
  refine z_evK (v := .int (z_bo (¬ (nI s) < 0 ∧ ¬ 3 < (nI s)))) (z' := 161) (σ' := (I, J, RF w)) (m_isSheet E d I J w (nI s)) ?_
  refine z_evG 1 (y := if (z_bo (¬ (nI s) < 0 ∧ ¬ 3 < (nI s))) = 0 then z_go 14 [some (.ref 127), some (.int (nI s)), some (.int i), some (.int (nI o)), some (.int j), some (.int n), none] [] 161 (I, J, RF w) else z_go 7 [some (.ref 127), some (.int (nI s)), some (.int i), some (.int (nI o)), some (.int j), some (.int n), none] [] 161 (I, J, RF w)) (fun _ => rfl) ?_
  refine z_evF (fun q0 => z_bo_0.mp q0 ⟨nI_pos (by omega), mt (show _ ↔ 3 < s from z_ltN rfl rfl (by decide) (by omega)).mp (by omega)⟩) ?_
  refine z_evL ?_
  refine z_evG 2 (y := z_ret (z_cl E (d + 2) 247 [.int (nI o)] (161, (I, J, RF w))) 11 [some (.ref 127), some (.int (nI s)), some (.int i), some (.int (nI o)), some (.int j), some (.int n), none] []) (fun _ => rfl) ?_
  refine z_evK (v := .int (z_bo (¬ (nI o) < 0 ∧ ¬ 3 < (nI o)))) (z' := 161) (σ' := (I, J, RF w)) (m_isSheet E d I J w (nI o)) ?_
  refine z_evG 1 (y := if (z_bo (¬ (nI o) < 0 ∧ ¬ 3 < (nI o))) = 0 then z_go 14 [some (.ref 127), some (.int (nI s)), some (.int i), some (.int (nI o)), some (.int j), some (.int n), none] [] 161 (I, J, RF w) else z_go 17 [some (.ref 127), some (.int (nI s)), some (.int i), some (.int (nI o)), some (.int j), some (.int n), none] [] 161 (I, J, RF w)) (fun _ => rfl) ?_
  refine z_evF (fun q0 => z_bo_0.mp q0 ⟨nI_pos (by omega), mt (show _ ↔ 3 < o from z_ltN rfl rfl (by decide) (by omega)).mp (by omega)⟩) ?_
  refine z_evL ?_
  refine z_evG 4 (y := z_ild (z_ia E 161 (I, J, RF w) 157) (nI s) fun vv => z_go 23 [some (.ref 127), some (.int (nI s)), some (.int i), some (.int (nI o)), some (.int j), some (.int n), none] [.int vv] 161 (I, J, RF w)) (fun _ => rfl) ?_
  refine z_evBn (N := 4) (f := (I 157)) (k := s) rfl rfl (by omega) ?_
  refine z_evL ?_
  refine z_evG 1 (y := if (I 157 s) < 0 then z_go 35 [some (.ref 127), some (.int (nI s)), some (.int i), some (.int (nI o)), some (.int j), some (.int n), none] [] 161 (I, J, RF w) else z_go 26 [some (.ref 127), some (.int (nI s)), some (.int i), some (.int (nI o)), some (.int j), some (.int n), none] [] 161 (I, J, RF w)) (fun _ => rfl) ?_
  refine z_evF hs ?_
  refine z_evL ?_
  refine z_evG 4 (y := z_ild (z_ia E 161 (I, J, RF w) 157) (nI o) fun vv => z_go 32 [some (.ref 127), some (.int (nI s)), some (.int i), some (.int (nI o)), some (.int j), some (.int n), none] [.int vv] 161 (I, J, RF w)) (fun _ => rfl) ?_
  refine z_evBn (N := 4) (f := (I 157)) (k := o) rfl rfl (by omega) ?_
  refine z_evL ?_
  refine z_evG 1 (y := if (I 157 o) < 0 then z_go 35 [some (.ref 127), some (.int (nI s)), some (.int i), some (.int (nI o)), some (.int j), some (.int n), none] [] 161 (I, J, RF w) else z_go 38 [some (.ref 127), some (.int (nI s)), some (.int i), some (.int (nI o)), some (.int j), some (.int n), none] [] 161 (I, J, RF w)) (fun _ => rfl) ?_
  refine z_evF ho ?_
  refine z_evL ?_
  refine z_evG 4 (y := z_ild (z_ia E 161 (I, J, RF w) 157) (nI s) fun vv => z_go 44 [some (.ref 127), some (.int (nI s)), some (.int i), some (.int (nI o)), some (.int j), some (.int n), none] [.int vv] 161 (I, J, RF w)) (fun _ => rfl) ?_
  refine z_evBn (N := 4) (f := (I 157)) (k := s) rfl rfl (by omega) ?_
  refine z_evL ?_
  refine z_evG 4 (y := z_ild (z_ia E 161 (I, J, RF w) 157) (nI o) fun vv => z_go 50 [some (.ref 127), some (.int (nI s)), some (.int i), some (.int (nI o)), some (.int j), some (.int n), none] [.int vv, .int (I 157 s)] 161 (I, J, RF w)) (fun _ => rfl) ?_
  refine z_evBn (N := 4) (f := (I 157)) (k := o) rfl rfl (by omega) ?_
  refine z_evL ?_
  refine z_evG 1 (y := if (I 157 s) = (I 157 o) then z_go 56 [some (.ref 127), some (.int (nI s)), some (.int i), some (.int (nI o)), some (.int j), some (.int n), none] [] 161 (I, J, RF w) else z_go 53 [some (.ref 127), some (.int (nI s)), some (.int i), some (.int (nI o)), some (.int j), some (.int n), none] [] 161 (I, J, RF w)) (fun _ => rfl) ?_
  refine z_evT he ?_
  refine z_evL ?_
  refine z_evG 2 (y := if n < 0 then z_go 97 [some (.ref 127), some (.int (nI s)), some (.int i), some (.int (nI o)), some (.int j), some (.int n), none] [] 161 (I, J, RF w) else z_go 61 [some (.ref 127), some (.int (nI s)), some (.int i), some (.int (nI o)), some (.int j), some (.int n), none] [] 161 (I, J, RF w)) (fun _ => rfl) ?_
  refine z_evI (fun h6 => ?_) (fun h6 => ?_)
  · refine z_evL ?_
    refine z_evG 2 (y := some (.inr (some (.int (-12)), 161, I, J, RF w))) (fun _ => rfl) ?_
    exact z_evR rfl
  · refine z_evL ?_
    refine z_evG 2 (y := if i < 0 then z_go 97 [some (.ref 127), some (.int (nI s)), some (.int i), some (.int (nI o)), some (.int j), some (.int n), none] [] 161 (I, J, RF w) else z_go 65 [some (.ref 127), some (.int (nI s)), some (.int i), some (.int (nI o)), some (.int j), some (.int n), none] [] 161 (I, J, RF w)) (fun _ => rfl) ?_
    refine z_evI (fun h7 => ?_) (fun h7 => ?_)
    · refine z_evL ?_
      refine z_evG 2 (y := some (.inr (some (.int (-12)), 161, I, J, RF w))) (fun _ => rfl) ?_
      exact z_evR rfl
    · refine z_evL ?_
      refine z_evG 2 (y := if j < 0 then z_go 97 [some (.ref 127), some (.int (nI s)), some (.int i), some (.int (nI o)), some (.int j), some (.int n), none] [] 161 (I, J, RF w) else z_go 70 [some (.ref 127), some (.int (nI s)), some (.int i), some (.int (nI o)), some (.int j), some (.int n), none] [] 161 (I, J, RF w)) (fun _ => rfl) ?_
      refine z_evI (fun h8 => ?_) (fun h8 => ?_)
      · refine z_evL ?_
        refine z_evG 2 (y := some (.inr (some (.int (-12)), 161, I, J, RF w))) (fun _ => rfl) ?_
        exact z_evR rfl
      · refine z_evL ?_
        refine z_evG 5 (y := z_ild (z_ia E 161 (I, J, RF w) 158) (nI s) fun vv => z_go 77 [some (.ref 127), some (.int (nI s)), some (.int i), some (.int (nI o)), some (.int j), some (.int n), none] [.int vv, .int i] 161 (I, J, RF w)) (fun _ => rfl) ?_
        refine z_evBn (N := 4) (f := (I 158)) (k := s) rfl rfl (by omega) ?_
        refine z_evL ?_
        refine z_evG 3 (y := if ((I 158 s) - n) < i then z_go 97 [some (.ref 127), some (.int (nI s)), some (.int i), some (.int (nI o)), some (.int j), some (.int n), none] [] 161 (I, J, RF w) else z_go 83 [some (.ref 127), some (.int (nI s)), some (.int i), some (.int (nI o)), some (.int j), some (.int n), none] [] 161 (I, J, RF w)) (fun _ => rfl) ?_
        refine z_evI (fun h9 => ?_) (fun h9 => ?_)
        · refine z_evL ?_
          refine z_evG 2 (y := some (.inr (some (.int (-12)), 161, I, J, RF w))) (fun _ => rfl) ?_
          exact z_evR rfl
        · refine z_evL ?_
          refine z_evG 5 (y := z_ild (z_ia E 161 (I, J, RF w) 158) (nI o) fun vv => z_go 91 [some (.ref 127), some (.int (nI s)), some (.int i), some (.int (nI o)), some (.int j), some (.int n), none] [.int vv, .int j] 161 (I, J, RF w)) (fun _ => rfl) ?_
          refine z_evBn (N := 4) (f := (I 158)) (k := o) rfl rfl (by omega) ?_
          refine z_evL ?_
          refine z_evG 3 (y := if ((I 158 o) - n) < j then z_go 97 [some (.ref 127), some (.int (nI s)), some (.int i), some (.int (nI o)), some (.int j), some (.int n), none] [] 161 (I, J, RF w) else z_go 100 [some (.ref 127), some (.int (nI s)), some (.int i), some (.int (nI o)), some (.int j), some (.int n), none] [] 161 (I, J, RF w)) (fun _ => rfl) ?_
          refine z_evI (fun h10 => ?_) (fun h10 => ?_)
          · refine z_evL ?_
            refine z_evG 2 (y := some (.inr (some (.int (-12)), 161, I, J, RF w))) (fun _ => rfl) ?_
            exact z_evR rfl
          · refine z_evL ?_
            exact absurd ⟨h6, h7, h8, h9, h10⟩ hbad
set_option maxRecDepth 20000 in
/-- LampHouse.copy -/
theorem x_copy_ok (E : zE) (d : Nat) (I : Nat → Nat → Int32) (J : Nat → Nat → Int64) (w : Nat) (s i o j n a b : Nat) (hl_s : s < 4) (hl_o : o < 4) (hs : ¬ I 123 s = (-1)) (ho : ¬ I 123 o = (-1)) (he : I 123 s = I 123 o) (h_a : I 124 s = nI a) (h_b : I 124 o = nI b) (hm_a : a ≤ 40) (hm_b : b ≤ 40) (h1 : i + n ≤ a) (h2 : j + n ≤ b) : z_cl E (d + 2) 163 [.ref 0, .int (nI s), .int (nI i), .int (nI o), .int (nI j), .int (nI n)] (161, I, J, RF w) = some (some (.int (nI n)), 161, (z_ur I (119 + o) (va_cpy (I (119 + s)) (I (119 + o)) i j n)), J, RF w) := by
  refine z_call (d := d + 1) (M := z_m163) rfl rfl ?_
  refine z_evG 2 (y := z_ret (z_cl E (d + 1) 95 [.int (nI s)] (161, (I, J, RF w))) 4 [some (.ref 0), some (.int (nI s)), some (.int (nI i)), some (.int (nI o)), some (.int (nI j)), some (.int (nI n))] []) (fun _ => rfl) ?_
  refine z_evK (v := .int (z_bo (¬ (nI s) < 0 ∧ (nI s) < 4))) (z' := 161) (σ' := (I, J, RF w)) (x_isPlace E d I J w (nI s)) ?_
  refine z_evG 1 (y := if (z_bo (¬ (nI s) < 0 ∧ (nI s) < 4)) = 0 then z_go 14 [some (.ref 0), some (.int (nI s)), some (.int (nI i)), some (.int (nI o)), some (.int (nI j)), some (.int (nI n))] [] 161 (I, J, RF w) else z_go 7 [some (.ref 0), some (.int (nI s)), some (.int (nI i)), some (.int (nI o)), some (.int (nI j)), some (.int (nI n))] [] 161 (I, J, RF w)) (fun _ => rfl) ?_
  refine z_evF (fun q0 => z_bo_0.mp q0 ⟨nI_pos (by omega), (show _ ↔ s < 4 from z_ltN rfl rfl (by omega) (by decide)).mpr (by omega)⟩) ?_
  refine z_evL ?_
  refine z_evG 2 (y := z_ret (z_cl E (d + 1) 95 [.int (nI o)] (161, (I, J, RF w))) 11 [some (.ref 0), some (.int (nI s)), some (.int (nI i)), some (.int (nI o)), some (.int (nI j)), some (.int (nI n))] []) (fun _ => rfl) ?_
  refine z_evK (v := .int (z_bo (¬ (nI o) < 0 ∧ (nI o) < 4))) (z' := 161) (σ' := (I, J, RF w)) (x_isPlace E d I J w (nI o)) ?_
  refine z_evG 1 (y := if (z_bo (¬ (nI o) < 0 ∧ (nI o) < 4)) = 0 then z_go 14 [some (.ref 0), some (.int (nI s)), some (.int (nI i)), some (.int (nI o)), some (.int (nI j)), some (.int (nI n))] [] 161 (I, J, RF w) else z_go 17 [some (.ref 0), some (.int (nI s)), some (.int (nI i)), some (.int (nI o)), some (.int (nI j)), some (.int (nI n))] [] 161 (I, J, RF w)) (fun _ => rfl) ?_
  refine z_evF (fun q0 => z_bo_0.mp q0 ⟨(mt (show _ ↔ o < 0 from z_ltN rfl rfl (by omega) (by omega)).mp (by omega)), ((show _ ↔ o < 4 from z_ltN rfl rfl (by omega) (by omega)).mpr (by omega))⟩) ?_
  refine z_evL ?_
  refine z_evG 4 (y := z_ret (z_cl E (d + 1) 97 [.ref 117, .int (nI s)] (161, (I, J, RF w))) 25 [some (.ref 0), some (.int (nI s)), some (.int (nI i)), some (.int (nI o)), some (.int (nI j)), some (.int (nI n))] []) (fun _ => rfl) ?_
  refine z_evK (v := .int (z_bo (I 123 s = (-1)))) (z' := 161) (σ' := (I, J, RF w)) (x_sheets_isMissingN E d I J w s (by omega)) ?_
  refine z_evG 1 (y := if (z_bo (I 123 s = (-1))) = 0 then z_go 28 [some (.ref 0), some (.int (nI s)), some (.int (nI i)), some (.int (nI o)), some (.int (nI j)), some (.int (nI n))] [] 161 (I, J, RF w) else z_go 39 [some (.ref 0), some (.int (nI s)), some (.int (nI i)), some (.int (nI o)), some (.int (nI j)), some (.int (nI n))] [] 161 (I, J, RF w)) (fun _ => rfl) ?_
  refine z_evT (z_bo_0.mpr hs) ?_
  refine z_evL ?_
  refine z_evG 4 (y := z_ret (z_cl E (d + 1) 97 [.ref 117, .int (nI o)] (161, (I, J, RF w))) 36 [some (.ref 0), some (.int (nI s)), some (.int (nI i)), some (.int (nI o)), some (.int (nI j)), some (.int (nI n))] []) (fun _ => rfl) ?_
  refine z_evK (v := .int (z_bo (I 123 o = (-1)))) (z' := 161) (σ' := (I, J, RF w)) (x_sheets_isMissingN E d I J w o (by omega)) ?_
  refine z_evG 1 (y := if (z_bo (I 123 o = (-1))) = 0 then z_go 42 [some (.ref 0), some (.int (nI s)), some (.int (nI i)), some (.int (nI o)), some (.int (nI j)), some (.int (nI n))] [] 161 (I, J, RF w) else z_go 39 [some (.ref 0), some (.int (nI s)), some (.int (nI i)), some (.int (nI o)), some (.int (nI j)), some (.int (nI n))] [] 161 (I, J, RF w)) (fun _ => rfl) ?_
  refine z_evT (z_bo_0.mpr ho) ?_
  refine z_evL ?_
  refine z_evG 4 (y := z_ret (z_cl E (d + 1) 98 [.ref 117, .int (nI s)] (161, (I, J, RF w))) 50 [some (.ref 0), some (.int (nI s)), some (.int (nI i)), some (.int (nI o)), some (.int (nI j)), some (.int (nI n))] []) (fun _ => rfl) ?_
  refine z_evK (v := .int (I 123 s)) (z' := 161) (σ' := (I, J, RF w)) (x_sheets_sortOfN E d I J w s (by omega)) ?_
  refine z_evG 4 (y := z_ret (z_cl E (d + 1) 98 [.ref 117, .int (nI o)] (161, (I, J, RF w))) 58 [some (.ref 0), some (.int (nI s)), some (.int (nI i)), some (.int (nI o)), some (.int (nI j)), some (.int (nI n))] [.int (I 123 s)]) (fun _ => rfl) ?_
  refine z_evK (v := .int (I 123 o)) (z' := 161) (σ' := (I, J, RF w)) (x_sheets_sortOfN E d I J w o (by omega)) ?_
  refine z_evG 1 (y := if (I 123 s) = (I 123 o) then z_go 64 [some (.ref 0), some (.int (nI s)), some (.int (nI i)), some (.int (nI o)), some (.int (nI j)), some (.int (nI n))] [] 161 (I, J, RF w) else z_go 61 [some (.ref 0), some (.int (nI s)), some (.int (nI i)), some (.int (nI o)), some (.int (nI j)), some (.int (nI n))] [] 161 (I, J, RF w)) (fun _ => rfl) ?_
  refine z_evT he ?_
  refine z_evL ?_
  refine z_evG 6 (y := z_ret (z_cl E (d + 1) 100 [.ref 117, .int (nI s), .int (nI i), .int (nI n)] (161, (I, J, RF w))) 75 [some (.ref 0), some (.int (nI s)), some (.int (nI i)), some (.int (nI o)), some (.int (nI j)), some (.int (nI n))] []) (fun _ => rfl) ?_
  refine z_evK (v := .int (z_bo (¬ (nI i) < 0 ∧ ¬ (nI n) < 0 ∧ ¬ I 124 s < (nI i) ∧ ¬ I 124 s - (nI i) < (nI n)))) (z' := 161) (σ' := (I, J, RF w)) (x_sheets_holdsN E d I J w s (nI i) (nI n) (by omega)) ?_
  refine z_evG 1 (y := if (z_bo (¬ (nI i) < 0 ∧ ¬ (nI n) < 0 ∧ ¬ I 124 s < (nI i) ∧ ¬ I 124 s - (nI i) < (nI n))) = 0 then z_go 93 [some (.ref 0), some (.int (nI s)), some (.int (nI i)), some (.int (nI o)), some (.int (nI j)), some (.int (nI n))] [] 161 (I, J, RF w) else z_go 78 [some (.ref 0), some (.int (nI s)), some (.int (nI i)), some (.int (nI o)), some (.int (nI j)), some (.int (nI n))] [] 161 (I, J, RF w)) (fun _ => rfl) ?_
  refine z_evF (fun q0 => z_bo_0.mp q0 ⟨nI_pos (by omega), nI_pos (by omega), (mt (show _ ↔ a < i from z_ltN h_a rfl (by omega) (by omega)).mp (by omega)), (mt (show _ ↔ a - i < n from z_ltN (z_subE h_a rfl (by omega)) rfl (by omega) (by omega)).mp (by omega))⟩) ?_
  refine z_evL ?_
  refine z_evG 6 (y := z_ret (z_cl E (d + 1) 100 [.ref 117, .int (nI o), .int (nI j), .int (nI n)] (161, (I, J, RF w))) 90 [some (.ref 0), some (.int (nI s)), some (.int (nI i)), some (.int (nI o)), some (.int (nI j)), some (.int (nI n))] []) (fun _ => rfl) ?_
  refine z_evK (v := .int (z_bo (¬ (nI j) < 0 ∧ ¬ (nI n) < 0 ∧ ¬ I 124 o < (nI j) ∧ ¬ I 124 o - (nI j) < (nI n)))) (z' := 161) (σ' := (I, J, RF w)) (x_sheets_holdsN E d I J w o (nI j) (nI n) (by omega)) ?_
  refine z_evG 1 (y := if (z_bo (¬ (nI j) < 0 ∧ ¬ (nI n) < 0 ∧ ¬ I 124 o < (nI j) ∧ ¬ I 124 o - (nI j) < (nI n))) = 0 then z_go 93 [some (.ref 0), some (.int (nI s)), some (.int (nI i)), some (.int (nI o)), some (.int (nI j)), some (.int (nI n))] [] 161 (I, J, RF w) else z_go 96 [some (.ref 0), some (.int (nI s)), some (.int (nI i)), some (.int (nI o)), some (.int (nI j)), some (.int (nI n))] [] 161 (I, J, RF w)) (fun _ => rfl) ?_
  refine z_evF (fun q0 => z_bo_0.mp q0 ⟨nI_pos (by omega), nI_pos (by omega), (mt (show _ ↔ b < j from z_ltN h_b rfl (by omega) (by omega)).mp (by omega)), (mt (show _ ↔ b - j < n from z_ltN (z_subE h_b rfl (by omega)) rfl (by omega) (by omega)).mp (by omega))⟩) ?_
  refine z_evL ?_
  refine z_evG 4 (y := z_ret (z_cl E (d + 1) 99 [.ref 117, .int (nI s)] (161, (I, J, RF w))) 104 [some (.ref 0), some (.int (nI s)), some (.int (nI i)), some (.int (nI o)), some (.int (nI j)), some (.int (nI n))] []) (fun _ => rfl) ?_
  refine z_evK (v := .ref (119 + s)) (z' := 161) (σ' := (I, J, RF w)) (x_sheets_getN E d I J w s (by omega)) ?_
  refine z_evG 5 (y := z_ret (z_cl E (d + 1) 99 [.ref 117, .int (nI o)] (161, (I, J, RF w))) 113 [some (.ref 0), some (.int (nI s)), some (.int (nI i)), some (.int (nI o)), some (.int (nI j)), some (.int (nI n))] [.int (nI i), .ref (119 + s)]) (fun _ => rfl) ?_
  refine z_evK (v := .ref (119 + o)) (z' := 161) (σ' := (I, J, RF w)) (x_sheets_getN E d I J w o (by omega)) ?_
  refine z_evG 3 (y := z_copy E 161 (I, J, RF w) (119 + s) (119 + o) (nI i) (nI j) (nI n) fun z σ => z_go 120 [some (.ref 0), some (.int (nI s)), some (.int (nI i)), some (.int (nI o)), some (.int (nI j)), some (.int (nI n))] [] z σ) (fun _ => rfl) ?_
  refine z_evYn (N := 40) (m := 40) (f := I (119 + s)) (a := i) (b := j) (c := n) (z_iaA (z_A_sheets s (by omega))) (z_A_sheets o (by omega)) rfl rfl rfl (by omega) (by omega) (by decide) (by decide) ?_
  refine z_evL ?_
  refine z_evG 2 (y := some (.inr (some (.int (nI n)), 161, (z_ur I (119 + o) (va_cpy (I (119 + s)) (I (119 + o)) i j n)), J, RF w))) (fun _ => rfl) ?_
  exact z_evR rfl
set_option maxRecDepth 20000 in
/-- LampHouseModel.copy -/
theorem m_copy_ok (E : zE) (d : Nat) (I : Nat → Nat → Int32) (J : Nat → Nat → Int64) (w : Nat) (s i o j n a b : Nat) (hl_s : s < 4) (hl_o : o < 4) (hs : ¬ I 157 s < 0) (ho : ¬ I 157 o < 0) (he : I 157 s = I 157 o) (h_a : I 158 s = nI a) (h_b : I 158 o = nI b) (hm_a : a ≤ 40) (hm_b : b ≤ 40) (h1 : i + n ≤ a) (h2 : j + n ≤ b) : z_cl E (d + 3) 250 [.ref 127, .int (nI s), .int (nI i), .int (nI o), .int (nI j), .int (nI n)] (161, I, J, RF w) = some (some (.int (nI n)), 161, (z_ur (z_ur I 160 (z_fil (I 160) 0 n (fun c => I 159 (40 * s + i + c)))) 159 (z_fil (I 159) (40 * o + j) n (fun c => I 159 (40 * s + i + c)))), J, RF w) := by
  refine z_call (d := d + 2) (M := z_m250) rfl rfl ?_
  refine z_evG 2 (y := z_ret (z_cl E (d + 2) 247 [.int (nI s)] (161, (I, J, RF w))) 4 [some (.ref 127), some (.int (nI s)), some (.int (nI i)), some (.int (nI o)), some (.int (nI j)), some (.int (nI n)), none] []) (fun _ => rfl) ?_
  refine z_evK (v := .int (z_bo (¬ (nI s) < 0 ∧ ¬ 3 < (nI s)))) (z' := 161) (σ' := (I, J, RF w)) (m_isSheet E d I J w (nI s)) ?_
  refine z_evG 1 (y := if (z_bo (¬ (nI s) < 0 ∧ ¬ 3 < (nI s))) = 0 then z_go 14 [some (.ref 127), some (.int (nI s)), some (.int (nI i)), some (.int (nI o)), some (.int (nI j)), some (.int (nI n)), none] [] 161 (I, J, RF w) else z_go 7 [some (.ref 127), some (.int (nI s)), some (.int (nI i)), some (.int (nI o)), some (.int (nI j)), some (.int (nI n)), none] [] 161 (I, J, RF w)) (fun _ => rfl) ?_
  refine z_evF (fun q0 => z_bo_0.mp q0 ⟨nI_pos (by omega), mt (show _ ↔ 3 < s from z_ltN rfl rfl (by decide) (by omega)).mp (by omega)⟩) ?_
  refine z_evL ?_
  refine z_evG 2 (y := z_ret (z_cl E (d + 2) 247 [.int (nI o)] (161, (I, J, RF w))) 11 [some (.ref 127), some (.int (nI s)), some (.int (nI i)), some (.int (nI o)), some (.int (nI j)), some (.int (nI n)), none] []) (fun _ => rfl) ?_
  refine z_evK (v := .int (z_bo (¬ (nI o) < 0 ∧ ¬ 3 < (nI o)))) (z' := 161) (σ' := (I, J, RF w)) (m_isSheet E d I J w (nI o)) ?_
  refine z_evG 1 (y := if (z_bo (¬ (nI o) < 0 ∧ ¬ 3 < (nI o))) = 0 then z_go 14 [some (.ref 127), some (.int (nI s)), some (.int (nI i)), some (.int (nI o)), some (.int (nI j)), some (.int (nI n)), none] [] 161 (I, J, RF w) else z_go 17 [some (.ref 127), some (.int (nI s)), some (.int (nI i)), some (.int (nI o)), some (.int (nI j)), some (.int (nI n)), none] [] 161 (I, J, RF w)) (fun _ => rfl) ?_
  refine z_evF (fun q0 => z_bo_0.mp q0 ⟨(mt (show _ ↔ o < 0 from z_ltN rfl rfl (by omega) (by omega)).mp (by omega)), (mt (show _ ↔ 3 < o from z_ltN rfl rfl (by omega) (by omega)).mp (by omega))⟩) ?_
  refine z_evL ?_
  refine z_evG 4 (y := z_ild (z_ia E 161 (I, J, RF w) 157) (nI s) fun vv => z_go 23 [some (.ref 127), some (.int (nI s)), some (.int (nI i)), some (.int (nI o)), some (.int (nI j)), some (.int (nI n)), none] [.int vv] 161 (I, J, RF w)) (fun _ => rfl) ?_
  refine z_evBn (N := 4) (f := (I 157)) (k := s) rfl rfl (by omega) ?_
  refine z_evL ?_
  refine z_evG 1 (y := if (I 157 s) < 0 then z_go 35 [some (.ref 127), some (.int (nI s)), some (.int (nI i)), some (.int (nI o)), some (.int (nI j)), some (.int (nI n)), none] [] 161 (I, J, RF w) else z_go 26 [some (.ref 127), some (.int (nI s)), some (.int (nI i)), some (.int (nI o)), some (.int (nI j)), some (.int (nI n)), none] [] 161 (I, J, RF w)) (fun _ => rfl) ?_
  refine z_evF hs ?_
  refine z_evL ?_
  refine z_evG 4 (y := z_ild (z_ia E 161 (I, J, RF w) 157) (nI o) fun vv => z_go 32 [some (.ref 127), some (.int (nI s)), some (.int (nI i)), some (.int (nI o)), some (.int (nI j)), some (.int (nI n)), none] [.int vv] 161 (I, J, RF w)) (fun _ => rfl) ?_
  refine z_evBn (N := 4) (f := (I 157)) (k := o) rfl rfl (by omega) ?_
  refine z_evL ?_
  refine z_evG 1 (y := if (I 157 o) < 0 then z_go 35 [some (.ref 127), some (.int (nI s)), some (.int (nI i)), some (.int (nI o)), some (.int (nI j)), some (.int (nI n)), none] [] 161 (I, J, RF w) else z_go 38 [some (.ref 127), some (.int (nI s)), some (.int (nI i)), some (.int (nI o)), some (.int (nI j)), some (.int (nI n)), none] [] 161 (I, J, RF w)) (fun _ => rfl) ?_
  refine z_evF ho ?_
  refine z_evL ?_
  refine z_evG 4 (y := z_ild (z_ia E 161 (I, J, RF w) 157) (nI s) fun vv => z_go 44 [some (.ref 127), some (.int (nI s)), some (.int (nI i)), some (.int (nI o)), some (.int (nI j)), some (.int (nI n)), none] [.int vv] 161 (I, J, RF w)) (fun _ => rfl) ?_
  refine z_evBn (N := 4) (f := (I 157)) (k := s) rfl rfl (by omega) ?_
  refine z_evL ?_
  refine z_evG 4 (y := z_ild (z_ia E 161 (I, J, RF w) 157) (nI o) fun vv => z_go 50 [some (.ref 127), some (.int (nI s)), some (.int (nI i)), some (.int (nI o)), some (.int (nI j)), some (.int (nI n)), none] [.int vv, .int (I 157 s)] 161 (I, J, RF w)) (fun _ => rfl) ?_
  refine z_evBn (N := 4) (f := (I 157)) (k := o) rfl rfl (by omega) ?_
  refine z_evL ?_
  refine z_evG 1 (y := if (I 157 s) = (I 157 o) then z_go 56 [some (.ref 127), some (.int (nI s)), some (.int (nI i)), some (.int (nI o)), some (.int (nI j)), some (.int (nI n)), none] [] 161 (I, J, RF w) else z_go 53 [some (.ref 127), some (.int (nI s)), some (.int (nI i)), some (.int (nI o)), some (.int (nI j)), some (.int (nI n)), none] [] 161 (I, J, RF w)) (fun _ => rfl) ?_
  refine z_evT he ?_
  refine z_evL ?_
  refine z_evG 2 (y := if (nI n) < 0 then z_go 97 [some (.ref 127), some (.int (nI s)), some (.int (nI i)), some (.int (nI o)), some (.int (nI j)), some (.int (nI n)), none] [] 161 (I, J, RF w) else z_go 61 [some (.ref 127), some (.int (nI s)), some (.int (nI i)), some (.int (nI o)), some (.int (nI j)), some (.int (nI n)), none] [] 161 (I, J, RF w)) (fun _ => rfl) ?_
  refine z_evF ((mt (show _ ↔ n < 0 from z_ltN rfl rfl (by omega) (by omega)).mp (by omega))) ?_
  refine z_evL ?_
  refine z_evG 2 (y := if (nI i) < 0 then z_go 97 [some (.ref 127), some (.int (nI s)), some (.int (nI i)), some (.int (nI o)), some (.int (nI j)), some (.int (nI n)), none] [] 161 (I, J, RF w) else z_go 65 [some (.ref 127), some (.int (nI s)), some (.int (nI i)), some (.int (nI o)), some (.int (nI j)), some (.int (nI n)), none] [] 161 (I, J, RF w)) (fun _ => rfl) ?_
  refine z_evF ((mt (show _ ↔ i < 0 from z_ltN rfl rfl (by omega) (by omega)).mp (by omega))) ?_
  refine z_evL ?_
  refine z_evG 2 (y := if (nI j) < 0 then z_go 97 [some (.ref 127), some (.int (nI s)), some (.int (nI i)), some (.int (nI o)), some (.int (nI j)), some (.int (nI n)), none] [] 161 (I, J, RF w) else z_go 70 [some (.ref 127), some (.int (nI s)), some (.int (nI i)), some (.int (nI o)), some (.int (nI j)), some (.int (nI n)), none] [] 161 (I, J, RF w)) (fun _ => rfl) ?_
  refine z_evF ((mt (show _ ↔ j < 0 from z_ltN rfl rfl (by omega) (by omega)).mp (by omega))) ?_
  refine z_evL ?_
  refine z_evG 5 (y := z_ild (z_ia E 161 (I, J, RF w) 158) (nI s) fun vv => z_go 77 [some (.ref 127), some (.int (nI s)), some (.int (nI i)), some (.int (nI o)), some (.int (nI j)), some (.int (nI n)), none] [.int vv, .int (nI i)] 161 (I, J, RF w)) (fun _ => rfl) ?_
  refine z_evBn (N := 4) (f := (I 158)) (k := s) rfl rfl (by omega) ?_
  refine z_evL ?_
  refine z_evG 3 (y := if ((I 158 s) - (nI n)) < (nI i) then z_go 97 [some (.ref 127), some (.int (nI s)), some (.int (nI i)), some (.int (nI o)), some (.int (nI j)), some (.int (nI n)), none] [] 161 (I, J, RF w) else z_go 83 [some (.ref 127), some (.int (nI s)), some (.int (nI i)), some (.int (nI o)), some (.int (nI j)), some (.int (nI n)), none] [] 161 (I, J, RF w)) (fun _ => rfl) ?_
  refine z_evF ((mt (show _ ↔ a - n < i from z_ltN (z_subE h_a rfl (by omega)) rfl (by omega) (by omega)).mp (by omega))) ?_
  refine z_evL ?_
  refine z_evG 5 (y := z_ild (z_ia E 161 (I, J, RF w) 158) (nI o) fun vv => z_go 91 [some (.ref 127), some (.int (nI s)), some (.int (nI i)), some (.int (nI o)), some (.int (nI j)), some (.int (nI n)), none] [.int vv, .int (nI j)] 161 (I, J, RF w)) (fun _ => rfl) ?_
  refine z_evBn (N := 4) (f := (I 158)) (k := o) rfl rfl (by omega) ?_
  refine z_evL ?_
  refine z_evG 3 (y := if ((I 158 o) - (nI n)) < (nI j) then z_go 97 [some (.ref 127), some (.int (nI s)), some (.int (nI i)), some (.int (nI o)), some (.int (nI j)), some (.int (nI n)), none] [] 161 (I, J, RF w) else z_go 100 [some (.ref 127), some (.int (nI s)), some (.int (nI i)), some (.int (nI o)), some (.int (nI j)), some (.int (nI n)), none] [] 161 (I, J, RF w)) (fun _ => rfl) ?_
  refine z_evF ((mt (show _ ↔ b - n < j from z_ltN (z_subE h_b rfl (by omega)) rfl (by omega) (by omega)).mp (by omega))) ?_
  refine z_evL ?_
  refine z_evG 2 (y := z_go 103 [some (.ref 127), some (.int (nI s)), some (.int (nI i)), some (.int (nI o)), some (.int (nI j)), some (.int (nI n)), some (.int 0)] [] 161 (I, J, RF w)) (fun _ => rfl) ?_
  refine z_evL ?_
  have st0 : ∀ m0, m0 = 0 → ∀ qz, z_Ev E (d + 2) z_m250 103 [some (.ref 127), some (.int (nI s)), some (.int (nI i)), some (.int (nI o)), some (.int (nI j)), some (.int (nI n)), some (.int (nI m0))] [] 161 ((z_ur I 160 (z_fil (I 160) 0 m0 (fun c => I 159 (40 * s + i + c)))), J, RF w) qz → z_Ev E (d + 2) z_m250 103 [some (.ref 127), some (.int (nI s)), some (.int (nI i)), some (.int (nI o)), some (.int (nI j)), some (.int (nI n)), some (.int 0)] [] 161 (I, J, RF w) qz := by intro m0 hm0 qz h; rw [hm0, z_fil_0] at h; subst hm0; exact h
  refine st0 0 rfl _ ?_
  refine z_loop (F := fun k => ([some (.ref 127), some (.int (nI s)), some (.int (nI i)), some (.int (nI o)), some (.int (nI j)), some (.int (nI n)), some (.int (nI k))], ((z_ur I 160 (z_fil (I 160) 0 k (fun c => I 159 (40 * s + i + c)))), J, RF w))) (P := fun k => True) n trivial (fun hP => ?_) (fun k hk hP next => ?_)
  · show z_Ev E (d + 2) z_m250 103 [some (.ref 127), some (.int (nI s)), some (.int (nI i)), some (.int (nI o)), some (.int (nI j)), some (.int (nI n)), some (.int (nI n))] [] 161 ((z_ur I 160 (z_fil (I 160) 0 n (fun c => I 159 (40 * s + i + c)))), J, RF w) _
    refine z_evG 3 (y := if (nI n) < (nI n) then z_go 110 [some (.ref 127), some (.int (nI s)), some (.int (nI i)), some (.int (nI o)), some (.int (nI j)), some (.int (nI n)), some (.int (nI n))] [] 161 ((z_ur I 160 (z_fil (I 160) 0 n (fun c => I 159 (40 * s + i + c)))), J, RF w) else z_go 137 [some (.ref 127), some (.int (nI s)), some (.int (nI i)), some (.int (nI o)), some (.int (nI j)), some (.int (nI n)), some (.int (nI n))] [] 161 ((z_ur I 160 (z_fil (I 160) 0 n (fun c => I 159 (40 * s + i + c)))), J, RF w)) (fun _ => rfl) ?_
    refine z_evF (mt (show _ ↔ n < n from z_ltN rfl rfl (by omega) (by omega)).mp (by omega)) ?_
    refine z_evL ?_
    refine z_evG 2 (y := z_go 140 [some (.ref 127), some (.int (nI s)), some (.int (nI i)), some (.int (nI o)), some (.int (nI j)), some (.int (nI n)), some (.int 0)] [] 161 ((z_ur I 160 (z_fil (I 160) 0 n (fun c => I 159 (40 * s + i + c)))), J, RF w)) (fun _ => rfl) ?_
    refine z_evL ?_
    have st0 : ∀ m0, m0 = 0 → ∀ qz, z_Ev E (d + 2) z_m250 140 [some (.ref 127), some (.int (nI s)), some (.int (nI i)), some (.int (nI o)), some (.int (nI j)), some (.int (nI n)), some (.int (nI m0))] [] 161 ((z_ur (z_ur I 160 (z_fil (I 160) 0 n (fun c => I 159 (40 * s + i + c)))) 159 (z_fil (I 159) (40 * o + j) m0 (fun c => I 159 (40 * s + i + c)))), J, RF w) qz → z_Ev E (d + 2) z_m250 140 [some (.ref 127), some (.int (nI s)), some (.int (nI i)), some (.int (nI o)), some (.int (nI j)), some (.int (nI n)), some (.int 0)] [] 161 ((z_ur I 160 (z_fil (I 160) 0 n (fun c => I 159 (40 * s + i + c)))), J, RF w) qz := by intro m0 hm0 qz h; rw [hm0, z_fil_0x _ (by rfl)] at h; subst hm0; exact h
    refine st0 0 rfl _ ?_
    refine z_loop (F := fun k => ([some (.ref 127), some (.int (nI s)), some (.int (nI i)), some (.int (nI o)), some (.int (nI j)), some (.int (nI n)), some (.int (nI k))], ((z_ur (z_ur I 160 (z_fil (I 160) 0 n (fun c => I 159 (40 * s + i + c)))) 159 (z_fil (I 159) (40 * o + j) k (fun c => I 159 (40 * s + i + c)))), J, RF w))) (P := fun k => True) n trivial (fun hP => ?_) (fun k hk hP next => ?_)
    · show z_Ev E (d + 2) z_m250 140 [some (.ref 127), some (.int (nI s)), some (.int (nI i)), some (.int (nI o)), some (.int (nI j)), some (.int (nI n)), some (.int (nI n))] [] 161 ((z_ur (z_ur I 160 (z_fil (I 160) 0 n (fun c => I 159 (40 * s + i + c)))) 159 (z_fil (I 159) (40 * o + j) n (fun c => I 159 (40 * s + i + c)))), J, RF w) _
      refine z_evG 3 (y := if (nI n) < (nI n) then z_go 147 [some (.ref 127), some (.int (nI s)), some (.int (nI i)), some (.int (nI o)), some (.int (nI j)), some (.int (nI n)), some (.int (nI n))] [] 161 ((z_ur (z_ur I 160 (z_fil (I 160) 0 n (fun c => I 159 (40 * s + i + c)))) 159 (z_fil (I 159) (40 * o + j) n (fun c => I 159 (40 * s + i + c)))), J, RF w) else z_go 175 [some (.ref 127), some (.int (nI s)), some (.int (nI i)), some (.int (nI o)), some (.int (nI j)), some (.int (nI n)), some (.int (nI n))] [] 161 ((z_ur (z_ur I 160 (z_fil (I 160) 0 n (fun c => I 159 (40 * s + i + c)))) 159 (z_fil (I 159) (40 * o + j) n (fun c => I 159 (40 * s + i + c)))), J, RF w)) (fun _ => rfl) ?_
      refine z_evF (mt (show _ ↔ n < n from z_ltN rfl rfl (by omega) (by omega)).mp (by omega)) ?_
      refine z_evL ?_
      refine z_evG 2 (y := some (.inr (some (.int (nI n)), 161, (z_ur (z_ur I 160 (z_fil (I 160) 0 n (fun c => I 159 (40 * s + i + c)))) 159 (z_fil (I 159) (40 * o + j) n (fun c => I 159 (40 * s + i + c)))), J, RF w))) (fun _ => rfl) ?_
      exact z_evR rfl
    · show z_Ev E (d + 2) z_m250 140 [some (.ref 127), some (.int (nI s)), some (.int (nI i)), some (.int (nI o)), some (.int (nI j)), some (.int (nI n)), some (.int (nI k))] [] 161 ((z_ur (z_ur I 160 (z_fil (I 160) 0 n (fun c => I 159 (40 * s + i + c)))) 159 (z_fil (I 159) (40 * o + j) k (fun c => I 159 (40 * s + i + c)))), J, RF w) _
      have nx : (True) → z_Ev E (d + 2) z_m250 140 [some (.ref 127), some (.int (nI s)), some (.int (nI i)), some (.int (nI o)), some (.int (nI j)), some (.int (nI n)), some (.int (nI (k + 1)))] [] 161 ((z_ur (z_ur I 160 (z_fil (I 160) 0 n (fun c => I 159 (40 * s + i + c)))) 159 (z_fil (I 159) (40 * o + j) (k + 1) (fun c => I 159 (40 * s + i + c)))), J, RF w) _ := next
      refine z_evG 3 (y := if (nI k) < (nI n) then z_go 147 [some (.ref 127), some (.int (nI s)), some (.int (nI i)), some (.int (nI o)), some (.int (nI j)), some (.int (nI n)), some (.int (nI k))] [] 161 ((z_ur (z_ur I 160 (z_fil (I 160) 0 n (fun c => I 159 (40 * s + i + c)))) 159 (z_fil (I 159) (40 * o + j) k (fun c => I 159 (40 * s + i + c)))), J, RF w) else z_go 175 [some (.ref 127), some (.int (nI s)), some (.int (nI i)), some (.int (nI o)), some (.int (nI j)), some (.int (nI n)), some (.int (nI k))] [] 161 ((z_ur (z_ur I 160 (z_fil (I 160) 0 n (fun c => I 159 (40 * s + i + c)))) 159 (z_fil (I 159) (40 * o + j) k (fun c => I 159 (40 * s + i + c)))), J, RF w)) (fun _ => rfl) ?_
      refine z_evT ((show _ ↔ k < n from z_ltN rfl rfl (by omega) (by omega)).mpr (by omega)) ?_
      refine z_evL ?_
      refine z_evG 13 (y := z_ild (z_ia E 161 ((z_ur (z_ur I 160 (z_fil (I 160) 0 n (fun c => I 159 (40 * s + i + c)))) 159 (z_fil (I 159) (40 * o + j) k (fun c => I 159 (40 * s + i + c)))), J, RF w) 160) (nI k) fun vv => z_go 168 [some (.ref 127), some (.int (nI s)), some (.int (nI i)), some (.int (nI o)), some (.int (nI j)), some (.int (nI n)), some (.int (nI k))] [.int vv, .int (((40 * (nI o)) + (nI j)) + (nI k)), .ref 159] 161 ((z_ur (z_ur I 160 (z_fil (I 160) 0 n (fun c => I 159 (40 * s + i + c)))) 159 (z_fil (I 159) (40 * o + j) k (fun c => I 159 (40 * s + i + c)))), J, RF w)) (fun _ => rfl) ?_
      refine z_evBn (N := 40) (f := ((z_ur (z_ur I 160 (z_fil (I 160) 0 n (fun c => I 159 (40 * s + i + c)))) 159 (z_fil (I 159) (40 * o + j) k (fun c => I 159 (40 * s + i + c)))) 160)) (k := k) rfl rfl (by omega) ?_
      refine z_evL ?_
      rw [show (z_ur (z_ur I 160 (z_fil (I 160) 0 n (fun c => I 159 (40 * s + i + c)))) 159 (z_fil (I 159) (40 * o + j) k (fun c => I 159 (40 * s + i + c)))) 160 k = (fun c => I 159 (40 * s + i + c)) k from (show (z_ur I 160 (z_fil (I 160) 0 n (fun c => I 159 (40 * s + i + c)))) 160 k = (fun c => I 159 (40 * s + i + c)) k from ((congrFun (z_ur_same _ _ _) _).trans (z_fil_in0 (by omega))))]
      refine z_evG 1 (y := z_ck (z_in (((40 * (nI o)) + (nI j)) + (nI k)) 160) (z_go 169 [some (.ref 127), some (.int (nI s)), some (.int (nI i)), some (.int (nI o)), some (.int (nI j)), some (.int (nI n)), some (.int (nI k))] [] 161 ((z_u2 (z_ur (z_ur I 160 (z_fil (I 160) 0 n (fun c => I 159 (40 * s + i + c)))) 159 (z_fil (I 159) (40 * o + j) k (fun c => I 159 (40 * s + i + c)))) 159 ((((40 * (nI o)) + (nI j)) + (nI k)).toNatClampNeg) ((fun c => I 159 (40 * s + i + c)) k)), J, RF w))) (fun _ => rfl) ?_
      refine z_evC (z_inN (k := 40 * o + j + k) (z_addE (z_addE (z_mulE rfl rfl) rfl) rfl) (by omega) (by decide)) ?_
      refine z_evL ?_
      rw [show ((((40 * (nI o)) + (nI j)) + (nI k) : Int32)).toNatClampNeg = 40 * o + j + k from z_natE (z_addE (z_addE (z_mulE rfl rfl) rfl) rfl) (by omega)]
      refine z_evG 2 (y := z_go 140 [some (.ref 127), some (.int (nI s)), some (.int (nI i)), some (.int (nI o)), some (.int (nI j)), some (.int (nI n)), some (.int ((nI k) + 1))] [] 161 ((z_u2 (z_ur (z_ur I 160 (z_fil (I 160) 0 n (fun c => I 159 (40 * s + i + c)))) 159 (z_fil (I 159) (40 * o + j) k (fun c => I 159 (40 * s + i + c)))) 159 (40 * o + j + k) ((fun c => I 159 (40 * s + i + c)) k)), J, RF w)) (fun _ => rfl) ?_
      refine z_evL ?_
      rw [nI_1 k, z_fil_sx _ _ _ _ (by rfl)]
      exact nx trivial
  · show z_Ev E (d + 2) z_m250 103 [some (.ref 127), some (.int (nI s)), some (.int (nI i)), some (.int (nI o)), some (.int (nI j)), some (.int (nI n)), some (.int (nI k))] [] 161 ((z_ur I 160 (z_fil (I 160) 0 k (fun c => I 159 (40 * s + i + c)))), J, RF w) _
    have nx : (True) → z_Ev E (d + 2) z_m250 103 [some (.ref 127), some (.int (nI s)), some (.int (nI i)), some (.int (nI o)), some (.int (nI j)), some (.int (nI n)), some (.int (nI (k + 1)))] [] 161 ((z_ur I 160 (z_fil (I 160) 0 (k + 1) (fun c => I 159 (40 * s + i + c)))), J, RF w) _ := next
    refine z_evG 3 (y := if (nI k) < (nI n) then z_go 110 [some (.ref 127), some (.int (nI s)), some (.int (nI i)), some (.int (nI o)), some (.int (nI j)), some (.int (nI n)), some (.int (nI k))] [] 161 ((z_ur I 160 (z_fil (I 160) 0 k (fun c => I 159 (40 * s + i + c)))), J, RF w) else z_go 137 [some (.ref 127), some (.int (nI s)), some (.int (nI i)), some (.int (nI o)), some (.int (nI j)), some (.int (nI n)), some (.int (nI k))] [] 161 ((z_ur I 160 (z_fil (I 160) 0 k (fun c => I 159 (40 * s + i + c)))), J, RF w)) (fun _ => rfl) ?_
    refine z_evT ((show _ ↔ k < n from z_ltN rfl rfl (by omega) (by omega)).mpr (by omega)) ?_
    refine z_evL ?_
    refine z_evG 13 (y := z_ild (z_ia E 161 ((z_ur I 160 (z_fil (I 160) 0 k (fun c => I 159 (40 * s + i + c)))), J, RF w) 159) (((40 * (nI s)) + (nI i)) + (nI k)) fun vv => z_go 130 [some (.ref 127), some (.int (nI s)), some (.int (nI i)), some (.int (nI o)), some (.int (nI j)), some (.int (nI n)), some (.int (nI k))] [.int vv, .int (nI k), .ref 160] 161 ((z_ur I 160 (z_fil (I 160) 0 k (fun c => I 159 (40 * s + i + c)))), J, RF w)) (fun _ => rfl) ?_
    refine z_evBn (N := 160) (f := ((z_ur I 160 (z_fil (I 160) 0 k (fun c => I 159 (40 * s + i + c)))) 159)) (k := (40 * s + i + k)) rfl (z_addE (z_addE (z_mulE rfl rfl) rfl) rfl) (by omega) ?_
    refine z_evL ?_
    refine z_evG 1 (y := z_ck (z_in (nI k) 40) (z_go 131 [some (.ref 127), some (.int (nI s)), some (.int (nI i)), some (.int (nI o)), some (.int (nI j)), some (.int (nI n)), some (.int (nI k))] [] 161 ((z_u2 (z_ur I 160 (z_fil (I 160) 0 k (fun c => I 159 (40 * s + i + c)))) 160 ((nI k).toNatClampNeg) (I 159 (40 * s + i + k))), J, RF w))) (fun _ => rfl) ?_
    refine z_evC (z_inN (k := k) rfl (by omega) (by decide)) ?_
    refine z_evL ?_
    rw [show ((nI k : Int32)).toNatClampNeg = k from z_natE rfl (by omega)]
    refine z_evG 2 (y := z_go 103 [some (.ref 127), some (.int (nI s)), some (.int (nI i)), some (.int (nI o)), some (.int (nI j)), some (.int (nI n)), some (.int ((nI k) + 1))] [] 161 ((z_u2 (z_ur I 160 (z_fil (I 160) 0 k (fun c => I 159 (40 * s + i + c)))) 160 k (I 159 (40 * s + i + k))), J, RF w)) (fun _ => rfl) ?_
    refine z_evL ?_
    have e := z_fil_s I 160 0 k (fun c => I 159 (40 * s + i + c))
    rw [Nat.zero_add] at e
    rw [nI_1 k, e]
    exact nx trivial
