-- READS, FILTER
def s_rb (S : Nat → Bool) (n : Nat) : Int32 := z_fo (fun k a => if S k then a else a ||| (1 <<< (nI k &&& 31))) 0 n
theorem s_rb_t {S : Nat → Bool} {k : Nat} (h : S k = true) : s_rb S (k + 1) = s_rb S k := if_pos h
theorem s_rb_f {S : Nat → Bool} {k : Nat} (h : ¬ S k = true) : s_rb S (k + 1) = s_rb S k ||| (1 <<< (nI k &&& 31)) := if_neg h
set_option maxRecDepth 20000 in
/-- LampHouse$Plates.readBy -/
theorem x_readBy (E : zE) (d : Nat) (I : Nat → Nat → Int32) (J : Nat → Nat → Int64) (w : Nat) (e n q : Nat) (r f g : Nat → Nat) (h_n : I 106 6 = nI n) (hm_n : n ≤ 10) (hl_e : e < 8) (h_q : I 75 e = nI q) (hm_q : q ≤ 3) (hr : ∀ t, t < q → I (67 + e) t = nI (r t) ∧ r t < 30) (hf : ∀ k, k < n → I 107 k = nI (f k) ∧ I 108 k = nI (g k) ∧ f k < 20 ∧ g k < 20) : z_cl E (d + 4) 50 [.ref 106, .int (nI e)] (161, I, J, RF w) = some (some (.int (s_rb (fun k => decide (∀ t, t < q → z_apa (I (45 + (f k))) (I (45 + (g k))) (I (3 + r t)) = 0)) n)), 161, I, J, RF w) := by
  refine z_call (d := d + 3) (M := z_m50) rfl rfl ?_
  refine z_evG 4 (y := z_go 4 [some (.ref 106), some (.int (nI e)), some (.int 0), some (.int 0)] [] 161 (I, J, RF w)) (fun _ => rfl) ?_
  refine z_evL ?_
  refine z_loop (F := fun k => ([some (.ref 106), some (.int (nI e)), some (.int (s_rb (fun k => decide (∀ t, t < q → z_apa (I (45 + (f k))) (I (45 + (g k))) (I (3 + r t)) = 0)) k)), some (.int (nI k))], (I, J, RF w))) (P := fun k => True) n trivial (fun hP => ?_) (fun k hk hP next => ?_)
  · show z_Ev E (d + 3) z_m50 4 [some (.ref 106), some (.int (nI e)), some (.int (s_rb (fun k => decide (∀ t, t < q → z_apa (I (45 + (f k))) (I (45 + (g k))) (I (3 + r t)) = 0)) n)), some (.int (nI n))] [] 161 (I, J, RF w) _
    refine z_evG 4 (y := if (nI n) < (I 106 6) then z_go 12 [some (.ref 106), some (.int (nI e)), some (.int (s_rb (fun k => decide (∀ t, t < q → z_apa (I (45 + (f k))) (I (45 + (g k))) (I (3 + r t)) = 0)) n)), some (.int (nI n))] [] 161 (I, J, RF w) else z_go 61 [some (.ref 106), some (.int (nI e)), some (.int (s_rb (fun k => decide (∀ t, t < q → z_apa (I (45 + (f k))) (I (45 + (g k))) (I (3 + r t)) = 0)) n)), some (.int (nI n))] [] 161 (I, J, RF w)) (fun _ => rfl) ?_
    refine z_evF (mt (show _ ↔ n < n from z_ltN rfl h_n (by omega) (by omega)).mp (by omega)) ?_
    refine z_evL ?_
    refine z_evG 2 (y := some (.inr (some (.int (s_rb (fun k => decide (∀ t, t < q → z_apa (I (45 + (f k))) (I (45 + (g k))) (I (3 + r t)) = 0)) n)), 161, I, J, RF w))) (fun _ => rfl) ?_
    exact z_evR rfl
  · show z_Ev E (d + 3) z_m50 4 [some (.ref 106), some (.int (nI e)), some (.int (s_rb (fun k => decide (∀ t, t < q → z_apa (I (45 + (f k))) (I (45 + (g k))) (I (3 + r t)) = 0)) k)), some (.int (nI k))] [] 161 (I, J, RF w) _
    have nx : (True) → z_Ev E (d + 3) z_m50 4 [some (.ref 106), some (.int (nI e)), some (.int (s_rb (fun k => decide (∀ t, t < q → z_apa (I (45 + (f k))) (I (45 + (g k))) (I (3 + r t)) = 0)) (k + 1))), some (.int (nI (k + 1)))] [] 161 (I, J, RF w) _ := next
    refine z_evG 4 (y := if (nI k) < (I 106 6) then z_go 12 [some (.ref 106), some (.int (nI e)), some (.int (s_rb (fun k => decide (∀ t, t < q → z_apa (I (45 + (f k))) (I (45 + (g k))) (I (3 + r t)) = 0)) k)), some (.int (nI k))] [] 161 (I, J, RF w) else z_go 61 [some (.ref 106), some (.int (nI e)), some (.int (s_rb (fun k => decide (∀ t, t < q → z_apa (I (45 + (f k))) (I (45 + (g k))) (I (3 + r t)) = 0)) k)), some (.int (nI k))] [] 161 (I, J, RF w)) (fun _ => rfl) ?_
    refine z_evT ((show _ ↔ k < n from z_ltN rfl h_n (by omega) (by omega)).mpr (by omega)) ?_
    refine z_evL ?_
    refine z_evG 9 (y := z_ild (z_ia E 161 (I, J, RF w) 107) (nI k) fun vv => z_go 27 [some (.ref 106), some (.int (nI e)), some (.int (s_rb (fun k => decide (∀ t, t < q → z_apa (I (45 + (f k))) (I (45 + (g k))) (I (3 + r t)) = 0)) k)), some (.int (nI k))] [.int vv, .ref 43, .int (nI e), .ref 65] 161 (I, J, RF w)) (fun _ => rfl) ?_
    refine z_evBn (N := 10) (f := (I 107)) (k := k) rfl rfl (by omega) ?_
    refine z_evL ?_
    refine z_evG 1 (y := z_ret (z_cl E (d + 3) 11 [.ref 43, .int (I 107 k)] (161, (I, J, RF w))) 30 [some (.ref 106), some (.int (nI e)), some (.int (s_rb (fun k => decide (∀ t, t < q → z_apa (I (45 + (f k))) (I (45 + (g k))) (I (3 + r t)) = 0)) k)), some (.int (nI k))] [.int (nI e), .ref 65]) (fun _ => rfl) ?_
    have hfk := hf k hk
    refine z_evK (v := .ref (45 + (f k))) (z' := 161) (σ' := (I, J, RF w)) ((congrArg (fun q => z_cl E (d + 3) 11 [.ref 43, .int q] (161, I, J, RF w)) ((hf k hk).1 : (I 107 k : Int32) = nI (f k))).trans (x_lights_getN E (d + 2) I J w (f k) (by omega))) ?_
    refine z_evG 6 (y := z_ild (z_ia E 161 (I, J, RF w) 108) (nI k) fun vv => z_go 40 [some (.ref 106), some (.int (nI e)), some (.int (s_rb (fun k => decide (∀ t, t < q → z_apa (I (45 + (f k))) (I (45 + (g k))) (I (3 + r t)) = 0)) k)), some (.int (nI k))] [.int vv, .ref 43, .ref (45 + (f k)), .int (nI e), .ref 65] 161 (I, J, RF w)) (fun _ => rfl) ?_
    refine z_evBn (N := 10) (f := (I 108)) (k := k) rfl rfl (by omega) ?_
    refine z_evL ?_
    refine z_evG 1 (y := z_ret (z_cl E (d + 3) 11 [.ref 43, .int (I 108 k)] (161, (I, J, RF w))) 43 [some (.ref 106), some (.int (nI e)), some (.int (s_rb (fun k => decide (∀ t, t < q → z_apa (I (45 + (f k))) (I (45 + (g k))) (I (3 + r t)) = 0)) k)), some (.int (nI k))] [.ref (45 + (f k)), .int (nI e), .ref 65]) (fun _ => rfl) ?_
    refine z_evK (v := .ref (45 + (g k))) (z' := 161) (σ' := (I, J, RF w)) ((congrArg (fun q => z_cl E (d + 3) 11 [.ref 43, .int q] (161, I, J, RF w)) ((hf k hk).2.1 : (I 108 k : Int32) = nI (g k))).trans (x_lights_getN E (d + 2) I J w (g k) (by omega))) ?_
    refine z_evG 1 (y := z_ret (z_cl E (d + 3) 23 [.ref 65, .int (nI e), .ref (45 + (f k)), .ref (45 + (g k))] (161, (I, J, RF w))) 46 [some (.ref 106), some (.int (nI e)), some (.int (s_rb (fun k => decide (∀ t, t < q → z_apa (I (45 + (f k))) (I (45 + (g k))) (I (3 + r t)) = 0)) k)), some (.int (nI k))] []) (fun _ => rfl) ?_
    refine z_evK (v := .int (z_bo (∀ t, t < q → z_apa (I (45 + (f k))) (I (45 + (g k))) (I (3 + r t)) = 0))) (z' := 161) (σ' := (I, J, RF w)) (x_isSame E d I J w e (45 + (f k)) (45 + (g k)) q r (by omega) (by omega) h_q hr (z_A_lights (f k) (by omega)) (z_A_lights (g k) (by omega))) ?_
    refine z_evG 1 (y := if (z_bo (∀ t, t < q → z_apa (I (45 + (f k))) (I (45 + (g k))) (I (3 + r t)) = 0)) = 0 then z_go 49 [some (.ref 106), some (.int (nI e)), some (.int (s_rb (fun k => decide (∀ t, t < q → z_apa (I (45 + (f k))) (I (45 + (g k))) (I (3 + r t)) = 0)) k)), some (.int (nI k))] [] 161 (I, J, RF w) else z_go 55 [some (.ref 106), some (.int (nI e)), some (.int (s_rb (fun k => decide (∀ t, t < q → z_apa (I (45 + (f k))) (I (45 + (g k))) (I (3 + r t)) = 0)) k)), some (.int (nI k))] [] 161 (I, J, RF w)) (fun _ => rfl) ?_
    refine z_evO (fun h3 => ?_) (fun h3 => ?_)
    · refine z_evL ?_
      refine z_evG 8 (y := z_go 4 [some (.ref 106), some (.int (nI e)), some (.int ((s_rb (fun k => decide (∀ t, t < q → z_apa (I (45 + (f k))) (I (45 + (g k))) (I (3 + r t)) = 0)) k) ||| (1 <<< ((nI k) &&& 31)))), some (.int ((nI k) + 1))] [] 161 (I, J, RF w)) (fun _ => rfl) ?_
      refine z_evL ?_
      have hS : ¬ (fun k => decide (∀ t, t < q → z_apa (I (45 + (f k))) (I (45 + (g k))) (I (3 + r t)) = 0)) k = true := fun q => h3 (of_decide_eq_true q)
      rw [s_rb_f hS] at nx
      rw [nI_1 k]
      exact nx trivial
    · refine z_evL ?_
      refine z_evG 2 (y := z_go 4 [some (.ref 106), some (.int (nI e)), some (.int (s_rb (fun k => decide (∀ t, t < q → z_apa (I (45 + (f k))) (I (45 + (g k))) (I (3 + r t)) = 0)) k)), some (.int ((nI k) + 1))] [] 161 (I, J, RF w)) (fun _ => rfl) ?_
      refine z_evL ?_
      have hS : (fun k => decide (∀ t, t < q → z_apa (I (45 + (f k))) (I (45 + (g k))) (I (3 + r t)) = 0)) k = true := decide_eq_true h3
      rw [s_rb_t hS] at nx
      rw [nI_1 k]
      exact nx trivial
set_option maxRecDepth 20000 in
/-- LampHouse.reads -/
theorem x_reads_bad (E : zE) (d : Nat) (I : Nat → Nat → Int32) (J : Nat → Nat → Int64) (w : Nat) (e : Int32) (hbad : ¬ (¬ e < 0 ∧ e < I 65 3)) : z_cl E (d + 5) 150 [.ref 0, .int e] (161, I, J, RF w) = some (some (.int (-2)), 161, I, J, RF w) := by
  refine z_call (d := d + 4) (M := z_m150) rfl rfl ?_
  refine z_evG 4 (y := z_ret (z_cl E (d + 4) 15 [.ref 65, .int e] (161, (I, J, RF w))) 8 [some (.ref 0), some (.int e)] []) (fun _ => rfl) ?_
  refine z_evK (v := .int (z_bo (¬ e < 0 ∧ e < I 65 3))) (z' := 161) (σ' := (I, J, RF w)) (x_eyes_has E (d + 3) I J w e) ?_
  refine z_evG 1 (y := if (z_bo (¬ e < 0 ∧ e < I 65 3)) = 0 then z_go 22 [some (.ref 0), some (.int e)] [] 161 (I, J, RF w) else z_go 11 [some (.ref 0), some (.int e)] [] 161 (I, J, RF w)) (fun _ => rfl) ?_
  refine z_evO (fun h1 => ?_) (fun h1 => ?_)
  · refine z_evL ?_
    refine z_evG 2 (y := some (.inr (some (.int (-2)), 161, I, J, RF w))) (fun _ => rfl) ?_
    exact z_evR rfl
  · refine z_evL ?_
    exact absurd h1 hbad
set_option maxRecDepth 20000 in
/-- LampHouse.reads -/
theorem x_reads_ok (E : zE) (d : Nat) (I : Nat → Nat → Int32) (J : Nat → Nat → Int64) (w : Nat) (e n q m : Nat) (r f g : Nat → Nat) (h_n : I 106 6 = nI n) (hm_n : n ≤ 10) (h_q : I 75 e = nI q) (hm_q : q ≤ 3) (hr : ∀ t, t < q → I (67 + e) t = nI (r t) ∧ r t < 30) (hf : ∀ k, k < n → I 107 k = nI (f k) ∧ I 108 k = nI (g k) ∧ f k < 20 ∧ g k < 20) (h_m : I 65 3 = nI m) (hm_m : m ≤ 8) (hl_e : e < m) : z_cl E (d + 5) 150 [.ref 0, .int (nI e)] (161, I, J, RF w) = some (some (.int (s_rb (fun k => decide (∀ t, t < q → z_apa (I (45 + (f k))) (I (45 + (g k))) (I (3 + r t)) = 0)) n)), 161, I, J, RF w) := by
  refine z_call (d := d + 4) (M := z_m150) rfl rfl ?_
  refine z_evG 4 (y := z_ret (z_cl E (d + 4) 15 [.ref 65, .int (nI e)] (161, (I, J, RF w))) 8 [some (.ref 0), some (.int (nI e))] []) (fun _ => rfl) ?_
  refine z_evK (v := .int (z_bo (¬ (nI e) < 0 ∧ (nI e) < I 65 3))) (z' := 161) (σ' := (I, J, RF w)) (x_eyes_has E (d + 3) I J w (nI e)) ?_
  refine z_evG 1 (y := if (z_bo (¬ (nI e) < 0 ∧ (nI e) < I 65 3)) = 0 then z_go 22 [some (.ref 0), some (.int (nI e))] [] 161 (I, J, RF w) else z_go 11 [some (.ref 0), some (.int (nI e))] [] 161 (I, J, RF w)) (fun _ => rfl) ?_
  refine z_evF (fun q0 => z_bo_0.mp q0 ⟨(mt (show _ ↔ e < 0 from z_ltN rfl rfl (by omega) (by omega)).mp (by omega)), ((show _ ↔ e < m from z_ltN rfl h_m (by omega) (by omega)).mpr (by omega))⟩) ?_
  refine z_evL ?_
  refine z_evG 4 (y := z_ret (z_cl E (d + 4) 50 [.ref 106, .int (nI e)] (161, (I, J, RF w))) 19 [some (.ref 0), some (.int (nI e))] []) (fun _ => rfl) ?_
  refine z_evK (v := .int (s_rb (fun k => decide (∀ t, t < q → z_apa (I (45 + (f k))) (I (45 + (g k))) (I (3 + r t)) = 0)) n)) (z' := 161) (σ' := (I, J, RF w)) (x_readBy E d I J w e n q r f g h_n (by omega) (by omega) h_q (by omega) hr hf) ?_
  refine z_evG 2 (y := some (.inr (some (.int (s_rb (fun k => decide (∀ t, t < q → z_apa (I (45 + (f k))) (I (45 + (g k))) (I (3 + r t)) = 0)) n)), 161, I, J, RF w))) (fun _ => rfl) ?_
  exact z_evR rfl
set_option maxRecDepth 20000 in
/-- LampHouseModel.readBy -/
theorem m_readBy (E : zE) (d : Nat) (I : Nat → Nat → Int32) (J : Nat → Nat → Int64) (w : Nat) (e n q : Nat) (r f g : Nat → Nat) (h_n : I 127 43 = nI n) (hm_n : n ≤ 10) (hl_e : e < 8) (h_q : I 136 e = nI q) (hm_q : q ≤ 3) (hr : ∀ t, t < q → I 135 (3 * e + t) = nI (r t) ∧ r t < 30) (hf : ∀ k, k < n → I 149 k = nI (f k) ∧ I 150 k = nI (g k) ∧ f k < 20 ∧ g k < 20) : z_cl E (d + 3) 229 [.ref 127, .int (nI e)] (161, I, J, RF w) = some (some (.int (s_rb (fun k => decide (∀ t, t < q → z_see (fun c => I 134 (8 * (f k) + c)) (fun c => I 128 (8 * r t + c)) = z_see (fun c => I 134 (8 * (g k) + c)) (fun c => I 128 (8 * r t + c)))) n)), 161, I, J, RF w) := by
  refine z_call (d := d + 2) (M := z_m229) rfl rfl ?_
  refine z_evG 4 (y := z_go 4 [some (.ref 127), some (.int (nI e)), some (.int 0), some (.int 0)] [] 161 (I, J, RF w)) (fun _ => rfl) ?_
  refine z_evL ?_
  refine z_loop (F := fun k => ([some (.ref 127), some (.int (nI e)), some (.int (s_rb (fun k => decide (∀ t, t < q → z_see (fun c => I 134 (8 * (f k) + c)) (fun c => I 128 (8 * r t + c)) = z_see (fun c => I 134 (8 * (g k) + c)) (fun c => I 128 (8 * r t + c)))) k)), some (.int (nI k))], (I, J, RF w))) (P := fun k => True) n trivial (fun hP => ?_) (fun k hk hP next => ?_)
  · show z_Ev E (d + 2) z_m229 4 [some (.ref 127), some (.int (nI e)), some (.int (s_rb (fun k => decide (∀ t, t < q → z_see (fun c => I 134 (8 * (f k) + c)) (fun c => I 128 (8 * r t + c)) = z_see (fun c => I 134 (8 * (g k) + c)) (fun c => I 128 (8 * r t + c)))) n)), some (.int (nI n))] [] 161 (I, J, RF w) _
    refine z_evG 4 (y := if (nI n) < (I 127 43) then z_go 12 [some (.ref 127), some (.int (nI e)), some (.int (s_rb (fun k => decide (∀ t, t < q → z_see (fun c => I 134 (8 * (f k) + c)) (fun c => I 128 (8 * r t + c)) = z_see (fun c => I 134 (8 * (g k) + c)) (fun c => I 128 (8 * r t + c)))) n)), some (.int (nI n))] [] 161 (I, J, RF w) else z_go 48 [some (.ref 127), some (.int (nI e)), some (.int (s_rb (fun k => decide (∀ t, t < q → z_see (fun c => I 134 (8 * (f k) + c)) (fun c => I 128 (8 * r t + c)) = z_see (fun c => I 134 (8 * (g k) + c)) (fun c => I 128 (8 * r t + c)))) n)), some (.int (nI n))] [] 161 (I, J, RF w)) (fun _ => rfl) ?_
    refine z_evF (mt (show _ ↔ n < n from z_ltN rfl h_n (by omega) (by omega)).mp (by omega)) ?_
    refine z_evL ?_
    refine z_evG 2 (y := some (.inr (some (.int (s_rb (fun k => decide (∀ t, t < q → z_see (fun c => I 134 (8 * (f k) + c)) (fun c => I 128 (8 * r t + c)) = z_see (fun c => I 134 (8 * (g k) + c)) (fun c => I 128 (8 * r t + c)))) n)), 161, I, J, RF w))) (fun _ => rfl) ?_
    exact z_evR rfl
  · show z_Ev E (d + 2) z_m229 4 [some (.ref 127), some (.int (nI e)), some (.int (s_rb (fun k => decide (∀ t, t < q → z_see (fun c => I 134 (8 * (f k) + c)) (fun c => I 128 (8 * r t + c)) = z_see (fun c => I 134 (8 * (g k) + c)) (fun c => I 128 (8 * r t + c)))) k)), some (.int (nI k))] [] 161 (I, J, RF w) _
    have nx : (True) → z_Ev E (d + 2) z_m229 4 [some (.ref 127), some (.int (nI e)), some (.int (s_rb (fun k => decide (∀ t, t < q → z_see (fun c => I 134 (8 * (f k) + c)) (fun c => I 128 (8 * r t + c)) = z_see (fun c => I 134 (8 * (g k) + c)) (fun c => I 128 (8 * r t + c)))) (k + 1))), some (.int (nI (k + 1)))] [] 161 (I, J, RF w) _ := next
    refine z_evG 4 (y := if (nI k) < (I 127 43) then z_go 12 [some (.ref 127), some (.int (nI e)), some (.int (s_rb (fun k => decide (∀ t, t < q → z_see (fun c => I 134 (8 * (f k) + c)) (fun c => I 128 (8 * r t + c)) = z_see (fun c => I 134 (8 * (g k) + c)) (fun c => I 128 (8 * r t + c)))) k)), some (.int (nI k))] [] 161 (I, J, RF w) else z_go 48 [some (.ref 127), some (.int (nI e)), some (.int (s_rb (fun k => decide (∀ t, t < q → z_see (fun c => I 134 (8 * (f k) + c)) (fun c => I 128 (8 * r t + c)) = z_see (fun c => I 134 (8 * (g k) + c)) (fun c => I 128 (8 * r t + c)))) k)), some (.int (nI k))] [] 161 (I, J, RF w)) (fun _ => rfl) ?_
    refine z_evT ((show _ ↔ k < n from z_ltN rfl h_n (by omega) (by omega)).mpr (by omega)) ?_
    refine z_evL ?_
    refine z_evG 7 (y := z_ild (z_ia E 161 (I, J, RF w) 149) (nI k) fun vv => z_go 21 [some (.ref 127), some (.int (nI e)), some (.int (s_rb (fun k => decide (∀ t, t < q → z_see (fun c => I 134 (8 * (f k) + c)) (fun c => I 128 (8 * r t + c)) = z_see (fun c => I 134 (8 * (g k) + c)) (fun c => I 128 (8 * r t + c)))) k)), some (.int (nI k))] [.int vv, .int (nI e), .ref 127, .int (s_rb (fun k => decide (∀ t, t < q → z_see (fun c => I 134 (8 * (f k) + c)) (fun c => I 128 (8 * r t + c)) = z_see (fun c => I 134 (8 * (g k) + c)) (fun c => I 128 (8 * r t + c)))) k)] 161 (I, J, RF w)) (fun _ => rfl) ?_
    refine z_evBn (N := 10) (f := (I 149)) (k := k) rfl rfl (by omega) ?_
    refine z_evL ?_
    refine z_evG 4 (y := z_ild (z_ia E 161 (I, J, RF w) 150) (nI k) fun vv => z_go 27 [some (.ref 127), some (.int (nI e)), some (.int (s_rb (fun k => decide (∀ t, t < q → z_see (fun c => I 134 (8 * (f k) + c)) (fun c => I 128 (8 * r t + c)) = z_see (fun c => I 134 (8 * (g k) + c)) (fun c => I 128 (8 * r t + c)))) k)), some (.int (nI k))] [.int vv, .int (I 149 k), .int (nI e), .ref 127, .int (s_rb (fun k => decide (∀ t, t < q → z_see (fun c => I 134 (8 * (f k) + c)) (fun c => I 128 (8 * r t + c)) = z_see (fun c => I 134 (8 * (g k) + c)) (fun c => I 128 (8 * r t + c)))) k)] 161 (I, J, RF w)) (fun _ => rfl) ?_
    refine z_evBn (N := 10) (f := (I 150)) (k := k) rfl rfl (by omega) ?_
    refine z_evL ?_
    refine z_evG 1 (y := z_ret (z_cl E (d + 2) 198 [.ref 127, .int (nI e), .int (I 149 k), .int (I 150 k)] (161, (I, J, RF w))) 30 [some (.ref 127), some (.int (nI e)), some (.int (s_rb (fun k => decide (∀ t, t < q → z_see (fun c => I 134 (8 * (f k) + c)) (fun c => I 128 (8 * r t + c)) = z_see (fun c => I 134 (8 * (g k) + c)) (fun c => I 128 (8 * r t + c)))) k)), some (.int (nI k))] [.int (s_rb (fun k => decide (∀ t, t < q → z_see (fun c => I 134 (8 * (f k) + c)) (fun c => I 128 (8 * r t + c)) = z_see (fun c => I 134 (8 * (g k) + c)) (fun c => I 128 (8 * r t + c)))) k)]) (fun _ => rfl) ?_
    have hfk := hf k hk
    refine z_evK (v := .int (z_bo (∀ t, t < q → z_see (fun c => I 134 (8 * (f k) + c)) (fun c => I 128 (8 * r t + c)) = z_see (fun c => I 134 (8 * (g k) + c)) (fun c => I 128 (8 * r t + c))))) (z' := 161) (σ' := (I, J, RF w)) ((congrArg (fun q => z_cl E (d + 2) 198 [.ref 127, .int (nI e), .int q, .int (I 150 k)] (161, I, J, RF w)) ((hf k hk).1 : (I 149 k : Int32) = nI (f k))).trans ((congrArg (fun q => z_cl E (d + 2) 198 [.ref 127, .int (nI e), .int (nI (f k)), .int q] (161, I, J, RF w)) ((hf k hk).2.1 : (I 150 k : Int32) = nI (g k))).trans (m_areSame E d I J w e (f k) (g k) q r (by omega) (by omega) (by omega) (by omega) h_q hr))) ?_
    refine z_evG 1 (y := if (z_bo (∀ t, t < q → z_see (fun c => I 134 (8 * (f k) + c)) (fun c => I 128 (8 * r t + c)) = z_see (fun c => I 134 (8 * (g k) + c)) (fun c => I 128 (8 * r t + c)))) = 0 then z_go 37 [some (.ref 127), some (.int (nI e)), some (.int (s_rb (fun k => decide (∀ t, t < q → z_see (fun c => I 134 (8 * (f k) + c)) (fun c => I 128 (8 * r t + c)) = z_see (fun c => I 134 (8 * (g k) + c)) (fun c => I 128 (8 * r t + c)))) k)), some (.int (nI k))] [.int (s_rb (fun k => decide (∀ t, t < q → z_see (fun c => I 134 (8 * (f k) + c)) (fun c => I 128 (8 * r t + c)) = z_see (fun c => I 134 (8 * (g k) + c)) (fun c => I 128 (8 * r t + c)))) k)] 161 (I, J, RF w) else z_go 33 [some (.ref 127), some (.int (nI e)), some (.int (s_rb (fun k => decide (∀ t, t < q → z_see (fun c => I 134 (8 * (f k) + c)) (fun c => I 128 (8 * r t + c)) = z_see (fun c => I 134 (8 * (g k) + c)) (fun c => I 128 (8 * r t + c)))) k)), some (.int (nI k))] [.int (s_rb (fun k => decide (∀ t, t < q → z_see (fun c => I 134 (8 * (f k) + c)) (fun c => I 128 (8 * r t + c)) = z_see (fun c => I 134 (8 * (g k) + c)) (fun c => I 128 (8 * r t + c)))) k)] 161 (I, J, RF w)) (fun _ => rfl) ?_
    refine z_evO (fun h3 => ?_) (fun h3 => ?_)
    · refine z_evL ?_
      refine z_evG 7 (y := z_go 4 [some (.ref 127), some (.int (nI e)), some (.int ((s_rb (fun k => decide (∀ t, t < q → z_see (fun c => I 134 (8 * (f k) + c)) (fun c => I 128 (8 * r t + c)) = z_see (fun c => I 134 (8 * (g k) + c)) (fun c => I 128 (8 * r t + c)))) k) ||| (1 <<< ((nI k) &&& 31)))), some (.int ((nI k) + 1))] [] 161 (I, J, RF w)) (fun _ => rfl) ?_
      refine z_evL ?_
      have hS : ¬ (fun k => decide (∀ t, t < q → z_see (fun c => I 134 (8 * (f k) + c)) (fun c => I 128 (8 * r t + c)) = z_see (fun c => I 134 (8 * (g k) + c)) (fun c => I 128 (8 * r t + c)))) k = true := fun q => h3 (of_decide_eq_true q)
      rw [s_rb_f hS] at nx
      rw [nI_1 k]
      exact nx trivial
    · refine z_evL ?_
      refine z_evG 6 (y := z_go 4 [some (.ref 127), some (.int (nI e)), some (.int ((s_rb (fun k => decide (∀ t, t < q → z_see (fun c => I 134 (8 * (f k) + c)) (fun c => I 128 (8 * r t + c)) = z_see (fun c => I 134 (8 * (g k) + c)) (fun c => I 128 (8 * r t + c)))) k) ||| 0)), some (.int ((nI k) + 1))] [] 161 (I, J, RF w)) (fun _ => rfl) ?_
      refine z_evL ?_
      have hS : (fun k => decide (∀ t, t < q → z_see (fun c => I 134 (8 * (f k) + c)) (fun c => I 128 (8 * r t + c)) = z_see (fun c => I 134 (8 * (g k) + c)) (fun c => I 128 (8 * r t + c)))) k = true := decide_eq_true h3
      rw [s_rb_t hS] at nx
      rw [nI_1 k]
      rw [Int32.or_zero]
      exact nx trivial
set_option maxRecDepth 20000 in
/-- LampHouseModel.reads -/
theorem m_reads_bad (E : zE) (d : Nat) (I : Nat → Nat → Int32) (J : Nat → Nat → Int64) (w : Nat) (e : Int32) (hbad : ¬ (¬ e < 0 ∧ ¬ I 127 11 - 1 < e)) : z_cl E (d + 4) 230 [.ref 127, .int e] (161, I, J, RF w) = some (some (.int (-2)), 161, I, J, RF w) := by
  refine z_call (d := d + 3) (M := z_m230) rfl rfl ?_
  refine z_evG 3 (y := z_ret (z_cl E (d + 3) 185 [.ref 127, .int e] (161, (I, J, RF w))) 5 [some (.ref 127), some (.int e)] []) (fun _ => rfl) ?_
  refine z_evK (v := .int (z_bo (¬ e < 0 ∧ ¬ I 127 11 - 1 < e))) (z' := 161) (σ' := (I, J, RF w)) (m_isEye E (d + 1) I J w e) ?_
  refine z_evG 1 (y := if (z_bo (¬ e < 0 ∧ ¬ I 127 11 - 1 < e)) = 0 then z_go 16 [some (.ref 127), some (.int e)] [] 161 (I, J, RF w) else z_go 8 [some (.ref 127), some (.int e)] [] 161 (I, J, RF w)) (fun _ => rfl) ?_
  refine z_evO (fun h1 => ?_) (fun h1 => ?_)
  · refine z_evL ?_
    refine z_evG 2 (y := some (.inr (some (.int (-2)), 161, I, J, RF w))) (fun _ => rfl) ?_
    exact z_evR rfl
  · refine z_evL ?_
    exact absurd h1 hbad
set_option maxRecDepth 20000 in
/-- LampHouseModel.reads -/
theorem m_reads_ok (E : zE) (d : Nat) (I : Nat → Nat → Int32) (J : Nat → Nat → Int64) (w : Nat) (e n q m : Nat) (r f g : Nat → Nat) (h_n : I 127 43 = nI n) (hm_n : n ≤ 10) (h_q : I 136 e = nI q) (hm_q : q ≤ 3) (hr : ∀ t, t < q → I 135 (3 * e + t) = nI (r t) ∧ r t < 30) (hf : ∀ k, k < n → I 149 k = nI (f k) ∧ I 150 k = nI (g k) ∧ f k < 20 ∧ g k < 20) (h_m : I 127 11 = nI m) (hm_m : m ≤ 8) (hl_e : e < m) : z_cl E (d + 4) 230 [.ref 127, .int (nI e)] (161, I, J, RF w) = some (some (.int (s_rb (fun k => decide (∀ t, t < q → z_see (fun c => I 134 (8 * (f k) + c)) (fun c => I 128 (8 * r t + c)) = z_see (fun c => I 134 (8 * (g k) + c)) (fun c => I 128 (8 * r t + c)))) n)), 161, I, J, RF w) := by
  refine z_call (d := d + 3) (M := z_m230) rfl rfl ?_
  refine z_evG 3 (y := z_ret (z_cl E (d + 3) 185 [.ref 127, .int (nI e)] (161, (I, J, RF w))) 5 [some (.ref 127), some (.int (nI e))] []) (fun _ => rfl) ?_
  refine z_evK (v := .int (z_bo (¬ (nI e) < 0 ∧ ¬ I 127 11 - 1 < (nI e)))) (z' := 161) (σ' := (I, J, RF w)) (m_isEye E (d + 1) I J w (nI e)) ?_
  refine z_evG 1 (y := if (z_bo (¬ (nI e) < 0 ∧ ¬ I 127 11 - 1 < (nI e))) = 0 then z_go 16 [some (.ref 127), some (.int (nI e))] [] 161 (I, J, RF w) else z_go 8 [some (.ref 127), some (.int (nI e))] [] 161 (I, J, RF w)) (fun _ => rfl) ?_
  refine z_evF (fun q0 => z_bo_0.mp q0 ⟨(mt (show _ ↔ e < 0 from z_ltN rfl rfl (by omega) (by omega)).mp (by omega)), (z_plt h_m rfl (by omega) (by omega))⟩) ?_
  refine z_evL ?_
  refine z_evG 3 (y := z_ret (z_cl E (d + 3) 229 [.ref 127, .int (nI e)] (161, (I, J, RF w))) 13 [some (.ref 127), some (.int (nI e))] []) (fun _ => rfl) ?_
  refine z_evK (v := .int (s_rb (fun k => decide (∀ t, t < q → z_see (fun c => I 134 (8 * (f k) + c)) (fun c => I 128 (8 * r t + c)) = z_see (fun c => I 134 (8 * (g k) + c)) (fun c => I 128 (8 * r t + c)))) n)) (z' := 161) (σ' := (I, J, RF w)) (m_readBy E d I J w e n q r f g h_n (by omega) (by omega) h_q (by omega) hr hf) ?_
  refine z_evG 2 (y := some (.inr (some (.int (s_rb (fun k => decide (∀ t, t < q → z_see (fun c => I 134 (8 * (f k) + c)) (fun c => I 128 (8 * r t + c)) = z_see (fun c => I 134 (8 * (g k) + c)) (fun c => I 128 (8 * r t + c)))) n)), 161, I, J, RF w))) (fun _ => rfl) ?_
  exact z_evR rfl
set_option maxRecDepth 20000 in
/-- LampHouse$Filters.add -/
theorem x_filters_add (E : zE) (d : Nat) (I : Nat → Nat → Int32) (J : Nat → Nat → Int64) (w : Nat) (a : Nat) (v : Int32) (m : Nat) (ha : z_A a 8) (h_m : I 110 2 = nI m) (hl_m : m < 4) : z_cl E (d + 1) 27 [.ref 110, .ref a, .int v] (161, I, J, RF w) = some (some (.int (nI m)), 161, (z_u2 (z_u2 I 110 9 0) 110 2 (nI (m + 1))), (z_u2 (z_ur J 111 (z_fil (J 111) 0 8 (fun c => J 111 c ||| ((I a c - I a c / 10 * 10).toInt64 <<< ((16 * I 110 2).toInt64 &&& 63))))) 110 1 ((J 110 1) ||| (v.toInt64 <<< ((16 * (I 110 2)).toInt64 &&& 63)))), RF w) := by
  refine z_call (d := d + 0) (M := z_m27) rfl rfl ?_
  refine z_evG 2 (y := z_go 2 [some (.ref 110), some (.ref a), some (.int v), some (.int 0)] [] 161 (I, J, RF w)) (fun _ => rfl) ?_
  refine z_evL ?_
  have st0 : ∀ m0, m0 = 0 → ∀ qz, z_Ev E d z_m27 2 [some (.ref 110), some (.ref a), some (.int v), some (.int (nI m0))] [] 161 (I, (z_ur J 111 (z_fil (J 111) 0 m0 (fun c => J 111 c ||| ((I a c - I a c / 10 * 10).toInt64 <<< ((16 * I 110 2).toInt64 &&& 63))))), RF w) qz → z_Ev E d z_m27 2 [some (.ref 110), some (.ref a), some (.int v), some (.int 0)] [] 161 (I, J, RF w) qz := by intro m0 hm0 qz h; rw [hm0, z_fil_0] at h; subst hm0; exact h
  refine st0 0 rfl _ ?_
  refine z_loop (F := fun k => ([some (.ref 110), some (.ref a), some (.int v), some (.int (nI k))], (I, (z_ur J 111 (z_fil (J 111) 0 k (fun c => J 111 c ||| ((I a c - I a c / 10 * 10).toInt64 <<< ((16 * I 110 2).toInt64 &&& 63))))), RF w))) (P := fun k => True) 8 trivial (fun hP => ?_) (fun k hk hP next => ?_)
  · show z_Ev E d z_m27 2 [some (.ref 110), some (.ref a), some (.int v), some (.int (nI 8))] [] 161 (I, (z_ur J 111 (z_fil (J 111) 0 8 (fun c => J 111 c ||| ((I a c - I a c / 10 * 10).toInt64 <<< ((16 * I 110 2).toInt64 &&& 63))))), RF w) _
    refine z_evG 3 (y := if (nI 8) < 8 then z_go 8 [some (.ref 110), some (.ref a), some (.int v), some (.int (nI 8))] [] 161 (I, (z_ur J 111 (z_fil (J 111) 0 8 (fun c => J 111 c ||| ((I a c - I a c / 10 * 10).toInt64 <<< ((16 * I 110 2).toInt64 &&& 63))))), RF w) else z_go 38 [some (.ref 110), some (.ref a), some (.int v), some (.int (nI 8))] [] 161 (I, (z_ur J 111 (z_fil (J 111) 0 8 (fun c => J 111 c ||| ((I a c - I a c / 10 * 10).toInt64 <<< ((16 * I 110 2).toInt64 &&& 63))))), RF w)) (fun _ => rfl) ?_
    refine z_evF (mt (show _ ↔ 8 < 8 from z_ltN rfl rfl (by omega) (by omega)).mp (by omega)) ?_
    refine z_evL ?_
    refine z_evG 23 (y := some (.inr (some (.int (I 110 2)), 161, (z_u2 (z_u2 I 110 9 0) 110 2 ((I 110 2) + 1)), (z_u2 (z_ur J 111 (z_fil (J 111) 0 8 (fun c => J 111 c ||| ((I a c - I a c / 10 * 10).toInt64 <<< ((16 * I 110 2).toInt64 &&& 63))))) 110 1 ((J 110 1) ||| (v.toInt64 <<< ((16 * (I 110 2)).toInt64 &&& 63)))), RF w))) (fun _ => rfl) ?_
    rw [show ((I 110 2) + 1 : Int32) = nI (m + 1) from (z_addE h_m rfl)]
    rw [show (I 110 2 : Int32) = nI m from h_m]
    exact z_evR rfl
  · show z_Ev E d z_m27 2 [some (.ref 110), some (.ref a), some (.int v), some (.int (nI k))] [] 161 (I, (z_ur J 111 (z_fil (J 111) 0 k (fun c => J 111 c ||| ((I a c - I a c / 10 * 10).toInt64 <<< ((16 * I 110 2).toInt64 &&& 63))))), RF w) _
    have nx : (True) → z_Ev E d z_m27 2 [some (.ref 110), some (.ref a), some (.int v), some (.int (nI (k + 1)))] [] 161 (I, (z_ur J 111 (z_fil (J 111) 0 (k + 1) (fun c => J 111 c ||| ((I a c - I a c / 10 * 10).toInt64 <<< ((16 * I 110 2).toInt64 &&& 63))))), RF w) _ := next
    refine z_evG 3 (y := if (nI k) < 8 then z_go 8 [some (.ref 110), some (.ref a), some (.int v), some (.int (nI k))] [] 161 (I, (z_ur J 111 (z_fil (J 111) 0 k (fun c => J 111 c ||| ((I a c - I a c / 10 * 10).toInt64 <<< ((16 * I 110 2).toInt64 &&& 63))))), RF w) else z_go 38 [some (.ref 110), some (.ref a), some (.int v), some (.int (nI k))] [] 161 (I, (z_ur J 111 (z_fil (J 111) 0 k (fun c => J 111 c ||| ((I a c - I a c / 10 * 10).toInt64 <<< ((16 * I 110 2).toInt64 &&& 63))))), RF w)) (fun _ => rfl) ?_
    refine z_evT ((show _ ↔ k < 8 from z_ltN rfl rfl (by omega) (by omega)).mpr (by omega)) ?_
    refine z_evL ?_
    refine z_evG 5 (y := z_ck (z_in (nI k) 8) (z_go 15 [some (.ref 110), some (.ref a), some (.int v), some (.int (nI k))] [.long ((z_ur J 111 (z_fil (J 111) 0 k (fun c => J 111 c ||| ((I a c - I a c / 10 * 10).toInt64 <<< ((16 * I 110 2).toInt64 &&& 63))))) 111 ((nI k).toNatClampNeg)), .int (nI k), .ref 111] 161 (I, (z_ur J 111 (z_fil (J 111) 0 k (fun c => J 111 c ||| ((I a c - I a c / 10 * 10).toInt64 <<< ((16 * I 110 2).toInt64 &&& 63))))), RF w))) (fun _ => rfl) ?_
    refine z_evC (z_inN (k := k) rfl (by omega) (by decide)) ?_
    refine z_evL ?_
    rw [show ((nI k : Int32)).toNatClampNeg = k from z_natE rfl (by omega)]
    rw [show (z_ur J 111 (z_fil (J 111) 0 k (fun c => J 111 c ||| ((I a c - I a c / 10 * 10).toInt64 <<< ((16 * I 110 2).toInt64 &&& 63))))) 111 k = J 111 k from ((congrFun (z_ur_same _ _ _) _).trans (z_fil_ge (by omega)))]
    refine z_evG 3 (y := z_ild (z_ia E 161 (I, (z_ur J 111 (z_fil (J 111) 0 k (fun c => J 111 c ||| ((I a c - I a c / 10 * 10).toInt64 <<< ((16 * I 110 2).toInt64 &&& 63))))), RF w) a) (nI k) fun vv => z_go 18 [some (.ref 110), some (.ref a), some (.int v), some (.int (nI k))] [.int vv, .long (J 111 k), .int (nI k), .ref 111] 161 (I, (z_ur J 111 (z_fil (J 111) 0 k (fun c => J 111 c ||| ((I a c - I a c / 10 * 10).toInt64 <<< ((16 * I 110 2).toInt64 &&& 63))))), RF w)) (fun _ => rfl) ?_
    refine z_evBn (N := 8) (f := (I a)) (k := k) (z_iaA ha) rfl (by omega) ?_
    refine z_evL ?_
    refine z_evG 2 (y := z_ck (!decide ((10 : Int32) = 0)) (z_go 21 [some (.ref 110), some (.ref a), some (.int v), some (.int (nI k))] [.int ((I a k) - (I a k) / 10 * 10), .long (J 111 k), .int (nI k), .ref 111] 161 (I, (z_ur J 111 (z_fil (J 111) 0 k (fun c => J 111 c ||| ((I a c - I a c / 10 * 10).toInt64 <<< ((16 * I 110 2).toInt64 &&& 63))))), RF w))) (fun _ => rfl) ?_
    refine z_evC (by decide) ?_
    refine z_evL ?_
    refine z_evG 8 (y := z_ck (z_in (nI k) 8) (z_go 32 [some (.ref 110), some (.ref a), some (.int v), some (.int (nI k))] [] 161 (I, (z_u2 (z_ur J 111 (z_fil (J 111) 0 k (fun c => J 111 c ||| ((I a c - I a c / 10 * 10).toInt64 <<< ((16 * I 110 2).toInt64 &&& 63))))) 111 ((nI k).toNatClampNeg) ((J 111 k) ||| ((((I a k) - (I a k) / 10 * 10).toInt64) <<< ((16 * (I 110 2)).toInt64 &&& 63)))), RF w))) (fun _ => rfl) ?_
    refine z_evC (z_inN (k := k) rfl (by omega) (by decide)) ?_
    refine z_evL ?_
    rw [show ((nI k : Int32)).toNatClampNeg = k from z_natE rfl (by omega)]
    refine z_evG 2 (y := z_go 2 [some (.ref 110), some (.ref a), some (.int v), some (.int ((nI k) + 1))] [] 161 (I, (z_u2 (z_ur J 111 (z_fil (J 111) 0 k (fun c => J 111 c ||| ((I a c - I a c / 10 * 10).toInt64 <<< ((16 * I 110 2).toInt64 &&& 63))))) 111 k ((J 111 k) ||| ((((I a k) - (I a k) / 10 * 10).toInt64) <<< ((16 * (I 110 2)).toInt64 &&& 63)))), RF w)) (fun _ => rfl) ?_
    refine z_evL ?_
    have e : z_u2 (z_ur J 111 (z_fil (J 111) 0 k (fun c => J 111 c ||| ((I a c - I a c / 10 * 10).toInt64 <<< ((16 * I 110 2).toInt64 &&& 63))))) 111 k (J 111 k ||| ((I a k - I a k / 10 * 10).toInt64 <<< ((16 * I 110 2).toInt64 &&& 63))) = (z_ur J 111 (z_fil (J 111) 0 (k + 1) (fun c => J 111 c ||| ((I a c - I a c / 10 * 10).toInt64 <<< ((16 * I 110 2).toInt64 &&& 63))))) := (congrArg (z_u2 (z_ur J 111 (z_fil (J 111) 0 k (fun c => J 111 c ||| ((I a c - I a c / 10 * 10).toInt64 <<< ((16 * I 110 2).toInt64 &&& 63))))) 111 k) (show J 111 k ||| ((I a k - I a k / 10 * 10).toInt64 <<< ((16 * I 110 2).toInt64 &&& 63)) = (fun c => J 111 c ||| ((I a c - I a c / 10 * 10).toInt64 <<< ((16 * I 110 2).toInt64 &&& 63))) k from rfl)).trans ((congrArg (fun q => z_u2 (z_ur J 111 (z_fil (J 111) 0 k (fun c => J 111 c ||| ((I a c - I a c / 10 * 10).toInt64 <<< ((16 * I 110 2).toInt64 &&& 63))))) 111 q ((fun c => J 111 c ||| ((I a c - I a c / 10 * 10).toInt64 <<< ((16 * I 110 2).toInt64 &&& 63))) k)) (Nat.zero_add k).symm).trans (z_fil_s J 111 0 k (fun c => J 111 c ||| ((I a c - I a c / 10 * 10).toInt64 <<< ((16 * I 110 2).toInt64 &&& 63)))))
    rw [nI_1 k, e]
    exact nx trivial
set_option maxRecDepth 20000 in
/-- LampHouse.filter -/
theorem x_filter_bad (E : zE) (d : Nat) (I : Nat → Nat → Int32) (J : Nat → Nat → Int64) (w : Nat) (i v : Int32) (hbad : ¬ ((¬ i < 0 ∧ i < I 1 1) ∧ (¬ v < 0) ∧ (¬ 999 < v))) : z_cl E (d + 2) 158 [.ref 0, .int i, .int v] (161, I, J, RF w) = some (some (.int (-2)), 161, I, J, RF w) := by
  refine z_call (d := d + 1) (M := z_m158) rfl rfl ?_
  refine z_evG 4 (y := z_ret (z_cl E (d + 1) 8 [.ref 1, .int i] (161, (I, J, RF w))) 8 [some (.ref 0), some (.int i), some (.int v)] []) (fun _ => rfl) ?_
  refine z_evK (v := .int (z_bo (¬ i < 0 ∧ i < I 1 1))) (z' := 161) (σ' := (I, J, RF w)) (x_rows_has E d I J w i) ?_
  refine z_evG 1 (y := if (z_bo (¬ i < 0 ∧ i < I 1 1)) = 0 then z_go 22 [some (.ref 0), some (.int i), some (.int v)] [] 161 (I, J, RF w) else z_go 11 [some (.ref 0), some (.int i), some (.int v)] [] 161 (I, J, RF w)) (fun _ => rfl) ?_
  refine z_evO (fun h1 => ?_) (fun h1 => ?_)
  · refine z_evL ?_
    refine z_evG 2 (y := some (.inr (some (.int (-2)), 161, I, J, RF w))) (fun _ => rfl) ?_
    exact z_evR rfl
  · refine z_evL ?_
    refine z_evG 2 (y := if v < 0 then z_go 22 [some (.ref 0), some (.int i), some (.int v)] [] 161 (I, J, RF w) else z_go 15 [some (.ref 0), some (.int i), some (.int v)] [] 161 (I, J, RF w)) (fun _ => rfl) ?_
    refine z_evI (fun h2 => ?_) (fun h2 => ?_)
    · refine z_evL ?_
      refine z_evG 2 (y := some (.inr (some (.int (-2)), 161, I, J, RF w))) (fun _ => rfl) ?_
      exact z_evR rfl
    · refine z_evL ?_
      refine z_evG 3 (y := if 999 < v then z_go 22 [some (.ref 0), some (.int i), some (.int v)] [] 161 (I, J, RF w) else z_go 25 [some (.ref 0), some (.int i), some (.int v)] [] 161 (I, J, RF w)) (fun _ => rfl) ?_
      refine z_evI (fun h3 => ?_) (fun h3 => ?_)
      · refine z_evL ?_
        refine z_evG 2 (y := some (.inr (some (.int (-2)), 161, I, J, RF w))) (fun _ => rfl) ?_
        exact z_evR rfl
      · refine z_evL ?_
        exact absurd ⟨h1, h2, h3⟩ hbad
set_option maxRecDepth 20000 in
/-- LampHouseModel.filter -/
theorem m_filter_bad (E : zE) (d : Nat) (I : Nat → Nat → Int32) (J : Nat → Nat → Int64) (w : Nat) (i v : Int32) (hbad : ¬ ((¬ i < 0 ∧ ¬ I 127 1 - 1 < i) ∧ (¬ v < 0 ∧ ¬ 999 < v))) : z_cl E (d + 3) 243 [.ref 127, .int i, .int v] (161, I, J, RF w) = some (some (.int (-2)), 161, I, J, RF w) := by
  refine z_call (d := d + 2) (M := z_m243) rfl rfl ?_
  refine z_evG 3 (y := z_ret (z_cl E (d + 2) 182 [.ref 127, .int i] (161, (I, J, RF w))) 5 [some (.ref 127), some (.int i), some (.int v)] []) (fun _ => rfl) ?_
  refine z_evK (v := .int (z_bo (¬ i < 0 ∧ ¬ I 127 1 - 1 < i))) (z' := 161) (σ' := (I, J, RF w)) (m_isRow E d I J w i) ?_
  refine z_evG 1 (y := if (z_bo (¬ i < 0 ∧ ¬ I 127 1 - 1 < i)) = 0 then z_go 19 [some (.ref 127), some (.int i), some (.int v)] [] 161 (I, J, RF w) else z_go 8 [some (.ref 127), some (.int i), some (.int v)] [] 161 (I, J, RF w)) (fun _ => rfl) ?_
  refine z_evO (fun h1 => ?_) (fun h1 => ?_)
  · refine z_evL ?_
    refine z_evG 2 (y := some (.inr (some (.int (-2)), 161, I, J, RF w))) (fun _ => rfl) ?_
    exact z_evR rfl
  · refine z_evL ?_
    refine z_evG 4 (y := z_ret (z_cl E (d + 2) 178 [.int v, .int 0, .int 999] (161, (I, J, RF w))) 16 [some (.ref 127), some (.int i), some (.int v)] []) (fun _ => rfl) ?_
    refine z_evK (v := .int (z_bo (¬ v < 0 ∧ ¬ 999 < v))) (z' := 161) (σ' := (I, J, RF w)) (m_in E (d + 1) I J w v 0 999) ?_
    refine z_evG 1 (y := if (z_bo (¬ v < 0 ∧ ¬ 999 < v)) = 0 then z_go 19 [some (.ref 127), some (.int i), some (.int v)] [] 161 (I, J, RF w) else z_go 22 [some (.ref 127), some (.int i), some (.int v)] [] 161 (I, J, RF w)) (fun _ => rfl) ?_
    refine z_evO (fun h2 => ?_) (fun h2 => ?_)
    · refine z_evL ?_
      refine z_evG 2 (y := some (.inr (some (.int (-2)), 161, I, J, RF w))) (fun _ => rfl) ?_
      exact z_evR rfl
    · refine z_evL ?_
      exact absurd ⟨h1, h2⟩ hbad
set_option maxRecDepth 20000 in
/-- LampHouse.filter -/
theorem x_filter_full (E : zE) (d : Nat) (I : Nat → Nat → Int32) (J : Nat → Nat → Int64) (w : Nat) (i v n m : Nat) (h_n : I 1 1 = nI n) (hm_n : n ≤ 30) (h_m : I 110 2 = nI m) (hm_m : m ≤ 4) (hl_i : i < n) (hl_v : v < 1000) (hf : m = 4) : z_cl E (d + 2) 158 [.ref 0, .int (nI i), .int (nI v)] (161, I, J, RF w) = some (some (.int (-4)), 161, I, J, RF w) := by
  refine z_call (d := d + 1) (M := z_m158) rfl rfl ?_
  refine z_evG 4 (y := z_ret (z_cl E (d + 1) 8 [.ref 1, .int (nI i)] (161, (I, J, RF w))) 8 [some (.ref 0), some (.int (nI i)), some (.int (nI v))] []) (fun _ => rfl) ?_
  refine z_evK (v := .int (z_bo (¬ (nI i) < 0 ∧ (nI i) < I 1 1))) (z' := 161) (σ' := (I, J, RF w)) (x_rows_has E d I J w (nI i)) ?_
  refine z_evG 1 (y := if (z_bo (¬ (nI i) < 0 ∧ (nI i) < I 1 1)) = 0 then z_go 22 [some (.ref 0), some (.int (nI i)), some (.int (nI v))] [] 161 (I, J, RF w) else z_go 11 [some (.ref 0), some (.int (nI i)), some (.int (nI v))] [] 161 (I, J, RF w)) (fun _ => rfl) ?_
  refine z_evF (fun q0 => z_bo_0.mp q0 ⟨(mt (show _ ↔ i < 0 from z_ltN rfl rfl (by omega) (by omega)).mp (by omega)), ((show _ ↔ i < n from z_ltN rfl h_n (by omega) (by omega)).mpr (by omega))⟩) ?_
  refine z_evL ?_
  refine z_evG 2 (y := if (nI v) < 0 then z_go 22 [some (.ref 0), some (.int (nI i)), some (.int (nI v))] [] 161 (I, J, RF w) else z_go 15 [some (.ref 0), some (.int (nI i)), some (.int (nI v))] [] 161 (I, J, RF w)) (fun _ => rfl) ?_
  refine z_evF ((mt (show _ ↔ v < 0 from z_ltN rfl rfl (by omega) (by omega)).mp (by omega))) ?_
  refine z_evL ?_
  refine z_evG 3 (y := if 999 < (nI v) then z_go 22 [some (.ref 0), some (.int (nI i)), some (.int (nI v))] [] 161 (I, J, RF w) else z_go 25 [some (.ref 0), some (.int (nI i)), some (.int (nI v))] [] 161 (I, J, RF w)) (fun _ => rfl) ?_
  refine z_evF ((mt (show _ ↔ 999 < v from z_ltN rfl rfl (by omega) (by omega)).mp (by omega))) ?_
  refine z_evL ?_
  refine z_evG 3 (y := z_ret (z_cl E (d + 1) 26 [.ref 110] (161, (I, J, RF w))) 32 [some (.ref 0), some (.int (nI i)), some (.int (nI v))] []) (fun _ => rfl) ?_
  refine z_evK (v := .int (z_bo (¬ I 110 2 < 4))) (z' := 161) (σ' := (I, J, RF w)) (x_filters_isFull E d I J w) ?_
  refine z_evG 1 (y := if (z_bo (¬ I 110 2 < 4)) = 0 then z_go 40 [some (.ref 0), some (.int (nI i)), some (.int (nI v))] [] 161 (I, J, RF w) else z_go 35 [some (.ref 0), some (.int (nI i)), some (.int (nI v))] [] 161 (I, J, RF w)) (fun _ => rfl) ?_
  refine z_evF (fun q0 => z_bo_0.mp q0 (mt (show _ ↔ m < 4 from z_ltN h_m rfl (by omega) (by omega)).mp (by omega))) ?_
  refine z_evL ?_
  refine z_evG 3 (y := some (.inr (some (.int (-4)), 161, I, J, RF w))) (fun _ => rfl) ?_
  exact z_evR rfl
set_option maxRecDepth 20000 in
/-- LampHouseModel.filter -/
theorem m_filter_full (E : zE) (d : Nat) (I : Nat → Nat → Int32) (J : Nat → Nat → Int64) (w : Nat) (i v n m : Nat) (h_n : I 127 1 = nI n) (hm_n : n ≤ 30) (h_m : I 127 51 = nI m) (hm_m : m ≤ 4) (hl_i : i < n) (hl_v : v < 1000) (hf : m = 4) : z_cl E (d + 3) 243 [.ref 127, .int (nI i), .int (nI v)] (161, I, J, RF w) = some (some (.int (-4)), 161, I, J, RF w) := by
  refine z_call (d := d + 2) (M := z_m243) rfl rfl ?_
  refine z_evG 3 (y := z_ret (z_cl E (d + 2) 182 [.ref 127, .int (nI i)] (161, (I, J, RF w))) 5 [some (.ref 127), some (.int (nI i)), some (.int (nI v))] []) (fun _ => rfl) ?_
  refine z_evK (v := .int (z_bo (¬ (nI i) < 0 ∧ ¬ I 127 1 - 1 < (nI i)))) (z' := 161) (σ' := (I, J, RF w)) (m_isRow E d I J w (nI i)) ?_
  refine z_evG 1 (y := if (z_bo (¬ (nI i) < 0 ∧ ¬ I 127 1 - 1 < (nI i))) = 0 then z_go 19 [some (.ref 127), some (.int (nI i)), some (.int (nI v))] [] 161 (I, J, RF w) else z_go 8 [some (.ref 127), some (.int (nI i)), some (.int (nI v))] [] 161 (I, J, RF w)) (fun _ => rfl) ?_
  refine z_evF (fun q0 => z_bo_0.mp q0 ⟨(mt (show _ ↔ i < 0 from z_ltN rfl rfl (by omega) (by omega)).mp (by omega)), (z_plt h_n rfl (by omega) (by omega))⟩) ?_
  refine z_evL ?_
  refine z_evG 4 (y := z_ret (z_cl E (d + 2) 178 [.int (nI v), .int 0, .int 999] (161, (I, J, RF w))) 16 [some (.ref 127), some (.int (nI i)), some (.int (nI v))] []) (fun _ => rfl) ?_
  refine z_evK (v := .int (z_bo (¬ (nI v) < 0 ∧ ¬ 999 < (nI v)))) (z' := 161) (σ' := (I, J, RF w)) (m_in E (d + 1) I J w (nI v) 0 999) ?_
  refine z_evG 1 (y := if (z_bo (¬ (nI v) < 0 ∧ ¬ 999 < (nI v))) = 0 then z_go 19 [some (.ref 127), some (.int (nI i)), some (.int (nI v))] [] 161 (I, J, RF w) else z_go 22 [some (.ref 127), some (.int (nI i)), some (.int (nI v))] [] 161 (I, J, RF w)) (fun _ => rfl) ?_
  refine z_evF (fun q0 => z_bo_0.mp q0 ⟨(mt (show _ ↔ v < 0 from z_ltN rfl rfl (by omega) (by omega)).mp (by omega)), (mt (show _ ↔ 999 < v from z_ltN rfl rfl (by omega) (by omega)).mp (by omega))⟩) ?_
  refine z_evL ?_
  refine z_evG 4 (y := if (I 127 51) = 4 then z_go 30 [some (.ref 127), some (.int (nI i)), some (.int (nI v))] [] 161 (I, J, RF w) else z_go 33 [some (.ref 127), some (.int (nI i)), some (.int (nI v))] [] 161 (I, J, RF w)) (fun _ => rfl) ?_
  refine z_evT (((show _ ↔ m = 4 from z_eqN h_m rfl (by omega) (by omega)).mpr (by omega))) ?_
  refine z_evL ?_
  refine z_evG 2 (y := some (.inr (some (.int (-4)), 161, I, J, RF w))) (fun _ => rfl) ?_
  exact z_evR rfl
set_option maxRecDepth 20000 in
/-- LampHouseModel.filter -/
theorem m_filter_ok (E : zE) (d : Nat) (I : Nat → Nat → Int32) (J : Nat → Nat → Int64) (w : Nat) (i v n m : Nat) (h_n : I 127 1 = nI n) (hm_n : n ≤ 30) (h_m : I 127 51 = nI m) (hm_m : m ≤ 4) (hl_i : i < n) (hl_v : v < 1000) (hf : m < 4) : z_cl E (d + 3) 243 [.ref 127, .int (nI i), .int (nI v)] (161, I, J, RF w) = some (some (.int (nI m)), 161, (z_u2 (z_u2 (z_u2 I 155 m (nI i)) 156 m (nI v)) 127 51 (nI (m + 1))), J, RF w) := by
  refine z_call (d := d + 2) (M := z_m243) rfl rfl ?_
  refine z_evG 3 (y := z_ret (z_cl E (d + 2) 182 [.ref 127, .int (nI i)] (161, (I, J, RF w))) 5 [some (.ref 127), some (.int (nI i)), some (.int (nI v))] []) (fun _ => rfl) ?_
  refine z_evK (v := .int (z_bo (¬ (nI i) < 0 ∧ ¬ I 127 1 - 1 < (nI i)))) (z' := 161) (σ' := (I, J, RF w)) (m_isRow E d I J w (nI i)) ?_
  refine z_evG 1 (y := if (z_bo (¬ (nI i) < 0 ∧ ¬ I 127 1 - 1 < (nI i))) = 0 then z_go 19 [some (.ref 127), some (.int (nI i)), some (.int (nI v))] [] 161 (I, J, RF w) else z_go 8 [some (.ref 127), some (.int (nI i)), some (.int (nI v))] [] 161 (I, J, RF w)) (fun _ => rfl) ?_
  refine z_evF (fun q0 => z_bo_0.mp q0 ⟨(mt (show _ ↔ i < 0 from z_ltN rfl rfl (by omega) (by omega)).mp (by omega)), (z_plt h_n rfl (by omega) (by omega))⟩) ?_
  refine z_evL ?_
  refine z_evG 4 (y := z_ret (z_cl E (d + 2) 178 [.int (nI v), .int 0, .int 999] (161, (I, J, RF w))) 16 [some (.ref 127), some (.int (nI i)), some (.int (nI v))] []) (fun _ => rfl) ?_
  refine z_evK (v := .int (z_bo (¬ (nI v) < 0 ∧ ¬ 999 < (nI v)))) (z' := 161) (σ' := (I, J, RF w)) (m_in E (d + 1) I J w (nI v) 0 999) ?_
  refine z_evG 1 (y := if (z_bo (¬ (nI v) < 0 ∧ ¬ 999 < (nI v))) = 0 then z_go 19 [some (.ref 127), some (.int (nI i)), some (.int (nI v))] [] 161 (I, J, RF w) else z_go 22 [some (.ref 127), some (.int (nI i)), some (.int (nI v))] [] 161 (I, J, RF w)) (fun _ => rfl) ?_
  refine z_evF (fun q0 => z_bo_0.mp q0 ⟨(mt (show _ ↔ v < 0 from z_ltN rfl rfl (by omega) (by omega)).mp (by omega)), (mt (show _ ↔ 999 < v from z_ltN rfl rfl (by omega) (by omega)).mp (by omega))⟩) ?_
  refine z_evL ?_
  refine z_evG 4 (y := if (I 127 51) = 4 then z_go 30 [some (.ref 127), some (.int (nI i)), some (.int (nI v))] [] 161 (I, J, RF w) else z_go 33 [some (.ref 127), some (.int (nI i)), some (.int (nI v))] [] 161 (I, J, RF w)) (fun _ => rfl) ?_
  refine z_evF ((mt (show _ ↔ m = 4 from z_eqN h_m rfl (by omega) (by omega)).mp (by omega))) ?_
  refine z_evL ?_
  refine z_evG 6 (y := z_ck (z_in (I 127 51) 4) (z_go 43 [some (.ref 127), some (.int (nI i)), some (.int (nI v))] [] 161 ((z_u2 I 155 ((I 127 51).toNatClampNeg) (nI i)), J, RF w))) (fun _ => rfl) ?_
  refine z_evC (z_inN (k := m) h_m (by omega) (by decide)) ?_
  refine z_evL ?_
  rw [show ((I 127 51 : Int32)).toNatClampNeg = m from z_natE h_m (by omega)]
  refine z_evG 6 (y := z_ck (z_in (I 127 51) 4) (z_go 53 [some (.ref 127), some (.int (nI i)), some (.int (nI v))] [] 161 ((z_u2 (z_u2 I 155 m (nI i)) 156 ((I 127 51).toNatClampNeg) (nI v)), J, RF w))) (fun _ => rfl) ?_
  refine z_evC (z_inN (k := m) h_m (by omega) (by decide)) ?_
  refine z_evL ?_
  rw [show ((I 127 51 : Int32)).toNatClampNeg = m from z_natE h_m (by omega)]
  refine z_evG 11 (y := some (.inr (some (.int (((I 127 51) + 1) - 1)), 161, (z_u2 (z_u2 (z_u2 I 155 m (nI i)) 156 m (nI v)) 127 51 ((I 127 51) + 1)), J, RF w))) (fun _ => rfl) ?_
  rw [show (((I 127 51) + 1) - 1 : Int32) = nI m from (z_predE (z_addE h_m rfl))]
  rw [show ((I 127 51) + 1 : Int32) = nI (m + 1) from (z_addE h_m rfl)]
  exact z_evR rfl
set_option maxRecDepth 20000 in
/-- LampHouse.filter -/
theorem x_filter_ok (E : zE) (d : Nat) (I : Nat → Nat → Int32) (J : Nat → Nat → Int64) (w : Nat) (i v n m : Nat) (h_n : I 1 1 = nI n) (hm_n : n ≤ 30) (h_m : I 110 2 = nI m) (hm_m : m ≤ 4) (hl_i : i < n) (hl_v : v < 1000) (hf : m < 4) : z_cl E (d + 2) 158 [.ref 0, .int (nI i), .int (nI v)] (161, I, J, RF w) = some (some (.int (nI m)), 161, (z_u2 (z_u2 I 110 9 0) 110 2 (nI (m + 1))), (z_u2 (z_ur J 111 (z_fil (J 111) 0 8 (fun c => J 111 c ||| ((I (3 + i) c - I (3 + i) c / 10 * 10).toInt64 <<< ((16 * I 110 2).toInt64 &&& 63))))) 110 1 ((J 110 1) ||| ((nI v).toInt64 <<< ((16 * (I 110 2)).toInt64 &&& 63)))), RF w) := by
  refine z_call (d := d + 1) (M := z_m158) rfl rfl ?_
  refine z_evG 4 (y := z_ret (z_cl E (d + 1) 8 [.ref 1, .int (nI i)] (161, (I, J, RF w))) 8 [some (.ref 0), some (.int (nI i)), some (.int (nI v))] []) (fun _ => rfl) ?_
  refine z_evK (v := .int (z_bo (¬ (nI i) < 0 ∧ (nI i) < I 1 1))) (z' := 161) (σ' := (I, J, RF w)) (x_rows_has E d I J w (nI i)) ?_
  refine z_evG 1 (y := if (z_bo (¬ (nI i) < 0 ∧ (nI i) < I 1 1)) = 0 then z_go 22 [some (.ref 0), some (.int (nI i)), some (.int (nI v))] [] 161 (I, J, RF w) else z_go 11 [some (.ref 0), some (.int (nI i)), some (.int (nI v))] [] 161 (I, J, RF w)) (fun _ => rfl) ?_
  refine z_evF (fun q0 => z_bo_0.mp q0 ⟨(mt (show _ ↔ i < 0 from z_ltN rfl rfl (by omega) (by omega)).mp (by omega)), ((show _ ↔ i < n from z_ltN rfl h_n (by omega) (by omega)).mpr (by omega))⟩) ?_
  refine z_evL ?_
  refine z_evG 2 (y := if (nI v) < 0 then z_go 22 [some (.ref 0), some (.int (nI i)), some (.int (nI v))] [] 161 (I, J, RF w) else z_go 15 [some (.ref 0), some (.int (nI i)), some (.int (nI v))] [] 161 (I, J, RF w)) (fun _ => rfl) ?_
  refine z_evF ((mt (show _ ↔ v < 0 from z_ltN rfl rfl (by omega) (by omega)).mp (by omega))) ?_
  refine z_evL ?_
  refine z_evG 3 (y := if 999 < (nI v) then z_go 22 [some (.ref 0), some (.int (nI i)), some (.int (nI v))] [] 161 (I, J, RF w) else z_go 25 [some (.ref 0), some (.int (nI i)), some (.int (nI v))] [] 161 (I, J, RF w)) (fun _ => rfl) ?_
  refine z_evF ((mt (show _ ↔ 999 < v from z_ltN rfl rfl (by omega) (by omega)).mp (by omega))) ?_
  refine z_evL ?_
  refine z_evG 3 (y := z_ret (z_cl E (d + 1) 26 [.ref 110] (161, (I, J, RF w))) 32 [some (.ref 0), some (.int (nI i)), some (.int (nI v))] []) (fun _ => rfl) ?_
  refine z_evK (v := .int (z_bo (¬ I 110 2 < 4))) (z' := 161) (σ' := (I, J, RF w)) (x_filters_isFull E d I J w) ?_
  refine z_evG 1 (y := if (z_bo (¬ I 110 2 < 4)) = 0 then z_go 40 [some (.ref 0), some (.int (nI i)), some (.int (nI v))] [] 161 (I, J, RF w) else z_go 35 [some (.ref 0), some (.int (nI i)), some (.int (nI v))] [] 161 (I, J, RF w)) (fun _ => rfl) ?_
  refine z_evT (z_bo_0.mpr (fun q0 => q0 ((show _ ↔ m < 4 from z_ltN h_m rfl (by omega) (by omega)).mpr (by omega)))) ?_
  refine z_evL ?_
  refine z_evG 6 (y := z_ret (z_cl E (d + 1) 11 [.ref 1, .int (nI i)] (161, (I, J, RF w))) 52 [some (.ref 0), some (.int (nI i)), some (.int (nI v))] [.ref 110]) (fun _ => rfl) ?_
  refine z_evK (v := .ref (3 + i)) (z' := 161) (σ' := (I, J, RF w)) (x_rows_getN E d I J w i (by omega)) ?_
  refine z_evG 2 (y := z_ret (z_cl E (d + 1) 27 [.ref 110, .ref (3 + i), .int (nI v)] (161, (I, J, RF w))) 56 [some (.ref 0), some (.int (nI i)), some (.int (nI v))] []) (fun _ => rfl) ?_
  refine z_evK (v := .int (nI m)) (z' := 161) (σ' := ((z_u2 (z_u2 I 110 9 0) 110 2 (nI (m + 1))), (z_u2 (z_ur J 111 (z_fil (J 111) 0 8 (fun c => J 111 c ||| ((I (3 + i) c - I (3 + i) c / 10 * 10).toInt64 <<< ((16 * I 110 2).toInt64 &&& 63))))) 110 1 ((J 110 1) ||| ((nI v).toInt64 <<< ((16 * (I 110 2)).toInt64 &&& 63)))), RF w)) (x_filters_add E d I J w (3 + i) (nI v) m (z_A_rows i (by omega)) h_m (by omega)) ?_
  refine z_evG 1 (y := some (.inr (some (.int (nI m)), 161, (z_u2 (z_u2 I 110 9 0) 110 2 (nI (m + 1))), (z_u2 (z_ur J 111 (z_fil (J 111) 0 8 (fun c => J 111 c ||| ((I (3 + i) c - I (3 + i) c / 10 * 10).toInt64 <<< ((16 * I 110 2).toInt64 &&& 63))))) 110 1 ((J 110 1) ||| ((nI v).toInt64 <<< ((16 * (I 110 2)).toInt64 &&& 63)))), RF w))) (fun _ => rfl) ?_
  exact z_evR rfl
