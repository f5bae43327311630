-- CHART by the class
set_option maxRecDepth 20000 in
theorem x_few_0 (E : zE) (d : Nat) (I : Nat → Nat → Int32) (J : Nat → Nat → Int64) (w : Nat) {r : zR} (b : Int32) (I1 : Nat → Nat → Int32) (hv : z_cl E (d + 5) 52 [.ref 106, .int b] (161, I, J, RF w) = some (none, 161, I1, J, RF w)) (hz : z_Ev E (d + 5) z_m51 5 [some (.ref 106), some (.int b), none, none, none] [] 161 (I1, J, RF w) r) : z_Ev E (d + 5) z_m51 0 [some (.ref 106), some (.int b), none, none, none] [] 161 (I, J, RF w) r := by
  refine z_evG 3 (y := z_ret (z_cl E (d + 5) 52 [.ref 106, .int b] (161, (I, J, RF w))) 5 [some (.ref 106), some (.int b), none, none, none] []) (fun _ => rfl) ?_
  refine z_evV (z' := 161) (σ' := (I1, J, RF w)) hv ?_
  exact hz
set_option maxRecDepth 20000 in
/-- LampHouse.chart -/
theorem x_chart_bad (E : zE) (d : Nat) (I : Nat → Nat → Int32) (J : Nat → Nat → Int64) (w : Nat) (b : Int32) (hbad : ¬ ((b &&& ((-1) <<< (I 65 3 &&& 31))) = 0)) : z_cl E (d + 7) 151 [.ref 0, .int b] (161, I, J, RF w) = some (some (.int (-2)), 161, I, J, RF w) := by
  refine z_call (d := d + 6) (M := z_m151) rfl rfl ?_
  refine z_evG 4 (y := z_ret (z_cl E (d + 6) 16 [.ref 65, .int b] (161, (I, J, RF w))) 8 [some (.ref 0), some (.int b)] []) (fun _ => rfl) ?_
  refine z_evK (v := .int (z_bo ((b &&& ((-1) <<< (I 65 3 &&& 31))) = 0))) (z' := 161) (σ' := (I, J, RF w)) (x_eyes_hasAll E (d + 4) I J w b) ?_
  refine z_evG 1 (y := if (z_bo ((b &&& ((-1) <<< (I 65 3 &&& 31))) = 0)) = 0 then z_go 22 [some (.ref 0), some (.int b)] [] 161 (I, J, RF w) else z_go 11 [some (.ref 0), some (.int b)] [] 161 (I, J, RF w)) (fun _ => rfl) ?_
  refine z_evO (fun h1 => ?_) (fun h1 => ?_)
  · refine z_evL ?_
    refine z_evG 2 (y := some (.inr (some (.int (-2)), 161, I, J, RF w))) (fun _ => rfl) ?_
    exact z_evR rfl
  · refine z_evL ?_
    exact absurd h1 hbad
set_option maxRecDepth 20000 in
theorem x_chart_s (E : zE) (d : Nat) (I : Nat → Nat → Int32) (J : Nat → Nat → Int64) (w : Nat) (b v : Int32) (I1 : Nat → Nat → Int32) (hb : (b &&& ((-1) <<< (I 65 3 &&& 31))) = 0) (hv : z_cl E (d + 6) 51 [.ref 106, .int b] (161, I, J, RF w) = some (some (.int v), 161, I1, J, RF w)) : z_Ev E (d + 6) z_m151 0 [some (.ref 0), some (.int b)] [] 161 (I, J, RF w) (some (.int v), 161, I1, J, RF w) := by
  refine z_evG 4 (y := z_ret (z_cl E (d + 6) 16 [.ref 65, .int b] (161, (I, J, RF w))) 8 [some (.ref 0), some (.int b)] []) (fun _ => rfl) ?_
  refine z_evK (v := .int (z_bo ((b &&& ((-1) <<< (I 65 3 &&& 31))) = 0))) (z' := 161) (σ' := (I, J, RF w)) (x_eyes_hasAll E (d + 4) I J w b) ?_
  refine z_evG 1 (y := if (z_bo ((b &&& ((-1) <<< (I 65 3 &&& 31))) = 0)) = 0 then z_go 22 [some (.ref 0), some (.int b)] [] 161 (I, J, RF w) else z_go 11 [some (.ref 0), some (.int b)] [] 161 (I, J, RF w)) (fun _ => rfl) ?_
  refine z_evF (fun q0 => z_bo_0.mp q0 hb) ?_
  refine z_evL ?_
  refine z_evG 4 (y := z_ret (z_cl E (d + 6) 51 [.ref 106, .int b] (161, (I, J, RF w))) 19 [some (.ref 0), some (.int b)] []) (fun _ => rfl) ?_
  refine z_evK (v := .int v) (z' := 161) (σ' := (I1, J, RF w)) hv ?_
  refine z_evG 2 (y := some (.inr (some (.int v), 161, I1, J, RF w))) (fun _ => rfl) ?_
  exact z_evR rfl
theorem x_chartQ (E : zE) (d : Nat) (I : Nat → Nat → Int32) (J : Nat → Nat → Int64) (w : Nat) (b : Int32) (n q : Nat) (rb : Nat → Int32) (Td : Nat → Bool) (hn : n ≤ 8) (h_n : I 65 3 = nI n) (h_q : I 106 6 = nI q) (hq : q ≤ 10) (hb : (b &&& ((-1) <<< (I 65 3 &&& 31))) = 0) (hR : ∀ I', (∀ x j, ¬ ((x = 106 ∧ j = 5) ∨ x = 109) → I' x j = I x j) → ∀ e, e < n → z_cl E (d + 4) 50 [.ref 106, .int (nI e)] (161, I', J, RF w) = some (some (.int (rb e)), 161, I', J, RF w)) (hT : ∀ v, Td v = true ↔ ∀ a c, (a < c ∧ c < n) → s_td b a → s_td b c → ¬ ((rb a ^^^ rb c) &&& nI v) = 0) : ∃ I', z_cl E (d + 7) 151 [.ref 0, .int b] (161, I, J, RF w) = some (some (.int (z_enc (s_few Td (2 ^ q)))), 161, I', J, RF w) ∧ ∀ x j, ¬ ((x = 106 ∧ j = 5) ∨ x = 109) → I' x j = I x j := by
  obtain ⟨I1, m, e1, u, hm⟩ := x_findUnlikeQ E d J w b n rb I hn h_n hR
  have t := x_few_s E d I1 J w b m q u.2.1 hm ((u.1 106 6 (by omega)).trans h_q) hq
  have e : (fun v => decide (∀ j, j < m → ¬ (I1 109 j &&& nI v) = 0)) = Td := by
    funext v
    have := u.2.2 (fun z => ¬ (z &&& nI v) = 0)
    rw [Bool.eq_iff_iff, decide_eq_true_eq, hT v]
    exact this
  rw [e] at t
  have f := z_call (E := E) (d := d + 5) (M := z_m51) (mid := 51) (as := [.ref 106, .int b]) rfl rfl (x_few_0 E d I J w b I1 e1 t)
  exact ⟨I1, z_call (d := d + 6) (M := z_m151) rfl rfl (x_chart_s E d I J w b _ I1 hb f), u.1⟩
