-- WORST
def s_most (T : Nat → Bool) (U : Nat → Int32) (n : Nat) : Option Nat := z_fo (fun k o => if T k then match o with | none => some k | some j => if U j < U k then some k else o else o) none n
theorem s_most_lt (T : Nat → Bool) (U : Nat → Int32) : ∀ n j, s_most T U n = some j → j < n
  | 0, _, h => by cases h
  | n + 1, j, h => by
    have ih := s_most_lt T U n
    change (if T n then match s_most T U n with | none => some n | some j => if U j < U n then some n else s_most T U n else s_most T U n) = some j at h
    revert h
    split
    · split
      · intro h; cases h; omega
      · rename_i q; split
        · intro h; cases h; omega
        · intro h; have := ih j h; omega
    · intro h; have := ih j h; omega
theorem s_most_keep {T : Nat → Bool} {U : Nat → Int32} {k : Nat} (h : ¬ T k = true) : s_most T U (k + 1) = s_most T U k := if_neg h
theorem s_most_new {T : Nat → Bool} {U : Nat → Int32} {k : Nat} (h : T k = true) (q : s_most T U k = none ∨ s_worth U (s_most T U k) < U k) : s_most T U (k + 1) = some k := by
  change (if T k then match s_most T U k with | none => some k | some j => if U j < U k then some k else s_most T U k else s_most T U k) = _
  rw [if_pos h]
  revert q
  cases s_most T U k with
  | none => intro _; rfl
  | some j => intro q; rcases q with q | q
              · cases q
              · exact if_pos q
theorem s_most_old {T : Nat → Bool} {U : Nat → Int32} {k : Nat} (h : T k = true) (e : s_most T U k ≠ none) (q : ¬ s_worth U (s_most T U k) < U k) : s_most T U (k + 1) = s_most T U k := by
  change (if T k then match s_most T U k with | none => some k | some j => if U j < U k then some k else s_most T U k else s_most T U k) = _
  rw [if_pos h]
  revert q e
  cases s_most T U k with
  | none => intro e _; exact absurd rfl e
  | some j => intro _ q; exact if_neg q
set_option maxRecDepth 20000 in
theorem x_wo_no (E : zE) (d : Nat) (I : Nat → Nat → Int32) (J : Nat → Nat → Int64) (w : Nat) {r : zR} (e x y k m : Nat) (b f g : Int32) (x8 : Option Value) (h_m : I 37 7 = nI m) (hm : m ≤ 20) (hk : k < m) (hT : ¬ ((b >>> (nI k &&& 31)) &&& 1) = 1) (hz : z_Ev E (d + 5) z_m147 57 [some (.ref 0), some (.int (nI e)), some (.int b), some (.int (nI x)), some (.int (nI y)), some (.int f), some (.int g), some (.int (nI (k + 1))), x8] [] 161 (I, J, RF w) r) : z_Ev E (d + 5) z_m147 57 [some (.ref 0), some (.int (nI e)), some (.int b), some (.int (nI x)), some (.int (nI y)), some (.int f), some (.int g), some (.int (nI k)), x8] [] 161 (I, J, RF w) r := by
  refine z_evG 4 (y := z_ret (z_cl E (d + 5) 107 [.ref 37] (161, (I, J, RF w))) 66 [some (.ref 0), some (.int (nI e)), some (.int b), some (.int (nI x)), some (.int (nI y)), some (.int f), some (.int g), some (.int (nI k)), x8] [.int (nI k)]) (fun _ => rfl) ?_
  refine z_evK (v := .int (I 37 7)) (z' := 161) (σ' := (I, J, RF w)) (x_things_size E (d + 4) I J w) ?_
  refine z_evG 1 (y := if (nI k) < (I 37 7) then z_go 69 [some (.ref 0), some (.int (nI e)), some (.int b), some (.int (nI x)), some (.int (nI y)), some (.int f), some (.int g), some (.int (nI k)), x8] [] 161 (I, J, RF w) else z_go 117 [some (.ref 0), some (.int (nI e)), some (.int b), some (.int (nI x)), some (.int (nI y)), some (.int f), some (.int g), some (.int (nI k)), x8] [] 161 (I, J, RF w)) (fun _ => rfl) ?_
  refine z_evT ((show _ ↔ k < m from z_ltN rfl h_m (by omega) (by omega)).mpr hk) ?_
  refine z_evL ?_
  refine z_evG 3 (y := z_ret (z_cl E (d + 5) 175 [.int b, .int (nI k)] (161, (I, J, RF w))) 75 [some (.ref 0), some (.int (nI e)), some (.int b), some (.int (nI x)), some (.int (nI y)), some (.int f), some (.int g), some (.int (nI k)), x8] []) (fun _ => rfl) ?_
  refine z_evK (v := .int (z_bo (((b >>> ((nI k) &&& 31)) &&& 1) = 1))) (z' := 161) (σ' := (I, J, RF w)) (x_isTold E (d + 4) I J w b (nI k)) ?_
  refine z_evG 1 (y := if (z_bo (((b >>> ((nI k) &&& 31)) &&& 1) = 1)) = 0 then z_go 111 [some (.ref 0), some (.int (nI e)), some (.int b), some (.int (nI x)), some (.int (nI y)), some (.int f), some (.int g), some (.int (nI k)), x8] [] 161 (I, J, RF w) else z_go 78 [some (.ref 0), some (.int (nI e)), some (.int b), some (.int (nI x)), some (.int (nI y)), some (.int f), some (.int g), some (.int (nI k)), x8] [] 161 (I, J, RF w)) (fun _ => rfl) ?_
  refine z_evT (z_bo_0.mpr hT) ?_
  refine z_evL ?_
  refine z_evG 2 (y := z_go 57 [some (.ref 0), some (.int (nI e)), some (.int b), some (.int (nI x)), some (.int (nI y)), some (.int f), some (.int g), some (.int ((nI k) + 1)), x8] [] 161 (I, J, RF w)) (fun _ => rfl) ?_
  refine z_evL ?_
  rw [nI_1 k]
  exact hz
set_option maxRecDepth 20000 in
theorem x_wo_first (E : zE) (d : Nat) (I : Nat → Nat → Int32) (J : Nat → Nat → Int64) (w : Nat) {r : zR} (e x y k m : Nat) (b f g : Int32) (x8 : Option Value) (v : Int32) (I1 : Nat → Nat → Int32) (h_m : I 37 7 = nI m) (hm : m ≤ 20) (hk : k < m) (hT : ((b >>> (nI k &&& 31)) &&& 1) = 1) (hv : z_cl E (d + 5) 166 [.ref 0, .int (nI e), .int (nI k), .int (nI x), .int (nI y)] (161, I, J, RF w) = some (some (.int v), 161, I1, J, RF w)) (hf : f = (-1)) (hz : z_Ev E (d + 5) z_m147 57 [some (.ref 0), some (.int (nI e)), some (.int b), some (.int (nI x)), some (.int (nI y)), some (.int (nI k)), some (.int v), some (.int (nI (k + 1))), some (.int v)] [] 161 (I1, J, RF w) r) : z_Ev E (d + 5) z_m147 57 [some (.ref 0), some (.int (nI e)), some (.int b), some (.int (nI x)), some (.int (nI y)), some (.int f), some (.int g), some (.int (nI k)), x8] [] 161 (I, J, RF w) r := by
  refine z_evG 4 (y := z_ret (z_cl E (d + 5) 107 [.ref 37] (161, (I, J, RF w))) 66 [some (.ref 0), some (.int (nI e)), some (.int b), some (.int (nI x)), some (.int (nI y)), some (.int f), some (.int g), some (.int (nI k)), x8] [.int (nI k)]) (fun _ => rfl) ?_
  refine z_evK (v := .int (I 37 7)) (z' := 161) (σ' := (I, J, RF w)) (x_things_size E (d + 4) I J w) ?_
  refine z_evG 1 (y := if (nI k) < (I 37 7) then z_go 69 [some (.ref 0), some (.int (nI e)), some (.int b), some (.int (nI x)), some (.int (nI y)), some (.int f), some (.int g), some (.int (nI k)), x8] [] 161 (I, J, RF w) else z_go 117 [some (.ref 0), some (.int (nI e)), some (.int b), some (.int (nI x)), some (.int (nI y)), some (.int f), some (.int g), some (.int (nI k)), x8] [] 161 (I, J, RF w)) (fun _ => rfl) ?_
  refine z_evT ((show _ ↔ k < m from z_ltN rfl h_m (by omega) (by omega)).mpr hk) ?_
  refine z_evL ?_
  refine z_evG 3 (y := z_ret (z_cl E (d + 5) 175 [.int b, .int (nI k)] (161, (I, J, RF w))) 75 [some (.ref 0), some (.int (nI e)), some (.int b), some (.int (nI x)), some (.int (nI y)), some (.int f), some (.int g), some (.int (nI k)), x8] []) (fun _ => rfl) ?_
  refine z_evK (v := .int (z_bo (((b >>> ((nI k) &&& 31)) &&& 1) = 1))) (z' := 161) (σ' := (I, J, RF w)) (x_isTold E (d + 4) I J w b (nI k)) ?_
  refine z_evG 1 (y := if (z_bo (((b >>> ((nI k) &&& 31)) &&& 1) = 1)) = 0 then z_go 111 [some (.ref 0), some (.int (nI e)), some (.int b), some (.int (nI x)), some (.int (nI y)), some (.int f), some (.int g), some (.int (nI k)), x8] [] 161 (I, J, RF w) else z_go 78 [some (.ref 0), some (.int (nI e)), some (.int b), some (.int (nI x)), some (.int (nI y)), some (.int f), some (.int g), some (.int (nI k)), x8] [] 161 (I, J, RF w)) (fun _ => rfl) ?_
  refine z_evF (fun q0 => z_bo_0.mp q0 hT) ?_
  refine z_evL ?_
  refine z_evG 6 (y := z_ret (z_cl E (d + 5) 166 [.ref 0, .int (nI e), .int (nI k), .int (nI x), .int (nI y)] (161, (I, J, RF w))) 88 [some (.ref 0), some (.int (nI e)), some (.int b), some (.int (nI x)), some (.int (nI y)), some (.int f), some (.int g), some (.int (nI k)), x8] []) (fun _ => rfl) ?_
  refine z_evK (v := .int v) (z' := 161) (σ' := (I1, J, RF w)) hv ?_
  refine z_evG 4 (y := if f = (-1) then z_go 103 [some (.ref 0), some (.int (nI e)), some (.int b), some (.int (nI x)), some (.int (nI y)), some (.int f), some (.int g), some (.int (nI k)), some (.int v)] [] 161 (I1, J, RF w) else z_go 96 [some (.ref 0), some (.int (nI e)), some (.int b), some (.int (nI x)), some (.int (nI y)), some (.int f), some (.int g), some (.int (nI k)), some (.int v)] [] 161 (I1, J, RF w)) (fun _ => rfl) ?_
  refine z_evT hf ?_
  refine z_evL ?_
  refine z_evG 6 (y := z_go 57 [some (.ref 0), some (.int (nI e)), some (.int b), some (.int (nI x)), some (.int (nI y)), some (.int (nI k)), some (.int v), some (.int ((nI k) + 1)), some (.int v)] [] 161 (I1, J, RF w)) (fun _ => rfl) ?_
  refine z_evL ?_
  rw [nI_1 k]
  exact hz
set_option maxRecDepth 20000 in
theorem x_wo_new (E : zE) (d : Nat) (I : Nat → Nat → Int32) (J : Nat → Nat → Int64) (w : Nat) {r : zR} (e x y k m : Nat) (b f g : Int32) (x8 : Option Value) (v : Int32) (I1 : Nat → Nat → Int32) (h_m : I 37 7 = nI m) (hm : m ≤ 20) (hk : k < m) (hT : ((b >>> (nI k &&& 31)) &&& 1) = 1) (hv : z_cl E (d + 5) 166 [.ref 0, .int (nI e), .int (nI k), .int (nI x), .int (nI y)] (161, I, J, RF w) = some (some (.int v), 161, I1, J, RF w)) (hf : ¬ f = (-1)) (hg : g < v) (hz : z_Ev E (d + 5) z_m147 57 [some (.ref 0), some (.int (nI e)), some (.int b), some (.int (nI x)), some (.int (nI y)), some (.int (nI k)), some (.int v), some (.int (nI (k + 1))), some (.int v)] [] 161 (I1, J, RF w) r) : z_Ev E (d + 5) z_m147 57 [some (.ref 0), some (.int (nI e)), some (.int b), some (.int (nI x)), some (.int (nI y)), some (.int f), some (.int g), some (.int (nI k)), x8] [] 161 (I, J, RF w) r := by
  refine z_evG 4 (y := z_ret (z_cl E (d + 5) 107 [.ref 37] (161, (I, J, RF w))) 66 [some (.ref 0), some (.int (nI e)), some (.int b), some (.int (nI x)), some (.int (nI y)), some (.int f), some (.int g), some (.int (nI k)), x8] [.int (nI k)]) (fun _ => rfl) ?_
  refine z_evK (v := .int (I 37 7)) (z' := 161) (σ' := (I, J, RF w)) (x_things_size E (d + 4) I J w) ?_
  refine z_evG 1 (y := if (nI k) < (I 37 7) then z_go 69 [some (.ref 0), some (.int (nI e)), some (.int b), some (.int (nI x)), some (.int (nI y)), some (.int f), some (.int g), some (.int (nI k)), x8] [] 161 (I, J, RF w) else z_go 117 [some (.ref 0), some (.int (nI e)), some (.int b), some (.int (nI x)), some (.int (nI y)), some (.int f), some (.int g), some (.int (nI k)), x8] [] 161 (I, J, RF w)) (fun _ => rfl) ?_
  refine z_evT ((show _ ↔ k < m from z_ltN rfl h_m (by omega) (by omega)).mpr hk) ?_
  refine z_evL ?_
  refine z_evG 3 (y := z_ret (z_cl E (d + 5) 175 [.int b, .int (nI k)] (161, (I, J, RF w))) 75 [some (.ref 0), some (.int (nI e)), some (.int b), some (.int (nI x)), some (.int (nI y)), some (.int f), some (.int g), some (.int (nI k)), x8] []) (fun _ => rfl) ?_
  refine z_evK (v := .int (z_bo (((b >>> ((nI k) &&& 31)) &&& 1) = 1))) (z' := 161) (σ' := (I, J, RF w)) (x_isTold E (d + 4) I J w b (nI k)) ?_
  refine z_evG 1 (y := if (z_bo (((b >>> ((nI k) &&& 31)) &&& 1) = 1)) = 0 then z_go 111 [some (.ref 0), some (.int (nI e)), some (.int b), some (.int (nI x)), some (.int (nI y)), some (.int f), some (.int g), some (.int (nI k)), x8] [] 161 (I, J, RF w) else z_go 78 [some (.ref 0), some (.int (nI e)), some (.int b), some (.int (nI x)), some (.int (nI y)), some (.int f), some (.int g), some (.int (nI k)), x8] [] 161 (I, J, RF w)) (fun _ => rfl) ?_
  refine z_evF (fun q0 => z_bo_0.mp q0 hT) ?_
  refine z_evL ?_
  refine z_evG 6 (y := z_ret (z_cl E (d + 5) 166 [.ref 0, .int (nI e), .int (nI k), .int (nI x), .int (nI y)] (161, (I, J, RF w))) 88 [some (.ref 0), some (.int (nI e)), some (.int b), some (.int (nI x)), some (.int (nI y)), some (.int f), some (.int g), some (.int (nI k)), x8] []) (fun _ => rfl) ?_
  refine z_evK (v := .int v) (z' := 161) (σ' := (I1, J, RF w)) hv ?_
  refine z_evG 4 (y := if f = (-1) then z_go 103 [some (.ref 0), some (.int (nI e)), some (.int b), some (.int (nI x)), some (.int (nI y)), some (.int f), some (.int g), some (.int (nI k)), some (.int v)] [] 161 (I1, J, RF w) else z_go 96 [some (.ref 0), some (.int (nI e)), some (.int b), some (.int (nI x)), some (.int (nI y)), some (.int f), some (.int g), some (.int (nI k)), some (.int v)] [] 161 (I1, J, RF w)) (fun _ => rfl) ?_
  refine z_evF hf ?_
  refine z_evL ?_
  refine z_evG 3 (y := if g < v then z_go 103 [some (.ref 0), some (.int (nI e)), some (.int b), some (.int (nI x)), some (.int (nI y)), some (.int f), some (.int g), some (.int (nI k)), some (.int v)] [] 161 (I1, J, RF w) else z_go 111 [some (.ref 0), some (.int (nI e)), some (.int b), some (.int (nI x)), some (.int (nI y)), some (.int f), some (.int g), some (.int (nI k)), some (.int v)] [] 161 (I1, J, RF w)) (fun _ => rfl) ?_
  refine z_evT hg ?_
  refine z_evL ?_
  refine z_evG 6 (y := z_go 57 [some (.ref 0), some (.int (nI e)), some (.int b), some (.int (nI x)), some (.int (nI y)), some (.int (nI k)), some (.int v), some (.int ((nI k) + 1)), some (.int v)] [] 161 (I1, J, RF w)) (fun _ => rfl) ?_
  refine z_evL ?_
  rw [nI_1 k]
  exact hz
set_option maxRecDepth 20000 in
theorem x_wo_old (E : zE) (d : Nat) (I : Nat → Nat → Int32) (J : Nat → Nat → Int64) (w : Nat) {r : zR} (e x y k m : Nat) (b f g : Int32) (x8 : Option Value) (v : Int32) (I1 : Nat → Nat → Int32) (h_m : I 37 7 = nI m) (hm : m ≤ 20) (hk : k < m) (hT : ((b >>> (nI k &&& 31)) &&& 1) = 1) (hv : z_cl E (d + 5) 166 [.ref 0, .int (nI e), .int (nI k), .int (nI x), .int (nI y)] (161, I, J, RF w) = some (some (.int v), 161, I1, J, RF w)) (hf : ¬ f = (-1)) (hg : ¬ g < v) (hz : z_Ev E (d + 5) z_m147 57 [some (.ref 0), some (.int (nI e)), some (.int b), some (.int (nI x)), some (.int (nI y)), some (.int f), some (.int g), some (.int (nI (k + 1))), some (.int v)] [] 161 (I1, J, RF w) r) : z_Ev E (d + 5) z_m147 57 [some (.ref 0), some (.int (nI e)), some (.int b), some (.int (nI x)), some (.int (nI y)), some (.int f), some (.int g), some (.int (nI k)), x8] [] 161 (I, J, RF w) r := by
  refine z_evG 4 (y := z_ret (z_cl E (d + 5) 107 [.ref 37] (161, (I, J, RF w))) 66 [some (.ref 0), some (.int (nI e)), some (.int b), some (.int (nI x)), some (.int (nI y)), some (.int f), some (.int g), some (.int (nI k)), x8] [.int (nI k)]) (fun _ => rfl) ?_
  refine z_evK (v := .int (I 37 7)) (z' := 161) (σ' := (I, J, RF w)) (x_things_size E (d + 4) I J w) ?_
  refine z_evG 1 (y := if (nI k) < (I 37 7) then z_go 69 [some (.ref 0), some (.int (nI e)), some (.int b), some (.int (nI x)), some (.int (nI y)), some (.int f), some (.int g), some (.int (nI k)), x8] [] 161 (I, J, RF w) else z_go 117 [some (.ref 0), some (.int (nI e)), some (.int b), some (.int (nI x)), some (.int (nI y)), some (.int f), some (.int g), some (.int (nI k)), x8] [] 161 (I, J, RF w)) (fun _ => rfl) ?_
  refine z_evT ((show _ ↔ k < m from z_ltN rfl h_m (by omega) (by omega)).mpr hk) ?_
  refine z_evL ?_
  refine z_evG 3 (y := z_ret (z_cl E (d + 5) 175 [.int b, .int (nI k)] (161, (I, J, RF w))) 75 [some (.ref 0), some (.int (nI e)), some (.int b), some (.int (nI x)), some (.int (nI y)), some (.int f), some (.int g), some (.int (nI k)), x8] []) (fun _ => rfl) ?_
  refine z_evK (v := .int (z_bo (((b >>> ((nI k) &&& 31)) &&& 1) = 1))) (z' := 161) (σ' := (I, J, RF w)) (x_isTold E (d + 4) I J w b (nI k)) ?_
  refine z_evG 1 (y := if (z_bo (((b >>> ((nI k) &&& 31)) &&& 1) = 1)) = 0 then z_go 111 [some (.ref 0), some (.int (nI e)), some (.int b), some (.int (nI x)), some (.int (nI y)), some (.int f), some (.int g), some (.int (nI k)), x8] [] 161 (I, J, RF w) else z_go 78 [some (.ref 0), some (.int (nI e)), some (.int b), some (.int (nI x)), some (.int (nI y)), some (.int f), some (.int g), some (.int (nI k)), x8] [] 161 (I, J, RF w)) (fun _ => rfl) ?_
  refine z_evF (fun q0 => z_bo_0.mp q0 hT) ?_
  refine z_evL ?_
  refine z_evG 6 (y := z_ret (z_cl E (d + 5) 166 [.ref 0, .int (nI e), .int (nI k), .int (nI x), .int (nI y)] (161, (I, J, RF w))) 88 [some (.ref 0), some (.int (nI e)), some (.int b), some (.int (nI x)), some (.int (nI y)), some (.int f), some (.int g), some (.int (nI k)), x8] []) (fun _ => rfl) ?_
  refine z_evK (v := .int v) (z' := 161) (σ' := (I1, J, RF w)) hv ?_
  refine z_evG 4 (y := if f = (-1) then z_go 103 [some (.ref 0), some (.int (nI e)), some (.int b), some (.int (nI x)), some (.int (nI y)), some (.int f), some (.int g), some (.int (nI k)), some (.int v)] [] 161 (I1, J, RF w) else z_go 96 [some (.ref 0), some (.int (nI e)), some (.int b), some (.int (nI x)), some (.int (nI y)), some (.int f), some (.int g), some (.int (nI k)), some (.int v)] [] 161 (I1, J, RF w)) (fun _ => rfl) ?_
  refine z_evF hf ?_
  refine z_evL ?_
  refine z_evG 3 (y := if g < v then z_go 103 [some (.ref 0), some (.int (nI e)), some (.int b), some (.int (nI x)), some (.int (nI y)), some (.int f), some (.int g), some (.int (nI k)), some (.int v)] [] 161 (I1, J, RF w) else z_go 111 [some (.ref 0), some (.int (nI e)), some (.int b), some (.int (nI x)), some (.int (nI y)), some (.int f), some (.int g), some (.int (nI k)), some (.int v)] [] 161 (I1, J, RF w)) (fun _ => rfl) ?_
  refine z_evF hg ?_
  refine z_evL ?_
  refine z_evG 2 (y := z_go 57 [some (.ref 0), some (.int (nI e)), some (.int b), some (.int (nI x)), some (.int (nI y)), some (.int f), some (.int g), some (.int ((nI k) + 1)), some (.int v)] [] 161 (I1, J, RF w)) (fun _ => rfl) ?_
  refine z_evL ?_
  rw [nI_1 k]
  exact hz
set_option maxRecDepth 20000 in
theorem x_wo_end (E : zE) (d : Nat) (I : Nat → Nat → Int32) (J : Nat → Nat → Int64) (w : Nat) (e x y k m : Nat) (b f g : Int32) (x8 : Option Value) (h_m : I 37 7 = nI m) (hm : m ≤ 20) (hk : k = m) : z_Ev E (d + 5) z_m147 57 [some (.ref 0), some (.int (nI e)), some (.int b), some (.int (nI x)), some (.int (nI y)), some (.int f), some (.int g), some (.int (nI k)), x8] [] 161 (I, J, RF w) (some (.int f), 161, I, J, RF w) := by
  refine z_evG 4 (y := z_ret (z_cl E (d + 5) 107 [.ref 37] (161, (I, J, RF w))) 66 [some (.ref 0), some (.int (nI e)), some (.int b), some (.int (nI x)), some (.int (nI y)), some (.int f), some (.int g), some (.int (nI k)), x8] [.int (nI k)]) (fun _ => rfl) ?_
  refine z_evK (v := .int (I 37 7)) (z' := 161) (σ' := (I, J, RF w)) (x_things_size E (d + 4) I J w) ?_
  refine z_evG 1 (y := if (nI k) < (I 37 7) then z_go 69 [some (.ref 0), some (.int (nI e)), some (.int b), some (.int (nI x)), some (.int (nI y)), some (.int f), some (.int g), some (.int (nI k)), x8] [] 161 (I, J, RF w) else z_go 117 [some (.ref 0), some (.int (nI e)), some (.int b), some (.int (nI x)), some (.int (nI y)), some (.int f), some (.int g), some (.int (nI k)), x8] [] 161 (I, J, RF w)) (fun _ => rfl) ?_
  refine z_evF (mt (show _ ↔ k < m from z_ltN rfl h_m (by omega) (by omega)).mp (by omega)) ?_
  refine z_evL ?_
  refine z_evG 2 (y := some (.inr (some (.int f), 161, I, J, RF w))) (fun _ => rfl) ?_
  exact z_evR rfl
theorem x_woQ (E : zE) (d : Nat) (J : Nat → Nat → Int64) (w : Nat) (e x y m : Nat) (b : Int32) (U : Nat → Int32) (Sc : Nat → Nat → Prop) (I0 : Nat → Nat → Int32) (hm : m ≤ 20) (h_m : I0 37 7 = nI m) (hS : ¬ Sc 37 7) (hv : ∀ I k, (∀ a j, ¬ Sc a j → I a j = I0 a j) → k < m → ((b >>> (nI k &&& 31)) &&& 1) = 1 → ∃ I', z_cl E (d + 5) 166 [.ref 0, .int (nI e), .int (nI k), .int (nI x), .int (nI y)] (161, I, J, RF w) = some (some (.int (U k)), 161, I', J, RF w) ∧ ∀ a j, ¬ Sc a j → I' a j = I0 a j) : ∀ n k x8 I, k + n = m → (∀ a j, ¬ Sc a j → I a j = I0 a j) → ∃ I', z_Ev E (d + 5) z_m147 57 [some (.ref 0), some (.int (nI e)), some (.int b), some (.int (nI x)), some (.int (nI y)), some (.int (z_enc (s_most (fun k => decide (((b >>> (nI k &&& 31)) &&& 1) = 1)) U k))), some (.int (s_worth U (s_most (fun k => decide (((b >>> (nI k &&& 31)) &&& 1) = 1)) U k))), some (.int (nI k)), x8] [] 161 (I, J, RF w) (some (.int (z_enc (s_most (fun k => decide (((b >>> (nI k &&& 31)) &&& 1) = 1)) U m))), 161, I', J, RF w) ∧ ∀ a j, ¬ Sc a j → I' a j = I0 a j
  | 0, k, x8, I, hk, hI => by
    have e1 : k = m := hk
    have t := x_wo_end E d I J w e x y k m b (z_enc (s_most (fun k => decide (((b >>> (nI k &&& 31)) &&& 1) = 1)) U k)) (s_worth U (s_most (fun k => decide (((b >>> (nI k &&& 31)) &&& 1) = 1)) U k)) x8 ((hI _ _ hS).trans h_m) hm e1
    subst e1
    exact ⟨I, t, hI⟩
  | n + 1, k, x8, I, hk, hI => by
    have sz : I 37 7 = nI m := (hI _ _ hS).trans h_m
    have hkm : k < m := by omega
    by_cases hT : ((b >>> (nI k &&& 31)) &&& 1) = 1
    · obtain ⟨I1, e1, s1⟩ := hv I k hI hkm hT
      have hT' : (fun k => decide (((b >>> (nI k &&& 31)) &&& 1) = 1)) k = true := decide_eq_true hT
      have lt31 : ∀ j, s_most (fun k => decide (((b >>> (nI k &&& 31)) &&& 1) = 1)) U k = some j → j < 2 ^ 31 := fun j e => by have := s_most_lt _ _ _ _ e; omega
      obtain ⟨I', e2, s2⟩ := x_woQ E d J w e x y m b U Sc I0 hm h_m hS hv n (k + 1) (some (.int (U k))) I1 (by omega) s1
      by_cases hf : s_most (fun k => decide (((b >>> (nI k &&& 31)) &&& 1) = 1)) U k = none
      · rw [s_most_new hT' (.inl hf)] at e2
        exact ⟨I', x_wo_first E d I J w e x y k m b _ _ x8 (U k) I1 sz hm hkm hT e1 ((z_enc_none lt31).mpr hf) e2, s2⟩
      · have hf' : ¬ z_enc (s_most (fun k => decide (((b >>> (nI k &&& 31)) &&& 1) = 1)) U k) = (-1) := fun q => hf ((z_enc_none lt31).mp q)
        by_cases hg : s_worth U (s_most (fun k => decide (((b >>> (nI k &&& 31)) &&& 1) = 1)) U k) < U k
        · rw [s_most_new hT' (.inr hg)] at e2
          exact ⟨I', x_wo_new E d I J w e x y k m b _ _ x8 (U k) I1 sz hm hkm hT e1 hf' hg e2, s2⟩
        · rw [s_most_old hT' hf hg] at e2
          exact ⟨I', x_wo_old E d I J w e x y k m b _ _ x8 (U k) I1 sz hm hkm hT e1 hf' hg e2, s2⟩
    · obtain ⟨I', e2, s2⟩ := x_woQ E d J w e x y m b U Sc I0 hm h_m hS hv n (k + 1) x8 I (by omega) hI
      rw [s_most_keep (fun q => hT (of_decide_eq_true q))] at e2
      exact ⟨I', x_wo_no E d I J w e x y k m b _ _ x8 sz hm hkm hT e2, s2⟩
set_option maxRecDepth 20000 in
theorem m_wo_no (E : zE) (d : Nat) (I : Nat → Nat → Int32) (J : Nat → Nat → Int64) (w : Nat) {r : zR} (e x y k m : Nat) (b f g : Int32) (x8 : Option Value) (h_m : I 127 3 = nI m) (hm : m ≤ 20) (hk : k < m) (hT : ¬ ((b >>> (nI k &&& 31)) &&& 1) = 1) (hz : z_Ev E (d + 7) z_m224 51 [some (.ref 127), some (.int (nI e)), some (.int b), some (.int (nI x)), some (.int (nI y)), some (.int f), some (.int g), some (.int (nI (k + 1))), x8] [] 161 (I, J, RF w) r) : z_Ev E (d + 7) z_m224 51 [some (.ref 127), some (.int (nI e)), some (.int b), some (.int (nI x)), some (.int (nI y)), some (.int f), some (.int g), some (.int (nI k)), x8] [] 161 (I, J, RF w) r := by
  refine z_evG 4 (y := if (nI k) < (I 127 3) then z_go 60 [some (.ref 127), some (.int (nI e)), some (.int b), some (.int (nI x)), some (.int (nI y)), some (.int f), some (.int g), some (.int (nI k)), x8] [] 161 (I, J, RF w) else z_go 109 [some (.ref 127), some (.int (nI e)), some (.int b), some (.int (nI x)), some (.int (nI y)), some (.int f), some (.int g), some (.int (nI k)), x8] [] 161 (I, J, RF w)) (fun _ => rfl) ?_
  refine z_evT ((show _ ↔ k < m from z_ltN rfl h_m (by omega) (by omega)).mpr hk) ?_
  refine z_evL ?_
  refine z_evG 7 (y := if ((b >>> ((nI k) &&& 31)) &&& 1) = 1 then z_go 70 [some (.ref 127), some (.int (nI e)), some (.int b), some (.int (nI x)), some (.int (nI y)), some (.int f), some (.int g), some (.int (nI k)), x8] [] 161 (I, J, RF w) else z_go 103 [some (.ref 127), some (.int (nI e)), some (.int b), some (.int (nI x)), some (.int (nI y)), some (.int f), some (.int g), some (.int (nI k)), x8] [] 161 (I, J, RF w)) (fun _ => rfl) ?_
  refine z_evF hT ?_
  refine z_evL ?_
  refine z_evG 2 (y := z_go 51 [some (.ref 127), some (.int (nI e)), some (.int b), some (.int (nI x)), some (.int (nI y)), some (.int f), some (.int g), some (.int ((nI k) + 1)), x8] [] 161 (I, J, RF w)) (fun _ => rfl) ?_
  refine z_evL ?_
  rw [nI_1 k]
  exact hz
set_option maxRecDepth 20000 in
theorem m_wo_first (E : zE) (d : Nat) (I : Nat → Nat → Int32) (J : Nat → Nat → Int64) (w : Nat) {r : zR} (e x y k m : Nat) (b f g : Int32) (x8 : Option Value) (v : Int32) (I1 : Nat → Nat → Int32) (h_m : I 127 3 = nI m) (hm : m ≤ 20) (hk : k < m) (hT : ((b >>> (nI k &&& 31)) &&& 1) = 1) (hv : z_cl E (d + 7) 221 [.ref 127, .int (nI e), .int (nI k), .int (nI x), .int (nI y)] (161, I, J, RF w) = some (some (.int v), 161, I1, J, RF w)) (hf : f = (-1)) (hz : z_Ev E (d + 7) z_m224 51 [some (.ref 127), some (.int (nI e)), some (.int b), some (.int (nI x)), some (.int (nI y)), some (.int (nI k)), some (.int v), some (.int (nI (k + 1))), some (.int v)] [] 161 (I1, J, RF w) r) : z_Ev E (d + 7) z_m224 51 [some (.ref 127), some (.int (nI e)), some (.int b), some (.int (nI x)), some (.int (nI y)), some (.int f), some (.int g), some (.int (nI k)), x8] [] 161 (I, J, RF w) r := by
  refine z_evG 4 (y := if (nI k) < (I 127 3) then z_go 60 [some (.ref 127), some (.int (nI e)), some (.int b), some (.int (nI x)), some (.int (nI y)), some (.int f), some (.int g), some (.int (nI k)), x8] [] 161 (I, J, RF w) else z_go 109 [some (.ref 127), some (.int (nI e)), some (.int b), some (.int (nI x)), some (.int (nI y)), some (.int f), some (.int g), some (.int (nI k)), x8] [] 161 (I, J, RF w)) (fun _ => rfl) ?_
  refine z_evT ((show _ ↔ k < m from z_ltN rfl h_m (by omega) (by omega)).mpr hk) ?_
  refine z_evL ?_
  refine z_evG 7 (y := if ((b >>> ((nI k) &&& 31)) &&& 1) = 1 then z_go 70 [some (.ref 127), some (.int (nI e)), some (.int b), some (.int (nI x)), some (.int (nI y)), some (.int f), some (.int g), some (.int (nI k)), x8] [] 161 (I, J, RF w) else z_go 103 [some (.ref 127), some (.int (nI e)), some (.int b), some (.int (nI x)), some (.int (nI y)), some (.int f), some (.int g), some (.int (nI k)), x8] [] 161 (I, J, RF w)) (fun _ => rfl) ?_
  refine z_evT hT ?_
  refine z_evL ?_
  refine z_evG 6 (y := z_ret (z_cl E (d + 7) 221 [.ref 127, .int (nI e), .int (nI k), .int (nI x), .int (nI y)] (161, (I, J, RF w))) 80 [some (.ref 127), some (.int (nI e)), some (.int b), some (.int (nI x)), some (.int (nI y)), some (.int f), some (.int g), some (.int (nI k)), x8] []) (fun _ => rfl) ?_
  refine z_evK (v := .int v) (z' := 161) (σ' := (I1, J, RF w)) hv ?_
  refine z_evG 4 (y := if f = (-1) then z_go 95 [some (.ref 127), some (.int (nI e)), some (.int b), some (.int (nI x)), some (.int (nI y)), some (.int f), some (.int g), some (.int (nI k)), some (.int v)] [] 161 (I1, J, RF w) else z_go 88 [some (.ref 127), some (.int (nI e)), some (.int b), some (.int (nI x)), some (.int (nI y)), some (.int f), some (.int g), some (.int (nI k)), some (.int v)] [] 161 (I1, J, RF w)) (fun _ => rfl) ?_
  refine z_evT hf ?_
  refine z_evL ?_
  refine z_evG 6 (y := z_go 51 [some (.ref 127), some (.int (nI e)), some (.int b), some (.int (nI x)), some (.int (nI y)), some (.int (nI k)), some (.int v), some (.int ((nI k) + 1)), some (.int v)] [] 161 (I1, J, RF w)) (fun _ => rfl) ?_
  refine z_evL ?_
  rw [nI_1 k]
  exact hz
set_option maxRecDepth 20000 in
theorem m_wo_new (E : zE) (d : Nat) (I : Nat → Nat → Int32) (J : Nat → Nat → Int64) (w : Nat) {r : zR} (e x y k m : Nat) (b f g : Int32) (x8 : Option Value) (v : Int32) (I1 : Nat → Nat → Int32) (h_m : I 127 3 = nI m) (hm : m ≤ 20) (hk : k < m) (hT : ((b >>> (nI k &&& 31)) &&& 1) = 1) (hv : z_cl E (d + 7) 221 [.ref 127, .int (nI e), .int (nI k), .int (nI x), .int (nI y)] (161, I, J, RF w) = some (some (.int v), 161, I1, J, RF w)) (hf : ¬ f = (-1)) (hg : g < v) (hz : z_Ev E (d + 7) z_m224 51 [some (.ref 127), some (.int (nI e)), some (.int b), some (.int (nI x)), some (.int (nI y)), some (.int (nI k)), some (.int v), some (.int (nI (k + 1))), some (.int v)] [] 161 (I1, J, RF w) r) : z_Ev E (d + 7) z_m224 51 [some (.ref 127), some (.int (nI e)), some (.int b), some (.int (nI x)), some (.int (nI y)), some (.int f), some (.int g), some (.int (nI k)), x8] [] 161 (I, J, RF w) r := by
  refine z_evG 4 (y := if (nI k) < (I 127 3) then z_go 60 [some (.ref 127), some (.int (nI e)), some (.int b), some (.int (nI x)), some (.int (nI y)), some (.int f), some (.int g), some (.int (nI k)), x8] [] 161 (I, J, RF w) else z_go 109 [some (.ref 127), some (.int (nI e)), some (.int b), some (.int (nI x)), some (.int (nI y)), some (.int f), some (.int g), some (.int (nI k)), x8] [] 161 (I, J, RF w)) (fun _ => rfl) ?_
  refine z_evT ((show _ ↔ k < m from z_ltN rfl h_m (by omega) (by omega)).mpr hk) ?_
  refine z_evL ?_
  refine z_evG 7 (y := if ((b >>> ((nI k) &&& 31)) &&& 1) = 1 then z_go 70 [some (.ref 127), some (.int (nI e)), some (.int b), some (.int (nI x)), some (.int (nI y)), some (.int f), some (.int g), some (.int (nI k)), x8] [] 161 (I, J, RF w) else z_go 103 [some (.ref 127), some (.int (nI e)), some (.int b), some (.int (nI x)), some (.int (nI y)), some (.int f), some (.int g), some (.int (nI k)), x8] [] 161 (I, J, RF w)) (fun _ => rfl) ?_
  refine z_evT hT ?_
  refine z_evL ?_
  refine z_evG 6 (y := z_ret (z_cl E (d + 7) 221 [.ref 127, .int (nI e), .int (nI k), .int (nI x), .int (nI y)] (161, (I, J, RF w))) 80 [some (.ref 127), some (.int (nI e)), some (.int b), some (.int (nI x)), some (.int (nI y)), some (.int f), some (.int g), some (.int (nI k)), x8] []) (fun _ => rfl) ?_
  refine z_evK (v := .int v) (z' := 161) (σ' := (I1, J, RF w)) hv ?_
  refine z_evG 4 (y := if f = (-1) then z_go 95 [some (.ref 127), some (.int (nI e)), some (.int b), some (.int (nI x)), some (.int (nI y)), some (.int f), some (.int g), some (.int (nI k)), some (.int v)] [] 161 (I1, J, RF w) else z_go 88 [some (.ref 127), some (.int (nI e)), some (.int b), some (.int (nI x)), some (.int (nI y)), some (.int f), some (.int g), some (.int (nI k)), some (.int v)] [] 161 (I1, J, RF w)) (fun _ => rfl) ?_
  refine z_evF hf ?_
  refine z_evL ?_
  refine z_evG 3 (y := if g < v then z_go 95 [some (.ref 127), some (.int (nI e)), some (.int b), some (.int (nI x)), some (.int (nI y)), some (.int f), some (.int g), some (.int (nI k)), some (.int v)] [] 161 (I1, J, RF w) else z_go 103 [some (.ref 127), some (.int (nI e)), some (.int b), some (.int (nI x)), some (.int (nI y)), some (.int f), some (.int g), some (.int (nI k)), some (.int v)] [] 161 (I1, J, RF w)) (fun _ => rfl) ?_
  refine z_evT hg ?_
  refine z_evL ?_
  refine z_evG 6 (y := z_go 51 [some (.ref 127), some (.int (nI e)), some (.int b), some (.int (nI x)), some (.int (nI y)), some (.int (nI k)), some (.int v), some (.int ((nI k) + 1)), some (.int v)] [] 161 (I1, J, RF w)) (fun _ => rfl) ?_
  refine z_evL ?_
  rw [nI_1 k]
  exact hz
set_option maxRecDepth 20000 in
theorem m_wo_old (E : zE) (d : Nat) (I : Nat → Nat → Int32) (J : Nat → Nat → Int64) (w : Nat) {r : zR} (e x y k m : Nat) (b f g : Int32) (x8 : Option Value) (v : Int32) (I1 : Nat → Nat → Int32) (h_m : I 127 3 = nI m) (hm : m ≤ 20) (hk : k < m) (hT : ((b >>> (nI k &&& 31)) &&& 1) = 1) (hv : z_cl E (d + 7) 221 [.ref 127, .int (nI e), .int (nI k), .int (nI x), .int (nI y)] (161, I, J, RF w) = some (some (.int v), 161, I1, J, RF w)) (hf : ¬ f = (-1)) (hg : ¬ g < v) (hz : z_Ev E (d + 7) z_m224 51 [some (.ref 127), some (.int (nI e)), some (.int b), some (.int (nI x)), some (.int (nI y)), some (.int f), some (.int g), some (.int (nI (k + 1))), some (.int v)] [] 161 (I1, J, RF w) r) : z_Ev E (d + 7) z_m224 51 [some (.ref 127), some (.int (nI e)), some (.int b), some (.int (nI x)), some (.int (nI y)), some (.int f), some (.int g), some (.int (nI k)), x8] [] 161 (I, J, RF w) r := by
  refine z_evG 4 (y := if (nI k) < (I 127 3) then z_go 60 [some (.ref 127), some (.int (nI e)), some (.int b), some (.int (nI x)), some (.int (nI y)), some (.int f), some (.int g), some (.int (nI k)), x8] [] 161 (I, J, RF w) else z_go 109 [some (.ref 127), some (.int (nI e)), some (.int b), some (.int (nI x)), some (.int (nI y)), some (.int f), some (.int g), some (.int (nI k)), x8] [] 161 (I, J, RF w)) (fun _ => rfl) ?_
  refine z_evT ((show _ ↔ k < m from z_ltN rfl h_m (by omega) (by omega)).mpr hk) ?_
  refine z_evL ?_
  refine z_evG 7 (y := if ((b >>> ((nI k) &&& 31)) &&& 1) = 1 then z_go 70 [some (.ref 127), some (.int (nI e)), some (.int b), some (.int (nI x)), some (.int (nI y)), some (.int f), some (.int g), some (.int (nI k)), x8] [] 161 (I, J, RF w) else z_go 103 [some (.ref 127), some (.int (nI e)), some (.int b), some (.int (nI x)), some (.int (nI y)), some (.int f), some (.int g), some (.int (nI k)), x8] [] 161 (I, J, RF w)) (fun _ => rfl) ?_
  refine z_evT hT ?_
  refine z_evL ?_
  refine z_evG 6 (y := z_ret (z_cl E (d + 7) 221 [.ref 127, .int (nI e), .int (nI k), .int (nI x), .int (nI y)] (161, (I, J, RF w))) 80 [some (.ref 127), some (.int (nI e)), some (.int b), some (.int (nI x)), some (.int (nI y)), some (.int f), some (.int g), some (.int (nI k)), x8] []) (fun _ => rfl) ?_
  refine z_evK (v := .int v) (z' := 161) (σ' := (I1, J, RF w)) hv ?_
  refine z_evG 4 (y := if f = (-1) then z_go 95 [some (.ref 127), some (.int (nI e)), some (.int b), some (.int (nI x)), some (.int (nI y)), some (.int f), some (.int g), some (.int (nI k)), some (.int v)] [] 161 (I1, J, RF w) else z_go 88 [some (.ref 127), some (.int (nI e)), some (.int b), some (.int (nI x)), some (.int (nI y)), some (.int f), some (.int g), some (.int (nI k)), some (.int v)] [] 161 (I1, J, RF w)) (fun _ => rfl) ?_
  refine z_evF hf ?_
  refine z_evL ?_
  refine z_evG 3 (y := if g < v then z_go 95 [some (.ref 127), some (.int (nI e)), some (.int b), some (.int (nI x)), some (.int (nI y)), some (.int f), some (.int g), some (.int (nI k)), some (.int v)] [] 161 (I1, J, RF w) else z_go 103 [some (.ref 127), some (.int (nI e)), some (.int b), some (.int (nI x)), some (.int (nI y)), some (.int f), some (.int g), some (.int (nI k)), some (.int v)] [] 161 (I1, J, RF w)) (fun _ => rfl) ?_
  refine z_evF hg ?_
  refine z_evL ?_
  refine z_evG 2 (y := z_go 51 [some (.ref 127), some (.int (nI e)), some (.int b), some (.int (nI x)), some (.int (nI y)), some (.int f), some (.int g), some (.int ((nI k) + 1)), some (.int v)] [] 161 (I1, J, RF w)) (fun _ => rfl) ?_
  refine z_evL ?_
  rw [nI_1 k]
  exact hz
set_option maxRecDepth 20000 in
theorem m_wo_end (E : zE) (d : Nat) (I : Nat → Nat → Int32) (J : Nat → Nat → Int64) (w : Nat) (e x y k m : Nat) (b f g : Int32) (x8 : Option Value) (h_m : I 127 3 = nI m) (hm : m ≤ 20) (hk : k = m) : z_Ev E (d + 7) z_m224 51 [some (.ref 127), some (.int (nI e)), some (.int b), some (.int (nI x)), some (.int (nI y)), some (.int f), some (.int g), some (.int (nI k)), x8] [] 161 (I, J, RF w) (some (.int f), 161, I, J, RF w) := by
  refine z_evG 4 (y := if (nI k) < (I 127 3) then z_go 60 [some (.ref 127), some (.int (nI e)), some (.int b), some (.int (nI x)), some (.int (nI y)), some (.int f), some (.int g), some (.int (nI k)), x8] [] 161 (I, J, RF w) else z_go 109 [some (.ref 127), some (.int (nI e)), some (.int b), some (.int (nI x)), some (.int (nI y)), some (.int f), some (.int g), some (.int (nI k)), x8] [] 161 (I, J, RF w)) (fun _ => rfl) ?_
  refine z_evF (mt (show _ ↔ k < m from z_ltN rfl h_m (by omega) (by omega)).mp (by omega)) ?_
  refine z_evL ?_
  refine z_evG 2 (y := some (.inr (some (.int f), 161, I, J, RF w))) (fun _ => rfl) ?_
  exact z_evR rfl
theorem m_woQ (E : zE) (d : Nat) (J : Nat → Nat → Int64) (w : Nat) (e x y m : Nat) (b : Int32) (U : Nat → Int32) (Sc : Nat → Nat → Prop) (I0 : Nat → Nat → Int32) (hm : m ≤ 20) (h_m : I0 127 3 = nI m) (hS : ¬ Sc 127 3) (hv : ∀ I k, (∀ a j, ¬ Sc a j → I a j = I0 a j) → k < m → ((b >>> (nI k &&& 31)) &&& 1) = 1 → ∃ I', z_cl E (d + 7) 221 [.ref 127, .int (nI e), .int (nI k), .int (nI x), .int (nI y)] (161, I, J, RF w) = some (some (.int (U k)), 161, I', J, RF w) ∧ ∀ a j, ¬ Sc a j → I' a j = I0 a j) : ∀ n k x8 I, k + n = m → (∀ a j, ¬ Sc a j → I a j = I0 a j) → ∃ I', z_Ev E (d + 7) z_m224 51 [some (.ref 127), some (.int (nI e)), some (.int b), some (.int (nI x)), some (.int (nI y)), some (.int (z_enc (s_most (fun k => decide (((b >>> (nI k &&& 31)) &&& 1) = 1)) U k))), some (.int (s_worth U (s_most (fun k => decide (((b >>> (nI k &&& 31)) &&& 1) = 1)) U k))), some (.int (nI k)), x8] [] 161 (I, J, RF w) (some (.int (z_enc (s_most (fun k => decide (((b >>> (nI k &&& 31)) &&& 1) = 1)) U m))), 161, I', J, RF w) ∧ ∀ a j, ¬ Sc a j → I' a j = I0 a j
  | 0, k, x8, I, hk, hI => by
    have e1 : k = m := hk
    have t := m_wo_end E d I J w e x y k m b (z_enc (s_most (fun k => decide (((b >>> (nI k &&& 31)) &&& 1) = 1)) U k)) (s_worth U (s_most (fun k => decide (((b >>> (nI k &&& 31)) &&& 1) = 1)) U k)) x8 ((hI _ _ hS).trans h_m) hm e1
    subst e1
    exact ⟨I, t, hI⟩
  | n + 1, k, x8, I, hk, hI => by
    have sz : I 127 3 = nI m := (hI _ _ hS).trans h_m
    have hkm : k < m := by omega
    by_cases hT : ((b >>> (nI k &&& 31)) &&& 1) = 1
    · obtain ⟨I1, e1, s1⟩ := hv I k hI hkm hT
      have hT' : (fun k => decide (((b >>> (nI k &&& 31)) &&& 1) = 1)) k = true := decide_eq_true hT
      have lt31 : ∀ j, s_most (fun k => decide (((b >>> (nI k &&& 31)) &&& 1) = 1)) U k = some j → j < 2 ^ 31 := fun j e => by have := s_most_lt _ _ _ _ e; omega
      obtain ⟨I', e2, s2⟩ := m_woQ E d J w e x y m b U Sc I0 hm h_m hS hv n (k + 1) (some (.int (U k))) I1 (by omega) s1
      by_cases hf : s_most (fun k => decide (((b >>> (nI k &&& 31)) &&& 1) = 1)) U k = none
      · rw [s_most_new hT' (.inl hf)] at e2
        exact ⟨I', m_wo_first E d I J w e x y k m b _ _ x8 (U k) I1 sz hm hkm hT e1 ((z_enc_none lt31).mpr hf) e2, s2⟩
      · have hf' : ¬ z_enc (s_most (fun k => decide (((b >>> (nI k &&& 31)) &&& 1) = 1)) U k) = (-1) := fun q => hf ((z_enc_none lt31).mp q)
        by_cases hg : s_worth U (s_most (fun k => decide (((b >>> (nI k &&& 31)) &&& 1) = 1)) U k) < U k
        · rw [s_most_new hT' (.inr hg)] at e2
          exact ⟨I', m_wo_new E d I J w e x y k m b _ _ x8 (U k) I1 sz hm hkm hT e1 hf' hg e2, s2⟩
        · rw [s_most_old hT' hf hg] at e2
          exact ⟨I', m_wo_old E d I J w e x y k m b _ _ x8 (U k) I1 sz hm hkm hT e1 hf' hg e2, s2⟩
    · obtain ⟨I', e2, s2⟩ := m_woQ E d J w e x y m b U Sc I0 hm h_m hS hv n (k + 1) x8 I (by omega) hI
      rw [s_most_keep (fun q => hT (of_decide_eq_true q))] at e2
      exact ⟨I', m_wo_no E d I J w e x y k m b _ _ x8 sz hm hkm hT e2, s2⟩
