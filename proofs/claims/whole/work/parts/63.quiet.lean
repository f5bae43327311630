-- QUIETEST
def z_enc : Option Nat → Int32
  | none => -1
  | some j => nI j
/-- the first of the least -/
def s_least (T : Nat → Bool) (U : Nat → Int32) (n : Nat) : Option Nat := z_fo (fun k o => if T k then match o with | none => some k | some j => if U k < U j then some k else o else o) none n
def s_worth (U : Nat → Int32) : Option Nat → Int32
  | none => 0
  | some j => U j
def s_last (T : Nat → Bool) (U : Nat → Int32) (n : Nat) : Option Value := z_fo (fun k o => if T k then some (.int (U k)) else o) none n
theorem s_least_lt (T : Nat → Bool) (U : Nat → Int32) : ∀ n j, s_least T U n = some j → j < n
  | 0, _, h => by cases h
  | n + 1, j, h => by
    have ih := s_least_lt T U n
    change (if T n then match s_least T U n with | none => some n | some j => if U n < U j then some n else s_least T U n else s_least T U n) = some j at h
    revert h
    split
    · split
      · intro h; cases h; omega
      · rename_i q; split
        · intro h; cases h; omega
        · intro h; have := ih j h; omega
    · intro h; have := ih j h; omega
theorem s_least_keep {T : Nat → Bool} {U : Nat → Int32} {k : Nat} (h : ¬ T k = true) : s_least T U (k + 1) = s_least T U k := if_neg h
theorem s_least_none {T : Nat → Bool} {U : Nat → Int32} {k : Nat} (h : T k = true) (q : s_least T U k = none) : s_least T U (k + 1) = some k := by
  change (if T k then match s_least T U k with | none => some k | some j => if U k < U j then some k else s_least T U k else s_least T U k) = _
  rw [if_pos h, q]
theorem s_least_new {T : Nat → Bool} {U : Nat → Int32} {k : Nat} (h : T k = true) (q : U k < s_worth U (s_least T U k)) : s_least T U (k + 1) = some k := by
  change (if T k then match s_least T U k with | none => some k | some j => if U k < U j then some k else s_least T U k else s_least T U k) = _
  rw [if_pos h]
  revert q
  cases s_least T U k with
  | none => intro _; rfl
  | some j => intro q; exact if_pos q
theorem s_least_old {T : Nat → Bool} {U : Nat → Int32} {k : Nat} (h : T k = true) (e : s_least T U k ≠ none) (q : ¬ U k < s_worth U (s_least T U k)) : s_least T U (k + 1) = s_least T U k := by
  change (if T k then match s_least T U k with | none => some k | some j => if U k < U j then some k else s_least T U k else s_least T U k) = _
  rw [if_pos h]
  revert q e
  cases s_least T U k with
  | none => intro e _; exact absurd rfl e
  | some j => intro _ q; exact if_neg q
theorem z_enc_none {o : Option Nat} (h : ∀ j, o = some j → j < 2 ^ 31) : z_enc o = (-1) ↔ o = none := by
  cases o with
  | none => exact ⟨fun _ => rfl, fun _ => rfl⟩
  | some j => exact ⟨fun q => absurd q (z_nneg rfl (h j rfl) (by decide)), fun q => by cases q⟩
theorem s_last_t {T : Nat → Bool} {U : Nat → Int32} {k : Nat} (h : T k = true) : s_last T U (k + 1) = some (.int (U k)) := if_pos h
theorem s_last_f {T : Nat → Bool} {U : Nat → Int32} {k : Nat} (h : ¬ T k = true) : s_last T U (k + 1) = s_last T U k := if_neg h
set_option maxRecDepth 20000 in
/-- LampHouse.quietest -/
theorem x_quietest_bad (E : zE) (d : Nat) (I : Nat → Nat → Int32) (J : Nat → Nat → Int64) (w : Nat) (x n s b : Int32) (hbad : ¬ ((¬ x = 0 ∧ (x &&& ((-1) <<< (I 37 7 &&& 31))) = 0) ∧ (¬ n < 1 ∧ ¬ 16 < n ∧ ¬ s < 0 ∧ s < 16 ∧ ¬ b < 1 ∧ ¬ 16 < b))) : z_cl E (d + 4) 157 [.ref 0, .int x, .int n, .int s, .int b] (161, I, J, RF w) = some (some (.int (-2)), 161, I, J, RF w) := by
  refine z_call (d := d + 3) (M := z_m157) rfl rfl ?_
  refine z_evG 4 (y := z_ret (z_cl E (d + 3) 110 [.ref 37, .int x] (161, (I, J, RF w))) 8 [some (.ref 0), some (.int x), some (.int n), some (.int s), some (.int b), none, none, none, none] []) (fun _ => rfl) ?_
  refine z_evK (v := .int (z_bo (¬ x = 0 ∧ (x &&& ((-1) <<< (I 37 7 &&& 31))) = 0))) (z' := 161) (σ' := (I, J, RF w)) (x_things_hasSome E d I J w x) ?_
  refine z_evG 1 (y := if (z_bo (¬ x = 0 ∧ (x &&& ((-1) <<< (I 37 7 &&& 31))) = 0)) = 0 then z_go 21 [some (.ref 0), some (.int x), some (.int n), some (.int s), some (.int b), none, none, none, none] [] 161 (I, J, RF w) else z_go 11 [some (.ref 0), some (.int x), some (.int n), some (.int s), some (.int b), none, none, none, none] [] 161 (I, J, RF w)) (fun _ => rfl) ?_
  refine z_evO (fun h1 => ?_) (fun h1 => ?_)
  · refine z_evL ?_
    refine z_evG 2 (y := some (.inr (some (.int (-2)), 161, I, J, RF w))) (fun _ => rfl) ?_
    exact z_evR rfl
  · refine z_evL ?_
    refine z_evG 4 (y := z_ret (z_cl E (d + 3) 174 [.int n, .int s, .int b] (161, (I, J, RF w))) 18 [some (.ref 0), some (.int x), some (.int n), some (.int s), some (.int b), none, none, none, none] []) (fun _ => rfl) ?_
    refine z_evK (v := .int (z_bo (¬ n < 1 ∧ ¬ 16 < n ∧ ¬ s < 0 ∧ s < 16 ∧ ¬ b < 1 ∧ ¬ 16 < b))) (z' := 161) (σ' := (I, J, RF w)) (x_isFilm E (d + 2) I J w n s b) ?_
    refine z_evG 1 (y := if (z_bo (¬ n < 1 ∧ ¬ 16 < n ∧ ¬ s < 0 ∧ s < 16 ∧ ¬ b < 1 ∧ ¬ 16 < b)) = 0 then z_go 21 [some (.ref 0), some (.int x), some (.int n), some (.int s), some (.int b), none, none, none, none] [] 161 (I, J, RF w) else z_go 24 [some (.ref 0), some (.int x), some (.int n), some (.int s), some (.int b), none, none, none, none] [] 161 (I, J, RF w)) (fun _ => rfl) ?_
    refine z_evO (fun h2 => ?_) (fun h2 => ?_)
    · refine z_evL ?_
      refine z_evG 2 (y := some (.inr (some (.int (-2)), 161, I, J, RF w))) (fun _ => rfl) ?_
      exact z_evR rfl
    · refine z_evL ?_
      exact absurd ⟨h1, h2⟩ hbad
set_option maxRecDepth 20000 in
/-- LampHouseModel.quietest -/
theorem m_quietest_bad (E : zE) (d : Nat) (I : Nat → Nat → Int32) (J : Nat → Nat → Int64) (w : Nat) (x n s b : Int32) (hbad : ¬ ((¬ x < 0 ∧ x < 1 <<< (I 127 3 &&& 31) ∧ ¬ s_pi x 31 < 1 ∧ ¬ 20 < s_pi x 31) ∧ ((¬ n < 1 ∧ ¬ 16 < n) ∧ (¬ s < 0 ∧ ¬ 15 < s) ∧ (¬ b < 1 ∧ ¬ 16 < b)))) : z_cl E (d + 3) 242 [.ref 127, .int x, .int n, .int s, .int b] (161, I, J, RF w) = some (some (.int (-2)), 161, I, J, RF w) := by
  refine z_call (d := d + 2) (M := z_m242) rfl rfl ?_
  refine z_evG 6 (y := z_ret (z_cl E (d + 2) 223 [.int x, .int (I 127 3), .int 1, .int 20] (161, (I, J, RF w))) 11 [some (.ref 127), some (.int x), some (.int n), some (.int s), some (.int b), none, none, none] []) (fun _ => rfl) ?_
  refine z_evK (v := .int (z_bo (¬ x < 0 ∧ x < 1 <<< ((I 127 3) &&& 31) ∧ ¬ s_pi x 31 < 1 ∧ ¬ 20 < s_pi x 31))) (z' := 161) (σ' := (I, J, RF w)) (m_isSet E d I J w x (I 127 3) 1 20) ?_
  refine z_evG 1 (y := if (z_bo (¬ x < 0 ∧ x < 1 <<< ((I 127 3) &&& 31) ∧ ¬ s_pi x 31 < 1 ∧ ¬ 20 < s_pi x 31)) = 0 then z_go 24 [some (.ref 127), some (.int x), some (.int n), some (.int s), some (.int b), none, none, none] [] 161 (I, J, RF w) else z_go 14 [some (.ref 127), some (.int x), some (.int n), some (.int s), some (.int b), none, none, none] [] 161 (I, J, RF w)) (fun _ => rfl) ?_
  refine z_evO (fun h1 => ?_) (fun h1 => ?_)
  · refine z_evL ?_
    refine z_evG 2 (y := some (.inr (some (.int (-2)), 161, I, J, RF w))) (fun _ => rfl) ?_
    exact z_evR rfl
  · refine z_evL ?_
    refine z_evG 4 (y := z_ret (z_cl E (d + 2) 238 [.int n, .int s, .int b] (161, (I, J, RF w))) 21 [some (.ref 127), some (.int x), some (.int n), some (.int s), some (.int b), none, none, none] []) (fun _ => rfl) ?_
    refine z_evK (v := .int (z_bo ((¬ n < 1 ∧ ¬ 16 < n) ∧ (¬ s < 0 ∧ ¬ 15 < s) ∧ (¬ b < 1 ∧ ¬ 16 < b)))) (z' := 161) (σ' := (I, J, RF w)) (m_isFilm E d I J w n s b) ?_
    refine z_evG 1 (y := if (z_bo ((¬ n < 1 ∧ ¬ 16 < n) ∧ (¬ s < 0 ∧ ¬ 15 < s) ∧ (¬ b < 1 ∧ ¬ 16 < b))) = 0 then z_go 24 [some (.ref 127), some (.int x), some (.int n), some (.int s), some (.int b), none, none, none] [] 161 (I, J, RF w) else z_go 27 [some (.ref 127), some (.int x), some (.int n), some (.int s), some (.int b), none, none, none] [] 161 (I, J, RF w)) (fun _ => rfl) ?_
    refine z_evO (fun h2 => ?_) (fun h2 => ?_)
    · refine z_evL ?_
      refine z_evG 2 (y := some (.inr (some (.int (-2)), 161, I, J, RF w))) (fun _ => rfl) ?_
      exact z_evR rfl
    · refine z_evL ?_
      exact absurd ⟨h1, h2⟩ hbad
set_option maxRecDepth 20000 in
/-- LampHouse.quietest -/
theorem x_quietest_ok (E : zE) (d : Nat) (I : Nat → Nat → Int32) (J : Nat → Nat → Int64) (w : Nat) (x : Int32) (n s b m : Nat) (h_m : I 37 7 = nI m) (hm_m : m ≤ 20) (hl_s : s < 16) (hl_n : n < 17) (hl_b : b < 17) (hn1 : 1 ≤ n) (hb1 : 1 ≤ b) (hx : ¬ x = 0 ∧ (x &&& ((-1) <<< (I 37 7 &&& 31))) = 0) : z_cl E (d + 4) 157 [.ref 0, .int x, .int (nI n), .int (nI s), .int (nI b)] (161, I, J, RF w) = some (some (.int (z_enc (s_least (fun k => decide (((x >>> (nI k &&& 31)) &&& 1) = 1)) (fun t => s_mx (I 42 t) s b n - s_mn (I 42 t) s b (nI b) n) m))), 161, I, J, RF w) := by
  refine z_call (d := d + 3) (M := z_m157) rfl rfl ?_
  refine z_evG 4 (y := z_ret (z_cl E (d + 3) 110 [.ref 37, .int x] (161, (I, J, RF w))) 8 [some (.ref 0), some (.int x), some (.int (nI n)), some (.int (nI s)), some (.int (nI b)), none, none, none, none] []) (fun _ => rfl) ?_
  refine z_evK (v := .int (z_bo (¬ x = 0 ∧ (x &&& ((-1) <<< (I 37 7 &&& 31))) = 0))) (z' := 161) (σ' := (I, J, RF w)) (x_things_hasSome E d I J w x) ?_
  refine z_evG 1 (y := if (z_bo (¬ x = 0 ∧ (x &&& ((-1) <<< (I 37 7 &&& 31))) = 0)) = 0 then z_go 21 [some (.ref 0), some (.int x), some (.int (nI n)), some (.int (nI s)), some (.int (nI b)), none, none, none, none] [] 161 (I, J, RF w) else z_go 11 [some (.ref 0), some (.int x), some (.int (nI n)), some (.int (nI s)), some (.int (nI b)), none, none, none, none] [] 161 (I, J, RF w)) (fun _ => rfl) ?_
  refine z_evF (fun q0 => z_bo_0.mp q0 hx) ?_
  refine z_evL ?_
  refine z_evG 4 (y := z_ret (z_cl E (d + 3) 174 [.int (nI n), .int (nI s), .int (nI b)] (161, (I, J, RF w))) 18 [some (.ref 0), some (.int x), some (.int (nI n)), some (.int (nI s)), some (.int (nI b)), none, none, none, none] []) (fun _ => rfl) ?_
  refine z_evK (v := .int (z_bo (¬ (nI n) < 1 ∧ ¬ 16 < (nI n) ∧ ¬ (nI s) < 0 ∧ (nI s) < 16 ∧ ¬ (nI b) < 1 ∧ ¬ 16 < (nI b)))) (z' := 161) (σ' := (I, J, RF w)) (x_isFilm E (d + 2) I J w (nI n) (nI s) (nI b)) ?_
  refine z_evG 1 (y := if (z_bo (¬ (nI n) < 1 ∧ ¬ 16 < (nI n) ∧ ¬ (nI s) < 0 ∧ (nI s) < 16 ∧ ¬ (nI b) < 1 ∧ ¬ 16 < (nI b))) = 0 then z_go 21 [some (.ref 0), some (.int x), some (.int (nI n)), some (.int (nI s)), some (.int (nI b)), none, none, none, none] [] 161 (I, J, RF w) else z_go 24 [some (.ref 0), some (.int x), some (.int (nI n)), some (.int (nI s)), some (.int (nI b)), none, none, none, none] [] 161 (I, J, RF w)) (fun _ => rfl) ?_
  refine z_evF (fun q0 => z_bo_0.mp q0 ⟨mt (show _ ↔ n < 1 from z_ltN rfl rfl (by omega) (by decide)).mp (by omega), mt (show _ ↔ 16 < n from z_ltN rfl rfl (by decide) (by omega)).mp (by omega), nI_pos (by omega), (show _ ↔ s < 16 from z_ltN rfl rfl (by omega) (by decide)).mpr (by omega), mt (show _ ↔ b < 1 from z_ltN rfl rfl (by omega) (by decide)).mp (by omega), mt (show _ ↔ 16 < b from z_ltN rfl rfl (by decide) (by omega)).mp (by omega)⟩) ?_
  refine z_evL ?_
  refine z_evG 6 (y := z_go 33 [some (.ref 0), some (.int x), some (.int (nI n)), some (.int (nI s)), some (.int (nI b)), some (.int (-1)), some (.int 0), some (.int 0), none] [] 161 (I, J, RF w)) (fun _ => rfl) ?_
  refine z_evL ?_
  refine z_loop (F := fun k => ([some (.ref 0), some (.int x), some (.int (nI n)), some (.int (nI s)), some (.int (nI b)), some (.int (z_enc (s_least (fun k => decide (((x >>> (nI k &&& 31)) &&& 1) = 1)) (fun t => s_mx (I 42 t) s b n - s_mn (I 42 t) s b (nI b) n) k))), some (.int (s_worth (fun t => s_mx (I 42 t) s b n - s_mn (I 42 t) s b (nI b) n) (s_least (fun k => decide (((x >>> (nI k &&& 31)) &&& 1) = 1)) (fun t => s_mx (I 42 t) s b n - s_mn (I 42 t) s b (nI b) n) k))), some (.int (nI k)), s_last (fun k => decide (((x >>> (nI k &&& 31)) &&& 1) = 1)) (fun t => s_mx (I 42 t) s b n - s_mn (I 42 t) s b (nI b) n) k], (I, J, RF w))) (P := fun k => True) m trivial (fun hP => ?_) (fun k hk hP next => ?_)
  · show z_Ev E (d + 3) z_m157 33 [some (.ref 0), some (.int x), some (.int (nI n)), some (.int (nI s)), some (.int (nI b)), some (.int (z_enc (s_least (fun k => decide (((x >>> (nI k &&& 31)) &&& 1) = 1)) (fun t => s_mx (I 42 t) s b n - s_mn (I 42 t) s b (nI b) n) m))), some (.int (s_worth (fun t => s_mx (I 42 t) s b n - s_mn (I 42 t) s b (nI b) n) (s_least (fun k => decide (((x >>> (nI k &&& 31)) &&& 1) = 1)) (fun t => s_mx (I 42 t) s b n - s_mn (I 42 t) s b (nI b) n) m))), some (.int (nI m)), s_last (fun k => decide (((x >>> (nI k &&& 31)) &&& 1) = 1)) (fun t => s_mx (I 42 t) s b n - s_mn (I 42 t) s b (nI b) n) m] [] 161 (I, J, RF w) _
    refine z_evG 4 (y := z_ret (z_cl E (d + 3) 107 [.ref 37] (161, (I, J, RF w))) 42 [some (.ref 0), some (.int x), some (.int (nI n)), some (.int (nI s)), some (.int (nI b)), some (.int (z_enc (s_least (fun k => decide (((x >>> (nI k &&& 31)) &&& 1) = 1)) (fun t => s_mx (I 42 t) s b n - s_mn (I 42 t) s b (nI b) n) m))), some (.int (s_worth (fun t => s_mx (I 42 t) s b n - s_mn (I 42 t) s b (nI b) n) (s_least (fun k => decide (((x >>> (nI k &&& 31)) &&& 1) = 1)) (fun t => s_mx (I 42 t) s b n - s_mn (I 42 t) s b (nI b) n) m))), some (.int (nI m)), s_last (fun k => decide (((x >>> (nI k &&& 31)) &&& 1) = 1)) (fun t => s_mx (I 42 t) s b n - s_mn (I 42 t) s b (nI b) n) m] [.int (nI m)]) (fun _ => rfl) ?_
    refine z_evK (v := .int (I 37 7)) (z' := 161) (σ' := (I, J, RF w)) (x_things_size E (d + 2) I J w) ?_
    refine z_evG 1 (y := if (nI m) < (I 37 7) then z_go 45 [some (.ref 0), some (.int x), some (.int (nI n)), some (.int (nI s)), some (.int (nI b)), some (.int (z_enc (s_least (fun k => decide (((x >>> (nI k &&& 31)) &&& 1) = 1)) (fun t => s_mx (I 42 t) s b n - s_mn (I 42 t) s b (nI b) n) m))), some (.int (s_worth (fun t => s_mx (I 42 t) s b n - s_mn (I 42 t) s b (nI b) n) (s_least (fun k => decide (((x >>> (nI k &&& 31)) &&& 1) = 1)) (fun t => s_mx (I 42 t) s b n - s_mn (I 42 t) s b (nI b) n) m))), some (.int (nI m)), s_last (fun k => decide (((x >>> (nI k &&& 31)) &&& 1) = 1)) (fun t => s_mx (I 42 t) s b n - s_mn (I 42 t) s b (nI b) n) m] [] 161 (I, J, RF w) else z_go 96 [some (.ref 0), some (.int x), some (.int (nI n)), some (.int (nI s)), some (.int (nI b)), some (.int (z_enc (s_least (fun k => decide (((x >>> (nI k &&& 31)) &&& 1) = 1)) (fun t => s_mx (I 42 t) s b n - s_mn (I 42 t) s b (nI b) n) m))), some (.int (s_worth (fun t => s_mx (I 42 t) s b n - s_mn (I 42 t) s b (nI b) n) (s_least (fun k => decide (((x >>> (nI k &&& 31)) &&& 1) = 1)) (fun t => s_mx (I 42 t) s b n - s_mn (I 42 t) s b (nI b) n) m))), some (.int (nI m)), s_last (fun k => decide (((x >>> (nI k &&& 31)) &&& 1) = 1)) (fun t => s_mx (I 42 t) s b n - s_mn (I 42 t) s b (nI b) n) m] [] 161 (I, J, RF w)) (fun _ => rfl) ?_
    refine z_evF (mt (show _ ↔ m < m from z_ltN rfl h_m (by omega) (by omega)).mp (by omega)) ?_
    refine z_evL ?_
    refine z_evG 2 (y := some (.inr (some (.int (z_enc (s_least (fun k => decide (((x >>> (nI k &&& 31)) &&& 1) = 1)) (fun t => s_mx (I 42 t) s b n - s_mn (I 42 t) s b (nI b) n) m))), 161, I, J, RF w))) (fun _ => rfl) ?_
    exact z_evR rfl
  · show z_Ev E (d + 3) z_m157 33 [some (.ref 0), some (.int x), some (.int (nI n)), some (.int (nI s)), some (.int (nI b)), some (.int (z_enc (s_least (fun k => decide (((x >>> (nI k &&& 31)) &&& 1) = 1)) (fun t => s_mx (I 42 t) s b n - s_mn (I 42 t) s b (nI b) n) k))), some (.int (s_worth (fun t => s_mx (I 42 t) s b n - s_mn (I 42 t) s b (nI b) n) (s_least (fun k => decide (((x >>> (nI k &&& 31)) &&& 1) = 1)) (fun t => s_mx (I 42 t) s b n - s_mn (I 42 t) s b (nI b) n) k))), some (.int (nI k)), s_last (fun k => decide (((x >>> (nI k &&& 31)) &&& 1) = 1)) (fun t => s_mx (I 42 t) s b n - s_mn (I 42 t) s b (nI b) n) k] [] 161 (I, J, RF w) _
    have nx : (True) → z_Ev E (d + 3) z_m157 33 [some (.ref 0), some (.int x), some (.int (nI n)), some (.int (nI s)), some (.int (nI b)), some (.int (z_enc (s_least (fun k => decide (((x >>> (nI k &&& 31)) &&& 1) = 1)) (fun t => s_mx (I 42 t) s b n - s_mn (I 42 t) s b (nI b) n) (k + 1)))), some (.int (s_worth (fun t => s_mx (I 42 t) s b n - s_mn (I 42 t) s b (nI b) n) (s_least (fun k => decide (((x >>> (nI k &&& 31)) &&& 1) = 1)) (fun t => s_mx (I 42 t) s b n - s_mn (I 42 t) s b (nI b) n) (k + 1)))), some (.int (nI (k + 1))), s_last (fun k => decide (((x >>> (nI k &&& 31)) &&& 1) = 1)) (fun t => s_mx (I 42 t) s b n - s_mn (I 42 t) s b (nI b) n) (k + 1)] [] 161 (I, J, RF w) _ := next
    refine z_evG 4 (y := z_ret (z_cl E (d + 3) 107 [.ref 37] (161, (I, J, RF w))) 42 [some (.ref 0), some (.int x), some (.int (nI n)), some (.int (nI s)), some (.int (nI b)), some (.int (z_enc (s_least (fun k => decide (((x >>> (nI k &&& 31)) &&& 1) = 1)) (fun t => s_mx (I 42 t) s b n - s_mn (I 42 t) s b (nI b) n) k))), some (.int (s_worth (fun t => s_mx (I 42 t) s b n - s_mn (I 42 t) s b (nI b) n) (s_least (fun k => decide (((x >>> (nI k &&& 31)) &&& 1) = 1)) (fun t => s_mx (I 42 t) s b n - s_mn (I 42 t) s b (nI b) n) k))), some (.int (nI k)), s_last (fun k => decide (((x >>> (nI k &&& 31)) &&& 1) = 1)) (fun t => s_mx (I 42 t) s b n - s_mn (I 42 t) s b (nI b) n) k] [.int (nI k)]) (fun _ => rfl) ?_
    refine z_evK (v := .int (I 37 7)) (z' := 161) (σ' := (I, J, RF w)) (x_things_size E (d + 2) I J w) ?_
    refine z_evG 1 (y := if (nI k) < (I 37 7) then z_go 45 [some (.ref 0), some (.int x), some (.int (nI n)), some (.int (nI s)), some (.int (nI b)), some (.int (z_enc (s_least (fun k => decide (((x >>> (nI k &&& 31)) &&& 1) = 1)) (fun t => s_mx (I 42 t) s b n - s_mn (I 42 t) s b (nI b) n) k))), some (.int (s_worth (fun t => s_mx (I 42 t) s b n - s_mn (I 42 t) s b (nI b) n) (s_least (fun k => decide (((x >>> (nI k &&& 31)) &&& 1) = 1)) (fun t => s_mx (I 42 t) s b n - s_mn (I 42 t) s b (nI b) n) k))), some (.int (nI k)), s_last (fun k => decide (((x >>> (nI k &&& 31)) &&& 1) = 1)) (fun t => s_mx (I 42 t) s b n - s_mn (I 42 t) s b (nI b) n) k] [] 161 (I, J, RF w) else z_go 96 [some (.ref 0), some (.int x), some (.int (nI n)), some (.int (nI s)), some (.int (nI b)), some (.int (z_enc (s_least (fun k => decide (((x >>> (nI k &&& 31)) &&& 1) = 1)) (fun t => s_mx (I 42 t) s b n - s_mn (I 42 t) s b (nI b) n) k))), some (.int (s_worth (fun t => s_mx (I 42 t) s b n - s_mn (I 42 t) s b (nI b) n) (s_least (fun k => decide (((x >>> (nI k &&& 31)) &&& 1) = 1)) (fun t => s_mx (I 42 t) s b n - s_mn (I 42 t) s b (nI b) n) k))), some (.int (nI k)), s_last (fun k => decide (((x >>> (nI k &&& 31)) &&& 1) = 1)) (fun t => s_mx (I 42 t) s b n - s_mn (I 42 t) s b (nI b) n) k] [] 161 (I, J, RF w)) (fun _ => rfl) ?_
    refine z_evT ((show _ ↔ k < m from z_ltN rfl h_m (by omega) (by omega)).mpr (by omega)) ?_
    refine z_evL ?_
    refine z_evG 3 (y := z_ret (z_cl E (d + 3) 175 [.int x, .int (nI k)] (161, (I, J, RF w))) 51 [some (.ref 0), some (.int x), some (.int (nI n)), some (.int (nI s)), some (.int (nI b)), some (.int (z_enc (s_least (fun k => decide (((x >>> (nI k &&& 31)) &&& 1) = 1)) (fun t => s_mx (I 42 t) s b n - s_mn (I 42 t) s b (nI b) n) k))), some (.int (s_worth (fun t => s_mx (I 42 t) s b n - s_mn (I 42 t) s b (nI b) n) (s_least (fun k => decide (((x >>> (nI k &&& 31)) &&& 1) = 1)) (fun t => s_mx (I 42 t) s b n - s_mn (I 42 t) s b (nI b) n) k))), some (.int (nI k)), s_last (fun k => decide (((x >>> (nI k &&& 31)) &&& 1) = 1)) (fun t => s_mx (I 42 t) s b n - s_mn (I 42 t) s b (nI b) n) k] []) (fun _ => rfl) ?_
    refine z_evK (v := .int (z_bo (((x >>> ((nI k) &&& 31)) &&& 1) = 1))) (z' := 161) (σ' := (I, J, RF w)) (x_isTold E (d + 2) I J w x (nI k)) ?_
    refine z_evG 1 (y := if (z_bo (((x >>> ((nI k) &&& 31)) &&& 1) = 1)) = 0 then z_go 90 [some (.ref 0), some (.int x), some (.int (nI n)), some (.int (nI s)), some (.int (nI b)), some (.int (z_enc (s_least (fun k => decide (((x >>> (nI k &&& 31)) &&& 1) = 1)) (fun t => s_mx (I 42 t) s b n - s_mn (I 42 t) s b (nI b) n) k))), some (.int (s_worth (fun t => s_mx (I 42 t) s b n - s_mn (I 42 t) s b (nI b) n) (s_least (fun k => decide (((x >>> (nI k &&& 31)) &&& 1) = 1)) (fun t => s_mx (I 42 t) s b n - s_mn (I 42 t) s b (nI b) n) k))), some (.int (nI k)), s_last (fun k => decide (((x >>> (nI k &&& 31)) &&& 1) = 1)) (fun t => s_mx (I 42 t) s b n - s_mn (I 42 t) s b (nI b) n) k] [] 161 (I, J, RF w) else z_go 54 [some (.ref 0), some (.int x), some (.int (nI n)), some (.int (nI s)), some (.int (nI b)), some (.int (z_enc (s_least (fun k => decide (((x >>> (nI k &&& 31)) &&& 1) = 1)) (fun t => s_mx (I 42 t) s b n - s_mn (I 42 t) s b (nI b) n) k))), some (.int (s_worth (fun t => s_mx (I 42 t) s b n - s_mn (I 42 t) s b (nI b) n) (s_least (fun k => decide (((x >>> (nI k &&& 31)) &&& 1) = 1)) (fun t => s_mx (I 42 t) s b n - s_mn (I 42 t) s b (nI b) n) k))), some (.int (nI k)), s_last (fun k => decide (((x >>> (nI k &&& 31)) &&& 1) = 1)) (fun t => s_mx (I 42 t) s b n - s_mn (I 42 t) s b (nI b) n) k] [] 161 (I, J, RF w)) (fun _ => rfl) ?_
    refine z_evO (fun h5 => ?_) (fun h5 => ?_)
    · refine z_evL ?_
      refine z_evG 2 (y := z_go 33 [some (.ref 0), some (.int x), some (.int (nI n)), some (.int (nI s)), some (.int (nI b)), some (.int (z_enc (s_least (fun k => decide (((x >>> (nI k &&& 31)) &&& 1) = 1)) (fun t => s_mx (I 42 t) s b n - s_mn (I 42 t) s b (nI b) n) k))), some (.int (s_worth (fun t => s_mx (I 42 t) s b n - s_mn (I 42 t) s b (nI b) n) (s_least (fun k => decide (((x >>> (nI k &&& 31)) &&& 1) = 1)) (fun t => s_mx (I 42 t) s b n - s_mn (I 42 t) s b (nI b) n) k))), some (.int ((nI k) + 1)), s_last (fun k => decide (((x >>> (nI k &&& 31)) &&& 1) = 1)) (fun t => s_mx (I 42 t) s b n - s_mn (I 42 t) s b (nI b) n) k] [] 161 (I, J, RF w)) (fun _ => rfl) ?_
      refine z_evL ?_
      have hT : ¬ (fun k => decide (((x >>> (nI k &&& 31)) &&& 1) = 1)) k = true := fun q => h5 (of_decide_eq_true q)
      rw [s_least_keep hT, s_last_f hT] at nx
      rw [nI_1 k]
      exact nx trivial
    · refine z_evL ?_
      refine z_evG 7 (y := z_ret (z_cl E (d + 3) 126 [.ref 37, .int (nI k), .int (nI n), .int (nI s), .int (nI b)] (161, (I, J, RF w))) 67 [some (.ref 0), some (.int x), some (.int (nI n)), some (.int (nI s)), some (.int (nI b)), some (.int (z_enc (s_least (fun k => decide (((x >>> (nI k &&& 31)) &&& 1) = 1)) (fun t => s_mx (I 42 t) s b n - s_mn (I 42 t) s b (nI b) n) k))), some (.int (s_worth (fun t => s_mx (I 42 t) s b n - s_mn (I 42 t) s b (nI b) n) (s_least (fun k => decide (((x >>> (nI k &&& 31)) &&& 1) = 1)) (fun t => s_mx (I 42 t) s b n - s_mn (I 42 t) s b (nI b) n) k))), some (.int (nI k)), s_last (fun k => decide (((x >>> (nI k &&& 31)) &&& 1) = 1)) (fun t => s_mx (I 42 t) s b n - s_mn (I 42 t) s b (nI b) n) k] []) (fun _ => rfl) ?_
      refine z_evK (v := .int (s_mx (I 42 k) s b n - s_mn (I 42 k) s b (nI b) n)) (z' := 161) (σ' := (I, J, RF w)) (x_unevenness E (d + 1) I J w k n s b (by omega) (by omega) (by omega) (by omega)) ?_
      refine z_evG 4 (y := if (z_enc (s_least (fun k => decide (((x >>> (nI k &&& 31)) &&& 1) = 1)) (fun t => s_mx (I 42 t) s b n - s_mn (I 42 t) s b (nI b) n) k)) = (-1) then z_go 82 [some (.ref 0), some (.int x), some (.int (nI n)), some (.int (nI s)), some (.int (nI b)), some (.int (z_enc (s_least (fun k => decide (((x >>> (nI k &&& 31)) &&& 1) = 1)) (fun t => s_mx (I 42 t) s b n - s_mn (I 42 t) s b (nI b) n) k))), some (.int (s_worth (fun t => s_mx (I 42 t) s b n - s_mn (I 42 t) s b (nI b) n) (s_least (fun k => decide (((x >>> (nI k &&& 31)) &&& 1) = 1)) (fun t => s_mx (I 42 t) s b n - s_mn (I 42 t) s b (nI b) n) k))), some (.int (nI k)), some (.int (s_mx (I 42 k) s b n - s_mn (I 42 k) s b (nI b) n))] [] 161 (I, J, RF w) else z_go 75 [some (.ref 0), some (.int x), some (.int (nI n)), some (.int (nI s)), some (.int (nI b)), some (.int (z_enc (s_least (fun k => decide (((x >>> (nI k &&& 31)) &&& 1) = 1)) (fun t => s_mx (I 42 t) s b n - s_mn (I 42 t) s b (nI b) n) k))), some (.int (s_worth (fun t => s_mx (I 42 t) s b n - s_mn (I 42 t) s b (nI b) n) (s_least (fun k => decide (((x >>> (nI k &&& 31)) &&& 1) = 1)) (fun t => s_mx (I 42 t) s b n - s_mn (I 42 t) s b (nI b) n) k))), some (.int (nI k)), some (.int (s_mx (I 42 k) s b n - s_mn (I 42 k) s b (nI b) n))] [] 161 (I, J, RF w)) (fun _ => rfl) ?_
      refine z_evI (fun h6 => ?_) (fun h6 => ?_)
      · refine z_evL ?_
        refine z_evG 6 (y := z_go 33 [some (.ref 0), some (.int x), some (.int (nI n)), some (.int (nI s)), some (.int (nI b)), some (.int (nI k)), some (.int (s_mx (I 42 k) s b n - s_mn (I 42 k) s b (nI b) n)), some (.int ((nI k) + 1)), some (.int (s_mx (I 42 k) s b n - s_mn (I 42 k) s b (nI b) n))] [] 161 (I, J, RF w)) (fun _ => rfl) ?_
        refine z_evL ?_
        have hT : (fun k => decide (((x >>> (nI k &&& 31)) &&& 1) = 1)) k = true := decide_eq_true h5
        have hN := (z_enc_none (fun j e => Nat.lt_trans (s_least_lt _ _ _ _ e) (by omega))).mp h6
        rw [s_least_none hT hN, s_last_t hT] at nx
        rw [nI_1 k]
        exact nx trivial
      · refine z_evL ?_
        refine z_evG 3 (y := if (s_mx (I 42 k) s b n - s_mn (I 42 k) s b (nI b) n) < (s_worth (fun t => s_mx (I 42 t) s b n - s_mn (I 42 t) s b (nI b) n) (s_least (fun k => decide (((x >>> (nI k &&& 31)) &&& 1) = 1)) (fun t => s_mx (I 42 t) s b n - s_mn (I 42 t) s b (nI b) n) k)) then z_go 82 [some (.ref 0), some (.int x), some (.int (nI n)), some (.int (nI s)), some (.int (nI b)), some (.int (z_enc (s_least (fun k => decide (((x >>> (nI k &&& 31)) &&& 1) = 1)) (fun t => s_mx (I 42 t) s b n - s_mn (I 42 t) s b (nI b) n) k))), some (.int (s_worth (fun t => s_mx (I 42 t) s b n - s_mn (I 42 t) s b (nI b) n) (s_least (fun k => decide (((x >>> (nI k &&& 31)) &&& 1) = 1)) (fun t => s_mx (I 42 t) s b n - s_mn (I 42 t) s b (nI b) n) k))), some (.int (nI k)), some (.int (s_mx (I 42 k) s b n - s_mn (I 42 k) s b (nI b) n))] [] 161 (I, J, RF w) else z_go 90 [some (.ref 0), some (.int x), some (.int (nI n)), some (.int (nI s)), some (.int (nI b)), some (.int (z_enc (s_least (fun k => decide (((x >>> (nI k &&& 31)) &&& 1) = 1)) (fun t => s_mx (I 42 t) s b n - s_mn (I 42 t) s b (nI b) n) k))), some (.int (s_worth (fun t => s_mx (I 42 t) s b n - s_mn (I 42 t) s b (nI b) n) (s_least (fun k => decide (((x >>> (nI k &&& 31)) &&& 1) = 1)) (fun t => s_mx (I 42 t) s b n - s_mn (I 42 t) s b (nI b) n) k))), some (.int (nI k)), some (.int (s_mx (I 42 k) s b n - s_mn (I 42 k) s b (nI b) n))] [] 161 (I, J, RF w)) (fun _ => rfl) ?_
        refine z_evI (fun h7 => ?_) (fun h7 => ?_)
        · refine z_evL ?_
          refine z_evG 6 (y := z_go 33 [some (.ref 0), some (.int x), some (.int (nI n)), some (.int (nI s)), some (.int (nI b)), some (.int (nI k)), some (.int (s_mx (I 42 k) s b n - s_mn (I 42 k) s b (nI b) n)), some (.int ((nI k) + 1)), some (.int (s_mx (I 42 k) s b n - s_mn (I 42 k) s b (nI b) n))] [] 161 (I, J, RF w)) (fun _ => rfl) ?_
          refine z_evL ?_
          have hT : (fun k => decide (((x >>> (nI k &&& 31)) &&& 1) = 1)) k = true := decide_eq_true h5
          rw [s_least_new hT h7, s_last_t hT] at nx
          rw [nI_1 k]
          exact nx trivial
        · refine z_evL ?_
          refine z_evG 2 (y := z_go 33 [some (.ref 0), some (.int x), some (.int (nI n)), some (.int (nI s)), some (.int (nI b)), some (.int (z_enc (s_least (fun k => decide (((x >>> (nI k &&& 31)) &&& 1) = 1)) (fun t => s_mx (I 42 t) s b n - s_mn (I 42 t) s b (nI b) n) k))), some (.int (s_worth (fun t => s_mx (I 42 t) s b n - s_mn (I 42 t) s b (nI b) n) (s_least (fun k => decide (((x >>> (nI k &&& 31)) &&& 1) = 1)) (fun t => s_mx (I 42 t) s b n - s_mn (I 42 t) s b (nI b) n) k))), some (.int ((nI k) + 1)), some (.int (s_mx (I 42 k) s b n - s_mn (I 42 k) s b (nI b) n))] [] 161 (I, J, RF w)) (fun _ => rfl) ?_
          refine z_evL ?_
          have hT : (fun k => decide (((x >>> (nI k &&& 31)) &&& 1) = 1)) k = true := decide_eq_true h5
          have hN : s_least (fun k => decide (((x >>> (nI k &&& 31)) &&& 1) = 1)) (fun t => s_mx (I 42 t) s b n - s_mn (I 42 t) s b (nI b) n) k ≠ none := fun q => h6 ((z_enc_none (fun j e => Nat.lt_trans (s_least_lt _ _ _ _ e) (by omega))).mpr q)
          rw [s_least_old hT hN h7, s_last_t hT] at nx
          rw [nI_1 k]
          exact nx trivial
def s_took (T : Nat → Bool) (U : Nat → Int32) : Nat → Option Value
  | 0 => none
  | k + 1 => some (.int (if s_least T U (k + 1) = some k then 1 else 0))
theorem s_took_t {T : Nat → Bool} {U : Nat → Int32} {k : Nat} (h : s_least T U (k + 1) = some k) : s_took T U (k + 1) = some (.int 1) := by
  show some (Value.int (if s_least T U (k + 1) = some k then 1 else 0)) = _
  rw [if_pos h]
theorem s_took_f {T : Nat → Bool} {U : Nat → Int32} {k : Nat} (h : s_least T U (k + 1) = s_least T U k) : s_took T U (k + 1) = some (.int 0) := by
  show some (Value.int (if s_least T U (k + 1) = some k then 1 else 0)) = _
  rw [if_neg]
  intro q
  rw [h] at q
  have := s_least_lt _ _ _ _ q
  omega
theorem z_encE {o : Option Nat} (h : ¬ z_enc o = (-1)) : z_enc o = nI (o.getD 0) := by
  cases o with
  | none => exact absurd rfl h
  | some j => rfl
theorem s_worthE {U : Nat → Int32} {o : Option Nat} (h : ¬ z_enc o = (-1)) : s_worth U o = U (o.getD 0) := by
  cases o with
  | none => exact absurd rfl h
  | some j => rfl
theorem s_least_g (T : Nat → Bool) (U : Nat → Int32) (k : Nat) : (s_least T U k).getD 0 < k + 1 := by
  cases q : s_least T U k with
  | none => exact Nat.succ_pos k
  | some j => have := s_least_lt _ _ _ _ q; show j < k + 1; omega
set_option maxRecDepth 20000 in
/-- LampHouseModel.quietest -/
theorem m_quietest_ok (E : zE) (d : Nat) (I : Nat → Nat → Int32) (J : Nat → Nat → Int64) (w : Nat) (x : Int32) (n s b m : Nat) (h_m : I 127 3 = nI m) (hm_m : m ≤ 20) (hl_s : s < 16) (hl_n : n < 17) (hl_b : b < 17) (hn1 : 1 ≤ n) (hb1 : 1 ≤ b) (hx : ¬ x < 0 ∧ x < 1 <<< (I 127 3 &&& 31) ∧ ¬ s_pi x 31 < 1 ∧ ¬ 20 < s_pi x 31) : z_cl E (d + 3) 242 [.ref 127, .int x, .int (nI n), .int (nI s), .int (nI b)] (161, I, J, RF w) = some (some (.int (z_enc (s_least (fun k => decide (((x >>> (nI k &&& 31)) &&& 1) = 1)) (fun t => s_mx (I 133 t) s b n - s_mn (I 133 t) s b 99 n) m))), 161, I, J, RF w) := by
  refine z_call (d := d + 2) (M := z_m242) rfl rfl ?_
  refine z_evG 6 (y := z_ret (z_cl E (d + 2) 223 [.int x, .int (I 127 3), .int 1, .int 20] (161, (I, J, RF w))) 11 [some (.ref 127), some (.int x), some (.int (nI n)), some (.int (nI s)), some (.int (nI b)), none, none, none] []) (fun _ => rfl) ?_
  refine z_evK (v := .int (z_bo (¬ x < 0 ∧ x < 1 <<< ((I 127 3) &&& 31) ∧ ¬ s_pi x 31 < 1 ∧ ¬ 20 < s_pi x 31))) (z' := 161) (σ' := (I, J, RF w)) (m_isSet E d I J w x (I 127 3) 1 20) ?_
  refine z_evG 1 (y := if (z_bo (¬ x < 0 ∧ x < 1 <<< ((I 127 3) &&& 31) ∧ ¬ s_pi x 31 < 1 ∧ ¬ 20 < s_pi x 31)) = 0 then z_go 24 [some (.ref 127), some (.int x), some (.int (nI n)), some (.int (nI s)), some (.int (nI b)), none, none, none] [] 161 (I, J, RF w) else z_go 14 [some (.ref 127), some (.int x), some (.int (nI n)), some (.int (nI s)), some (.int (nI b)), none, none, none] [] 161 (I, J, RF w)) (fun _ => rfl) ?_
  refine z_evF (fun q0 => z_bo_0.mp q0 hx) ?_
  refine z_evL ?_
  refine z_evG 4 (y := z_ret (z_cl E (d + 2) 238 [.int (nI n), .int (nI s), .int (nI b)] (161, (I, J, RF w))) 21 [some (.ref 127), some (.int x), some (.int (nI n)), some (.int (nI s)), some (.int (nI b)), none, none, none] []) (fun _ => rfl) ?_
  refine z_evK (v := .int (z_bo ((¬ (nI n) < 1 ∧ ¬ 16 < (nI n)) ∧ (¬ (nI s) < 0 ∧ ¬ 15 < (nI s)) ∧ (¬ (nI b) < 1 ∧ ¬ 16 < (nI b))))) (z' := 161) (σ' := (I, J, RF w)) (m_isFilm E d I J w (nI n) (nI s) (nI b)) ?_
  refine z_evG 1 (y := if (z_bo ((¬ (nI n) < 1 ∧ ¬ 16 < (nI n)) ∧ (¬ (nI s) < 0 ∧ ¬ 15 < (nI s)) ∧ (¬ (nI b) < 1 ∧ ¬ 16 < (nI b)))) = 0 then z_go 24 [some (.ref 127), some (.int x), some (.int (nI n)), some (.int (nI s)), some (.int (nI b)), none, none, none] [] 161 (I, J, RF w) else z_go 27 [some (.ref 127), some (.int x), some (.int (nI n)), some (.int (nI s)), some (.int (nI b)), none, none, none] [] 161 (I, J, RF w)) (fun _ => rfl) ?_
  refine z_evF (fun q0 => z_bo_0.mp q0 ⟨⟨mt (show _ ↔ n < 1 from z_ltN rfl rfl (by omega) (by decide)).mp (by omega), mt (show _ ↔ 16 < n from z_ltN rfl rfl (by decide) (by omega)).mp (by omega)⟩, ⟨nI_pos (by omega), mt (show _ ↔ 15 < s from z_ltN rfl rfl (by decide) (by omega)).mp (by omega)⟩, ⟨mt (show _ ↔ b < 1 from z_ltN rfl rfl (by omega) (by decide)).mp (by omega), mt (show _ ↔ 16 < b from z_ltN rfl rfl (by decide) (by omega)).mp (by omega)⟩⟩) ?_
  refine z_evL ?_
  refine z_evG 4 (y := z_go 33 [some (.ref 127), some (.int x), some (.int (nI n)), some (.int (nI s)), some (.int (nI b)), some (.int (-1)), some (.int 0), none] [] 161 (I, J, RF w)) (fun _ => rfl) ?_
  refine z_evL ?_
  refine z_loop (F := fun k => ([some (.ref 127), some (.int x), some (.int (nI n)), some (.int (nI s)), some (.int (nI b)), some (.int (z_enc (s_least (fun k => decide (((x >>> (nI k &&& 31)) &&& 1) = 1)) (fun t => s_mx (I 133 t) s b n - s_mn (I 133 t) s b 99 n) k))), some (.int (nI k)), s_took (fun k => decide (((x >>> (nI k &&& 31)) &&& 1) = 1)) (fun t => s_mx (I 133 t) s b n - s_mn (I 133 t) s b 99 n) k], (I, J, RF w))) (P := fun k => True) m trivial (fun hP => ?_) (fun k hk hP next => ?_)
  · show z_Ev E (d + 2) z_m242 33 [some (.ref 127), some (.int x), some (.int (nI n)), some (.int (nI s)), some (.int (nI b)), some (.int (z_enc (s_least (fun k => decide (((x >>> (nI k &&& 31)) &&& 1) = 1)) (fun t => s_mx (I 133 t) s b n - s_mn (I 133 t) s b 99 n) m))), some (.int (nI m)), s_took (fun k => decide (((x >>> (nI k &&& 31)) &&& 1) = 1)) (fun t => s_mx (I 133 t) s b n - s_mn (I 133 t) s b 99 n) m] [] 161 (I, J, RF w) _
    refine z_evG 4 (y := if (nI m) < (I 127 3) then z_go 42 [some (.ref 127), some (.int x), some (.int (nI n)), some (.int (nI s)), some (.int (nI b)), some (.int (z_enc (s_least (fun k => decide (((x >>> (nI k &&& 31)) &&& 1) = 1)) (fun t => s_mx (I 133 t) s b n - s_mn (I 133 t) s b 99 n) m))), some (.int (nI m)), s_took (fun k => decide (((x >>> (nI k &&& 31)) &&& 1) = 1)) (fun t => s_mx (I 133 t) s b n - s_mn (I 133 t) s b 99 n) m] [] 161 (I, J, RF w) else z_go 108 [some (.ref 127), some (.int x), some (.int (nI n)), some (.int (nI s)), some (.int (nI b)), some (.int (z_enc (s_least (fun k => decide (((x >>> (nI k &&& 31)) &&& 1) = 1)) (fun t => s_mx (I 133 t) s b n - s_mn (I 133 t) s b 99 n) m))), some (.int (nI m)), s_took (fun k => decide (((x >>> (nI k &&& 31)) &&& 1) = 1)) (fun t => s_mx (I 133 t) s b n - s_mn (I 133 t) s b 99 n) m] [] 161 (I, J, RF w)) (fun _ => rfl) ?_
    refine z_evF (mt (show _ ↔ m < m from z_ltN rfl h_m (by omega) (by omega)).mp (by omega)) ?_
    refine z_evL ?_
    refine z_evG 2 (y := some (.inr (some (.int (z_enc (s_least (fun k => decide (((x >>> (nI k &&& 31)) &&& 1) = 1)) (fun t => s_mx (I 133 t) s b n - s_mn (I 133 t) s b 99 n) m))), 161, I, J, RF w))) (fun _ => rfl) ?_
    exact z_evR rfl
  · show z_Ev E (d + 2) z_m242 33 [some (.ref 127), some (.int x), some (.int (nI n)), some (.int (nI s)), some (.int (nI b)), some (.int (z_enc (s_least (fun k => decide (((x >>> (nI k &&& 31)) &&& 1) = 1)) (fun t => s_mx (I 133 t) s b n - s_mn (I 133 t) s b 99 n) k))), some (.int (nI k)), s_took (fun k => decide (((x >>> (nI k &&& 31)) &&& 1) = 1)) (fun t => s_mx (I 133 t) s b n - s_mn (I 133 t) s b 99 n) k] [] 161 (I, J, RF w) _
    have nx : (True) → z_Ev E (d + 2) z_m242 33 [some (.ref 127), some (.int x), some (.int (nI n)), some (.int (nI s)), some (.int (nI b)), some (.int (z_enc (s_least (fun k => decide (((x >>> (nI k &&& 31)) &&& 1) = 1)) (fun t => s_mx (I 133 t) s b n - s_mn (I 133 t) s b 99 n) (k + 1)))), some (.int (nI (k + 1))), s_took (fun k => decide (((x >>> (nI k &&& 31)) &&& 1) = 1)) (fun t => s_mx (I 133 t) s b n - s_mn (I 133 t) s b 99 n) (k + 1)] [] 161 (I, J, RF w) _ := next
    refine z_evG 4 (y := if (nI k) < (I 127 3) then z_go 42 [some (.ref 127), some (.int x), some (.int (nI n)), some (.int (nI s)), some (.int (nI b)), some (.int (z_enc (s_least (fun k => decide (((x >>> (nI k &&& 31)) &&& 1) = 1)) (fun t => s_mx (I 133 t) s b n - s_mn (I 133 t) s b 99 n) k))), some (.int (nI k)), s_took (fun k => decide (((x >>> (nI k &&& 31)) &&& 1) = 1)) (fun t => s_mx (I 133 t) s b n - s_mn (I 133 t) s b 99 n) k] [] 161 (I, J, RF w) else z_go 108 [some (.ref 127), some (.int x), some (.int (nI n)), some (.int (nI s)), some (.int (nI b)), some (.int (z_enc (s_least (fun k => decide (((x >>> (nI k &&& 31)) &&& 1) = 1)) (fun t => s_mx (I 133 t) s b n - s_mn (I 133 t) s b 99 n) k))), some (.int (nI k)), s_took (fun k => decide (((x >>> (nI k &&& 31)) &&& 1) = 1)) (fun t => s_mx (I 133 t) s b n - s_mn (I 133 t) s b 99 n) k] [] 161 (I, J, RF w)) (fun _ => rfl) ?_
    refine z_evT ((show _ ↔ k < m from z_ltN rfl h_m (by omega) (by omega)).mpr (by omega)) ?_
    refine z_evL ?_
    refine z_evG 7 (y := if ((x >>> ((nI k) &&& 31)) &&& 1) = 1 then z_go 52 [some (.ref 127), some (.int x), some (.int (nI n)), some (.int (nI s)), some (.int (nI b)), some (.int (z_enc (s_least (fun k => decide (((x >>> (nI k &&& 31)) &&& 1) = 1)) (fun t => s_mx (I 133 t) s b n - s_mn (I 133 t) s b 99 n) k))), some (.int (nI k)), s_took (fun k => decide (((x >>> (nI k &&& 31)) &&& 1) = 1)) (fun t => s_mx (I 133 t) s b n - s_mn (I 133 t) s b 99 n) k] [] 161 (I, J, RF w) else z_go 85 [some (.ref 127), some (.int x), some (.int (nI n)), some (.int (nI s)), some (.int (nI b)), some (.int (z_enc (s_least (fun k => decide (((x >>> (nI k &&& 31)) &&& 1) = 1)) (fun t => s_mx (I 133 t) s b n - s_mn (I 133 t) s b 99 n) k))), some (.int (nI k)), s_took (fun k => decide (((x >>> (nI k &&& 31)) &&& 1) = 1)) (fun t => s_mx (I 133 t) s b n - s_mn (I 133 t) s b 99 n) k] [] 161 (I, J, RF w)) (fun _ => rfl) ?_
    refine z_evI (fun h5 => ?_) (fun h5 => ?_)
    · refine z_evL ?_
      refine z_evG 3 (y := if (z_enc (s_least (fun k => decide (((x >>> (nI k &&& 31)) &&& 1) = 1)) (fun t => s_mx (I 133 t) s b n - s_mn (I 133 t) s b 99 n) k)) = (-1) then z_go 81 [some (.ref 127), some (.int x), some (.int (nI n)), some (.int (nI s)), some (.int (nI b)), some (.int (z_enc (s_least (fun k => decide (((x >>> (nI k &&& 31)) &&& 1) = 1)) (fun t => s_mx (I 133 t) s b n - s_mn (I 133 t) s b 99 n) k))), some (.int (nI k)), s_took (fun k => decide (((x >>> (nI k &&& 31)) &&& 1) = 1)) (fun t => s_mx (I 133 t) s b n - s_mn (I 133 t) s b 99 n) k] [] 161 (I, J, RF w) else z_go 58 [some (.ref 127), some (.int x), some (.int (nI n)), some (.int (nI s)), some (.int (nI b)), some (.int (z_enc (s_least (fun k => decide (((x >>> (nI k &&& 31)) &&& 1) = 1)) (fun t => s_mx (I 133 t) s b n - s_mn (I 133 t) s b 99 n) k))), some (.int (nI k)), s_took (fun k => decide (((x >>> (nI k &&& 31)) &&& 1) = 1)) (fun t => s_mx (I 133 t) s b n - s_mn (I 133 t) s b 99 n) k] [] 161 (I, J, RF w)) (fun _ => rfl) ?_
      refine z_evI (fun h6 => ?_) (fun h6 => ?_)
      · refine z_evL ?_
        refine z_evG 5 (y := if 1 = 0 then z_go 98 [some (.ref 127), some (.int x), some (.int (nI n)), some (.int (nI s)), some (.int (nI b)), some (.int (z_enc (s_least (fun k => decide (((x >>> (nI k &&& 31)) &&& 1) = 1)) (fun t => s_mx (I 133 t) s b n - s_mn (I 133 t) s b 99 n) k))), some (.int (nI k)), some (.int 1)] [] 161 (I, J, RF w) else z_go 93 [some (.ref 127), some (.int x), some (.int (nI n)), some (.int (nI s)), some (.int (nI b)), some (.int (z_enc (s_least (fun k => decide (((x >>> (nI k &&& 31)) &&& 1) = 1)) (fun t => s_mx (I 133 t) s b n - s_mn (I 133 t) s b 99 n) k))), some (.int (nI k)), some (.int 1)] [] 161 (I, J, RF w)) (fun _ => rfl) ?_
        refine z_evI (fun q => absurd q (by decide)) (fun _ => ?_)
        refine z_evL ?_
        refine z_evG 5 (y := z_go 33 [some (.ref 127), some (.int x), some (.int (nI n)), some (.int (nI s)), some (.int (nI b)), some (.int (nI k)), some (.int ((nI k) + 1)), some (.int 1)] [] 161 (I, J, RF w)) (fun _ => rfl) ?_
        refine z_evL ?_
        have hT : (fun k => decide (((x >>> (nI k &&& 31)) &&& 1) = 1)) k = true := decide_eq_true h5
        have hN := (z_enc_none (fun j e => Nat.lt_trans (s_least_lt _ _ _ _ e) (by omega))).mp h6
        rw [s_took_t (s_least_none hT hN), s_least_none hT hN] at nx
        rw [nI_1 k]
        exact nx trivial
      · refine z_evL ?_
        refine z_evG 6 (y := z_ret (z_cl E (d + 2) 240 [.ref 127, .int (nI k), .int (nI n), .int (nI s), .int (nI b)] (161, (I, J, RF w))) 68 [some (.ref 127), some (.int x), some (.int (nI n)), some (.int (nI s)), some (.int (nI b)), some (.int (z_enc (s_least (fun k => decide (((x >>> (nI k &&& 31)) &&& 1) = 1)) (fun t => s_mx (I 133 t) s b n - s_mn (I 133 t) s b 99 n) k))), some (.int (nI k)), s_took (fun k => decide (((x >>> (nI k &&& 31)) &&& 1) = 1)) (fun t => s_mx (I 133 t) s b n - s_mn (I 133 t) s b 99 n) k] []) (fun _ => rfl) ?_
        refine z_evK (v := .int (s_mx (I 133 k) s b n - s_mn (I 133 k) s b 99 n)) (z' := 161) (σ' := (I, J, RF w)) (m_stripesOf E d I J w k n s b (by omega) (by omega) (by omega) (by omega)) ?_
        refine z_evG 6 (y := z_ret (z_cl E (d + 2) 240 [.ref 127, .int (z_enc (s_least (fun k => decide (((x >>> (nI k &&& 31)) &&& 1) = 1)) (fun t => s_mx (I 133 t) s b n - s_mn (I 133 t) s b 99 n) k)), .int (nI n), .int (nI s), .int (nI b)] (161, (I, J, RF w))) 78 [some (.ref 127), some (.int x), some (.int (nI n)), some (.int (nI s)), some (.int (nI b)), some (.int (z_enc (s_least (fun k => decide (((x >>> (nI k &&& 31)) &&& 1) = 1)) (fun t => s_mx (I 133 t) s b n - s_mn (I 133 t) s b 99 n) k))), some (.int (nI k)), s_took (fun k => decide (((x >>> (nI k &&& 31)) &&& 1) = 1)) (fun t => s_mx (I 133 t) s b n - s_mn (I 133 t) s b 99 n) k] [.int (s_mx (I 133 k) s b n - s_mn (I 133 k) s b 99 n)]) (fun _ => rfl) ?_
        refine z_evK (v := .int (s_mx (I 133 ((s_least (fun k => decide (((x >>> (nI k &&& 31)) &&& 1) = 1)) (fun t => s_mx (I 133 t) s b n - s_mn (I 133 t) s b 99 n) k).getD 0)) s b n - s_mn (I 133 ((s_least (fun k => decide (((x >>> (nI k &&& 31)) &&& 1) = 1)) (fun t => s_mx (I 133 t) s b n - s_mn (I 133 t) s b 99 n) k).getD 0)) s b 99 n)) (z' := 161) (σ' := (I, J, RF w)) ((congrArg (fun q => z_cl E (d + 2) 240 [.ref 127, .int q, .int (nI n), .int (nI s), .int (nI b)] (161, I, J, RF w)) ((z_encE (by assumption)) : (z_enc (s_least (fun k => decide (((x >>> (nI k &&& 31)) &&& 1) = 1)) (fun t => s_mx (I 133 t) s b n - s_mn (I 133 t) s b 99 n) k) : Int32) = nI ((s_least (fun k => decide (((x >>> (nI k &&& 31)) &&& 1) = 1)) (fun t => s_mx (I 133 t) s b n - s_mn (I 133 t) s b 99 n) k).getD 0))).trans (m_stripesOf E d I J w ((s_least (fun k => decide (((x >>> (nI k &&& 31)) &&& 1) = 1)) (fun t => s_mx (I 133 t) s b n - s_mn (I 133 t) s b 99 n) k).getD 0) n s b (by have := s_least_g (fun k => decide (((x >>> (nI k &&& 31)) &&& 1) = 1)) (fun t => s_mx (I 133 t) s b n - s_mn (I 133 t) s b 99 n) k; omega) (by omega) (by omega) (by omega))) ?_
        refine z_evG 1 (y := if (s_mx (I 133 k) s b n - s_mn (I 133 k) s b 99 n) < (s_mx (I 133 ((s_least (fun k => decide (((x >>> (nI k &&& 31)) &&& 1) = 1)) (fun t => s_mx (I 133 t) s b n - s_mn (I 133 t) s b 99 n) k).getD 0)) s b n - s_mn (I 133 ((s_least (fun k => decide (((x >>> (nI k &&& 31)) &&& 1) = 1)) (fun t => s_mx (I 133 t) s b n - s_mn (I 133 t) s b 99 n) k).getD 0)) s b 99 n) then z_go 81 [some (.ref 127), some (.int x), some (.int (nI n)), some (.int (nI s)), some (.int (nI b)), some (.int (z_enc (s_least (fun k => decide (((x >>> (nI k &&& 31)) &&& 1) = 1)) (fun t => s_mx (I 133 t) s b n - s_mn (I 133 t) s b 99 n) k))), some (.int (nI k)), s_took (fun k => decide (((x >>> (nI k &&& 31)) &&& 1) = 1)) (fun t => s_mx (I 133 t) s b n - s_mn (I 133 t) s b 99 n) k] [] 161 (I, J, RF w) else z_go 85 [some (.ref 127), some (.int x), some (.int (nI n)), some (.int (nI s)), some (.int (nI b)), some (.int (z_enc (s_least (fun k => decide (((x >>> (nI k &&& 31)) &&& 1) = 1)) (fun t => s_mx (I 133 t) s b n - s_mn (I 133 t) s b 99 n) k))), some (.int (nI k)), s_took (fun k => decide (((x >>> (nI k &&& 31)) &&& 1) = 1)) (fun t => s_mx (I 133 t) s b n - s_mn (I 133 t) s b 99 n) k] [] 161 (I, J, RF w)) (fun _ => rfl) ?_
        refine z_evI (fun h8 => ?_) (fun h8 => ?_)
        · refine z_evL ?_
          refine z_evG 5 (y := if 1 = 0 then z_go 98 [some (.ref 127), some (.int x), some (.int (nI n)), some (.int (nI s)), some (.int (nI b)), some (.int (z_enc (s_least (fun k => decide (((x >>> (nI k &&& 31)) &&& 1) = 1)) (fun t => s_mx (I 133 t) s b n - s_mn (I 133 t) s b 99 n) k))), some (.int (nI k)), some (.int 1)] [] 161 (I, J, RF w) else z_go 93 [some (.ref 127), some (.int x), some (.int (nI n)), some (.int (nI s)), some (.int (nI b)), some (.int (z_enc (s_least (fun k => decide (((x >>> (nI k &&& 31)) &&& 1) = 1)) (fun t => s_mx (I 133 t) s b n - s_mn (I 133 t) s b 99 n) k))), some (.int (nI k)), some (.int 1)] [] 161 (I, J, RF w)) (fun _ => rfl) ?_
          refine z_evI (fun q => absurd q (by decide)) (fun _ => ?_)
          refine z_evL ?_
          refine z_evG 5 (y := z_go 33 [some (.ref 127), some (.int x), some (.int (nI n)), some (.int (nI s)), some (.int (nI b)), some (.int (nI k)), some (.int ((nI k) + 1)), some (.int 1)] [] 161 (I, J, RF w)) (fun _ => rfl) ?_
          refine z_evL ?_
          have hT : (fun k => decide (((x >>> (nI k &&& 31)) &&& 1) = 1)) k = true := decide_eq_true h5
          have hN : s_least (fun k => decide (((x >>> (nI k &&& 31)) &&& 1) = 1)) (fun t => s_mx (I 133 t) s b n - s_mn (I 133 t) s b 99 n) k ≠ none := fun q => h6 ((z_enc_none (fun j e => Nat.lt_trans (s_least_lt _ _ _ _ e) (by omega))).mpr q)
          have hL : (fun t => s_mx (I 133 t) s b n - s_mn (I 133 t) s b 99 n) k < s_worth (fun t => s_mx (I 133 t) s b n - s_mn (I 133 t) s b 99 n) (s_least (fun k => decide (((x >>> (nI k &&& 31)) &&& 1) = 1)) (fun t => s_mx (I 133 t) s b n - s_mn (I 133 t) s b 99 n) k) := by rw [s_worthE h6]; exact h8
          rw [s_took_t (s_least_new hT hL), s_least_new hT hL] at nx
          rw [nI_1 k]
          exact nx trivial
        · refine z_evL ?_
          refine z_evG 4 (y := if 0 = 0 then z_go 98 [some (.ref 127), some (.int x), some (.int (nI n)), some (.int (nI s)), some (.int (nI b)), some (.int (z_enc (s_least (fun k => decide (((x >>> (nI k &&& 31)) &&& 1) = 1)) (fun t => s_mx (I 133 t) s b n - s_mn (I 133 t) s b 99 n) k))), some (.int (nI k)), some (.int 0)] [] 161 (I, J, RF w) else z_go 93 [some (.ref 127), some (.int x), some (.int (nI n)), some (.int (nI s)), some (.int (nI b)), some (.int (z_enc (s_least (fun k => decide (((x >>> (nI k &&& 31)) &&& 1) = 1)) (fun t => s_mx (I 133 t) s b n - s_mn (I 133 t) s b 99 n) k))), some (.int (nI k)), some (.int 0)] [] 161 (I, J, RF w)) (fun _ => rfl) ?_
          refine z_evI (fun _ => ?_) (fun q => absurd (by decide) q)
          refine z_evL ?_
          refine z_evG 4 (y := z_go 33 [some (.ref 127), some (.int x), some (.int (nI n)), some (.int (nI s)), some (.int (nI b)), some (.int (z_enc (s_least (fun k => decide (((x >>> (nI k &&& 31)) &&& 1) = 1)) (fun t => s_mx (I 133 t) s b n - s_mn (I 133 t) s b 99 n) k))), some (.int ((nI k) + 1)), some (.int 0)] [] 161 (I, J, RF w)) (fun _ => rfl) ?_
          refine z_evL ?_
          have hT : (fun k => decide (((x >>> (nI k &&& 31)) &&& 1) = 1)) k = true := decide_eq_true h5
          have hN : s_least (fun k => decide (((x >>> (nI k &&& 31)) &&& 1) = 1)) (fun t => s_mx (I 133 t) s b n - s_mn (I 133 t) s b 99 n) k ≠ none := fun q => h6 ((z_enc_none (fun j e => Nat.lt_trans (s_least_lt _ _ _ _ e) (by omega))).mpr q)
          have hL : ¬ (fun t => s_mx (I 133 t) s b n - s_mn (I 133 t) s b 99 n) k < s_worth (fun t => s_mx (I 133 t) s b n - s_mn (I 133 t) s b 99 n) (s_least (fun k => decide (((x >>> (nI k &&& 31)) &&& 1) = 1)) (fun t => s_mx (I 133 t) s b n - s_mn (I 133 t) s b 99 n) k) := by rw [s_worthE h6]; exact h8
          rw [s_took_f (s_least_old hT hN hL), s_least_old hT hN hL] at nx
          rw [nI_1 k]
          exact nx trivial
    · refine z_evL ?_
      refine z_evG 4 (y := if 0 = 0 then z_go 98 [some (.ref 127), some (.int x), some (.int (nI n)), some (.int (nI s)), some (.int (nI b)), some (.int (z_enc (s_least (fun k => decide (((x >>> (nI k &&& 31)) &&& 1) = 1)) (fun t => s_mx (I 133 t) s b n - s_mn (I 133 t) s b 99 n) k))), some (.int (nI k)), some (.int 0)] [] 161 (I, J, RF w) else z_go 93 [some (.ref 127), some (.int x), some (.int (nI n)), some (.int (nI s)), some (.int (nI b)), some (.int (z_enc (s_least (fun k => decide (((x >>> (nI k &&& 31)) &&& 1) = 1)) (fun t => s_mx (I 133 t) s b n - s_mn (I 133 t) s b 99 n) k))), some (.int (nI k)), some (.int 0)] [] 161 (I, J, RF w)) (fun _ => rfl) ?_
      refine z_evI (fun _ => ?_) (fun q => absurd (by decide) q)
      refine z_evL ?_
      refine z_evG 4 (y := z_go 33 [some (.ref 127), some (.int x), some (.int (nI n)), some (.int (nI s)), some (.int (nI b)), some (.int (z_enc (s_least (fun k => decide (((x >>> (nI k &&& 31)) &&& 1) = 1)) (fun t => s_mx (I 133 t) s b n - s_mn (I 133 t) s b 99 n) k))), some (.int ((nI k) + 1)), some (.int 0)] [] 161 (I, J, RF w)) (fun _ => rfl) ?_
      refine z_evL ?_
      have hT : ¬ (fun k => decide (((x >>> (nI k &&& 31)) &&& 1) = 1)) k = true := fun q => h5 (of_decide_eq_true q)
      rw [s_took_f (s_least_keep hT), s_least_keep hT] at nx
      rw [nI_1 k]
      exact nx trivial
