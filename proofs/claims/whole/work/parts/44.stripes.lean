-- STRIPES
def s_mn (S : Int32) (s b : Nat) (x : Int32) (n : Nat) : Int32 := z_fo (fun i a => if z_on S (i * s) b < a then z_on S (i * s) b else a) x n
def s_mx (S : Int32) (s b : Nat) (n : Nat) : Int32 := z_fo (fun i a => if a < z_on S (i * s) b then z_on S (i * s) b else a) 0 n
set_option maxRecDepth 20000 in
/-- LampHouse$Things.unevenness -/
theorem x_unevenness (E : zE) (d : Nat) (I : Nat → Nat → Int32) (J : Nat → Nat → Int64) (w : Nat) (t n s b : Nat) (ht : t < 20) (hn : n ≤ 16) (hs : s < 16) (hb : b ≤ 16) : z_cl E (d + 2) 126 [.ref 37, .int (nI t), .int (nI n), .int (nI s), .int (nI b)] (161, I, J, RF w) = some (some (.int (s_mx (I 42 t) s b n - s_mn (I 42 t) s b (nI b) n)), 161, I, J, RF w) := by
  refine z_call (d := d + 1) (M := z_m126) rfl rfl ?_
  refine z_evG 6 (y := z_go 10 [some (.ref 37), some (.int (nI t)), some (.int (nI n)), some (.int (nI s)), some (.int (nI b)), some (.int (nI b)), some (.int 0), some (.int 0), none] [] 161 (I, J, RF w)) (fun _ => rfl) ?_
  refine z_evL ?_
  refine z_loop (F := fun k => ([some (.ref 37), some (.int (nI t)), some (.int (nI n)), some (.int (nI s)), some (.int (nI b)), some (.int (s_mn (I 42 t) s b (nI b) k)), some (.int (s_mx (I 42 t) s b k)), some (.int (nI k)), z_di (fun i => z_on (I 42 t) (i * s) b) k], (I, J, RF w))) (P := fun k => True) n trivial (fun hP => ?_) (fun k hk hP next => ?_)
  · show z_Ev E (d + 1) z_m126 10 [some (.ref 37), some (.int (nI t)), some (.int (nI n)), some (.int (nI s)), some (.int (nI b)), some (.int (s_mn (I 42 t) s b (nI b) n)), some (.int (s_mx (I 42 t) s b n)), some (.int (nI n)), z_di (fun i => z_on (I 42 t) (i * s) b) n] [] 161 (I, J, RF w) _
    refine z_evG 3 (y := if (nI n) < (nI n) then z_go 16 [some (.ref 37), some (.int (nI t)), some (.int (nI n)), some (.int (nI s)), some (.int (nI b)), some (.int (s_mn (I 42 t) s b (nI b) n)), some (.int (s_mx (I 42 t) s b n)), some (.int (nI n)), z_di (fun i => z_on (I 42 t) (i * s) b) n] [] 161 (I, J, RF w) else z_go 53 [some (.ref 37), some (.int (nI t)), some (.int (nI n)), some (.int (nI s)), some (.int (nI b)), some (.int (s_mn (I 42 t) s b (nI b) n)), some (.int (s_mx (I 42 t) s b n)), some (.int (nI n)), z_di (fun i => z_on (I 42 t) (i * s) b) n] [] 161 (I, J, RF w)) (fun _ => rfl) ?_
    refine z_evF (mt (show _ ↔ n < n from z_ltN rfl rfl (by omega) (by omega)).mp (by omega)) ?_
    refine z_evL ?_
    refine z_evG 4 (y := some (.inr (some (.int ((s_mx (I 42 t) s b n) - (s_mn (I 42 t) s b (nI b) n))), 161, I, J, RF w))) (fun _ => rfl) ?_
    exact z_evR rfl
  · show z_Ev E (d + 1) z_m126 10 [some (.ref 37), some (.int (nI t)), some (.int (nI n)), some (.int (nI s)), some (.int (nI b)), some (.int (s_mn (I 42 t) s b (nI b) k)), some (.int (s_mx (I 42 t) s b k)), some (.int (nI k)), z_di (fun i => z_on (I 42 t) (i * s) b) k] [] 161 (I, J, RF w) _
    have nx : (True) → z_Ev E (d + 1) z_m126 10 [some (.ref 37), some (.int (nI t)), some (.int (nI n)), some (.int (nI s)), some (.int (nI b)), some (.int (s_mn (I 42 t) s b (nI b) (k + 1))), some (.int (s_mx (I 42 t) s b (k + 1))), some (.int (nI (k + 1))), z_di (fun i => z_on (I 42 t) (i * s) b) (k + 1)] [] 161 (I, J, RF w) _ := next
    refine z_evG 3 (y := if (nI k) < (nI n) then z_go 16 [some (.ref 37), some (.int (nI t)), some (.int (nI n)), some (.int (nI s)), some (.int (nI b)), some (.int (s_mn (I 42 t) s b (nI b) k)), some (.int (s_mx (I 42 t) s b k)), some (.int (nI k)), z_di (fun i => z_on (I 42 t) (i * s) b) k] [] 161 (I, J, RF w) else z_go 53 [some (.ref 37), some (.int (nI t)), some (.int (nI n)), some (.int (nI s)), some (.int (nI b)), some (.int (s_mn (I 42 t) s b (nI b) k)), some (.int (s_mx (I 42 t) s b k)), some (.int (nI k)), z_di (fun i => z_on (I 42 t) (i * s) b) k] [] 161 (I, J, RF w)) (fun _ => rfl) ?_
    refine z_evT ((show _ ↔ k < n from z_ltN rfl rfl (by omega) (by omega)).mpr (by omega)) ?_
    refine z_evL ?_
    refine z_evG 7 (y := z_ret (z_cl E (d + 1) 125 [.ref 37, .int (nI t), .int ((nI k) * (nI s)), .int (nI b)] (161, (I, J, RF w))) 27 [some (.ref 37), some (.int (nI t)), some (.int (nI n)), some (.int (nI s)), some (.int (nI b)), some (.int (s_mn (I 42 t) s b (nI b) k)), some (.int (s_mx (I 42 t) s b k)), some (.int (nI k)), z_di (fun i => z_on (I 42 t) (i * s) b) k] []) (fun _ => rfl) ?_
    refine z_evK (v := .int (z_on (I 42 t) (k * s) b)) (z' := 161) (σ' := (I, J, RF w)) ((congrArg (fun q => z_cl E (d + 1) 125 [.ref 37, .int (nI t), .int q, .int (nI b)] (161, I, J, RF w)) ((z_mulE rfl rfl) : ((nI k) * (nI s) : Int32) = nI (k * s))).trans (x_stepsOn E d I J w t (k * s) b (by omega) (z_225 (by omega) (by omega)) (by omega))) ?_
    refine z_evG 11 (y := z_go 10 [some (.ref 37), some (.int (nI t)), some (.int (nI n)), some (.int (nI s)), some (.int (nI b)), some (.int (if (z_on (I 42 t) (k * s) b) < (s_mn (I 42 t) s b (nI b) k) then (z_on (I 42 t) (k * s) b) else (s_mn (I 42 t) s b (nI b) k))), some (.int (if (s_mx (I 42 t) s b k) < (z_on (I 42 t) (k * s) b) then (z_on (I 42 t) (k * s) b) else (s_mx (I 42 t) s b k))), some (.int ((nI k) + 1)), some (.int (z_on (I 42 t) (k * s) b))] [] 161 (I, J, RF w)) (fun _ => rfl) ?_
    refine z_evL ?_
    rw [nI_1 k]
    exact nx trivial
set_option maxRecDepth 20000 in
/-- LampHouseModel.stripesOf -/
theorem m_stripesOf (E : zE) (d : Nat) (I : Nat → Nat → Int32) (J : Nat → Nat → Int64) (w : Nat) (t n s b : Nat) (ht : t < 20) (hn : n ≤ 16) (hs : s < 16) (hb : b ≤ 16) : z_cl E (d + 2) 240 [.ref 127, .int (nI t), .int (nI n), .int (nI s), .int (nI b)] (161, I, J, RF w) = some (some (.int (s_mx (I 133 t) s b n - s_mn (I 133 t) s b 99 n)), 161, I, J, RF w) := by
  refine z_call (d := d + 1) (M := z_m240) rfl rfl ?_
  refine z_evG 6 (y := z_go 10 [some (.ref 127), some (.int (nI t)), some (.int (nI n)), some (.int (nI s)), some (.int (nI b)), some (.int 99), some (.int 0), some (.int 0), none] [] 161 (I, J, RF w)) (fun _ => rfl) ?_
  refine z_evL ?_
  refine z_loop (F := fun k => ([some (.ref 127), some (.int (nI t)), some (.int (nI n)), some (.int (nI s)), some (.int (nI b)), some (.int (s_mn (I 133 t) s b 99 k)), some (.int (s_mx (I 133 t) s b k)), some (.int (nI k)), z_di (fun i => z_on (I 133 t) (i * s) b) k], (I, J, RF w))) (P := fun k => True) n trivial (fun hP => ?_) (fun k hk hP next => ?_)
  · show z_Ev E (d + 1) z_m240 10 [some (.ref 127), some (.int (nI t)), some (.int (nI n)), some (.int (nI s)), some (.int (nI b)), some (.int (s_mn (I 133 t) s b 99 n)), some (.int (s_mx (I 133 t) s b n)), some (.int (nI n)), z_di (fun i => z_on (I 133 t) (i * s) b) n] [] 161 (I, J, RF w) _
    refine z_evG 3 (y := if (nI n) < (nI n) then z_go 16 [some (.ref 127), some (.int (nI t)), some (.int (nI n)), some (.int (nI s)), some (.int (nI b)), some (.int (s_mn (I 133 t) s b 99 n)), some (.int (s_mx (I 133 t) s b n)), some (.int (nI n)), z_di (fun i => z_on (I 133 t) (i * s) b) n] [] 161 (I, J, RF w) else z_go 66 [some (.ref 127), some (.int (nI t)), some (.int (nI n)), some (.int (nI s)), some (.int (nI b)), some (.int (s_mn (I 133 t) s b 99 n)), some (.int (s_mx (I 133 t) s b n)), some (.int (nI n)), z_di (fun i => z_on (I 133 t) (i * s) b) n] [] 161 (I, J, RF w)) (fun _ => rfl) ?_
    refine z_evF (mt (show _ ↔ n < n from z_ltN rfl rfl (by omega) (by omega)).mp (by omega)) ?_
    refine z_evL ?_
    refine z_evG 4 (y := some (.inr (some (.int ((s_mx (I 133 t) s b n) - (s_mn (I 133 t) s b 99 n))), 161, I, J, RF w))) (fun _ => rfl) ?_
    exact z_evR rfl
  · show z_Ev E (d + 1) z_m240 10 [some (.ref 127), some (.int (nI t)), some (.int (nI n)), some (.int (nI s)), some (.int (nI b)), some (.int (s_mn (I 133 t) s b 99 k)), some (.int (s_mx (I 133 t) s b k)), some (.int (nI k)), z_di (fun i => z_on (I 133 t) (i * s) b) k] [] 161 (I, J, RF w) _
    have nx : (True) → z_Ev E (d + 1) z_m240 10 [some (.ref 127), some (.int (nI t)), some (.int (nI n)), some (.int (nI s)), some (.int (nI b)), some (.int (s_mn (I 133 t) s b 99 (k + 1))), some (.int (s_mx (I 133 t) s b (k + 1))), some (.int (nI (k + 1))), z_di (fun i => z_on (I 133 t) (i * s) b) (k + 1)] [] 161 (I, J, RF w) _ := next
    refine z_evG 3 (y := if (nI k) < (nI n) then z_go 16 [some (.ref 127), some (.int (nI t)), some (.int (nI n)), some (.int (nI s)), some (.int (nI b)), some (.int (s_mn (I 133 t) s b 99 k)), some (.int (s_mx (I 133 t) s b k)), some (.int (nI k)), z_di (fun i => z_on (I 133 t) (i * s) b) k] [] 161 (I, J, RF w) else z_go 66 [some (.ref 127), some (.int (nI t)), some (.int (nI n)), some (.int (nI s)), some (.int (nI b)), some (.int (s_mn (I 133 t) s b 99 k)), some (.int (s_mx (I 133 t) s b k)), some (.int (nI k)), z_di (fun i => z_on (I 133 t) (i * s) b) k] [] 161 (I, J, RF w)) (fun _ => rfl) ?_
    refine z_evT ((show _ ↔ k < n from z_ltN rfl rfl (by omega) (by omega)).mpr (by omega)) ?_
    refine z_evL ?_
    refine z_evG 6 (y := z_ret (z_cl E (d + 1) 237 [.ref 127, .int (nI t), .int (nI s), .int (nI b), .int (nI k)] (161, (I, J, RF w))) 26 [some (.ref 127), some (.int (nI t)), some (.int (nI n)), some (.int (nI s)), some (.int (nI b)), some (.int (s_mn (I 133 t) s b 99 k)), some (.int (s_mx (I 133 t) s b k)), some (.int (nI k)), z_di (fun i => z_on (I 133 t) (i * s) b) k] []) (fun _ => rfl) ?_
    refine z_evK (v := .int (z_on (I 133 t) (k * s) b)) (z' := 161) (σ' := (I, J, RF w)) (m_takes E d I J w t s b k (by omega) (z_225 (by omega) (by omega)) (by omega)) ?_
    refine z_evG 4 (y := if (z_on (I 133 t) (k * s) b) < (s_mn (I 133 t) s b 99 k) then z_go 35 [some (.ref 127), some (.int (nI t)), some (.int (nI n)), some (.int (nI s)), some (.int (nI b)), some (.int (s_mn (I 133 t) s b 99 k)), some (.int (s_mx (I 133 t) s b k)), some (.int (nI k)), some (.int (z_on (I 133 t) (k * s) b))] [] 161 (I, J, RF w) else z_go 40 [some (.ref 127), some (.int (nI t)), some (.int (nI n)), some (.int (nI s)), some (.int (nI b)), some (.int (s_mn (I 133 t) s b 99 k)), some (.int (s_mx (I 133 t) s b k)), some (.int (nI k)), some (.int (z_on (I 133 t) (k * s) b))] [] 161 (I, J, RF w)) (fun _ => rfl) ?_
    refine z_evI (fun h3 => ?_) (fun h3 => ?_)
    · refine z_evL ?_
      refine z_evG 6 (y := if (s_mx (I 133 t) s b k) < (z_on (I 133 t) (k * s) b) then z_go 51 [some (.ref 127), some (.int (nI t)), some (.int (nI n)), some (.int (nI s)), some (.int (nI b)), some (.int (z_on (I 133 t) (k * s) b)), some (.int (s_mx (I 133 t) s b k)), some (.int (nI k)), some (.int (z_on (I 133 t) (k * s) b))] [] 161 (I, J, RF w) else z_go 56 [some (.ref 127), some (.int (nI t)), some (.int (nI n)), some (.int (nI s)), some (.int (nI b)), some (.int (z_on (I 133 t) (k * s) b)), some (.int (s_mx (I 133 t) s b k)), some (.int (nI k)), some (.int (z_on (I 133 t) (k * s) b))] [] 161 (I, J, RF w)) (fun _ => rfl) ?_
      refine z_evI (fun h4 => ?_) (fun h4 => ?_)
      · refine z_evL ?_
        refine z_evG 5 (y := z_go 10 [some (.ref 127), some (.int (nI t)), some (.int (nI n)), some (.int (nI s)), some (.int (nI b)), some (.int (z_on (I 133 t) (k * s) b)), some (.int (z_on (I 133 t) (k * s) b)), some (.int ((nI k) + 1)), some (.int (z_on (I 133 t) (k * s) b))] [] 161 (I, J, RF w)) (fun _ => rfl) ?_
        refine z_evL ?_
        rw [show s_mn (I 133 t) s b 99 (k + 1) = z_on (I 133 t) (k * s) b from if_pos h3, show s_mx (I 133 t) s b (k + 1) = z_on (I 133 t) (k * s) b from if_pos h4] at nx
        rw [nI_1 k]
        exact nx trivial
      · refine z_evL ?_
        refine z_evG 4 (y := z_go 10 [some (.ref 127), some (.int (nI t)), some (.int (nI n)), some (.int (nI s)), some (.int (nI b)), some (.int (z_on (I 133 t) (k * s) b)), some (.int (s_mx (I 133 t) s b k)), some (.int ((nI k) + 1)), some (.int (z_on (I 133 t) (k * s) b))] [] 161 (I, J, RF w)) (fun _ => rfl) ?_
        refine z_evL ?_
        rw [show s_mn (I 133 t) s b 99 (k + 1) = z_on (I 133 t) (k * s) b from if_pos h3, show s_mx (I 133 t) s b (k + 1) = s_mx (I 133 t) s b k from if_neg h4] at nx
        rw [nI_1 k]
        exact nx trivial
    · refine z_evL ?_
      refine z_evG 5 (y := if (s_mx (I 133 t) s b k) < (z_on (I 133 t) (k * s) b) then z_go 51 [some (.ref 127), some (.int (nI t)), some (.int (nI n)), some (.int (nI s)), some (.int (nI b)), some (.int (s_mn (I 133 t) s b 99 k)), some (.int (s_mx (I 133 t) s b k)), some (.int (nI k)), some (.int (z_on (I 133 t) (k * s) b))] [] 161 (I, J, RF w) else z_go 56 [some (.ref 127), some (.int (nI t)), some (.int (nI n)), some (.int (nI s)), some (.int (nI b)), some (.int (s_mn (I 133 t) s b 99 k)), some (.int (s_mx (I 133 t) s b k)), some (.int (nI k)), some (.int (z_on (I 133 t) (k * s) b))] [] 161 (I, J, RF w)) (fun _ => rfl) ?_
      refine z_evI (fun h5 => ?_) (fun h5 => ?_)
      · refine z_evL ?_
        refine z_evG 5 (y := z_go 10 [some (.ref 127), some (.int (nI t)), some (.int (nI n)), some (.int (nI s)), some (.int (nI b)), some (.int (s_mn (I 133 t) s b 99 k)), some (.int (z_on (I 133 t) (k * s) b)), some (.int ((nI k) + 1)), some (.int (z_on (I 133 t) (k * s) b))] [] 161 (I, J, RF w)) (fun _ => rfl) ?_
        refine z_evL ?_
        rw [show s_mn (I 133 t) s b 99 (k + 1) = s_mn (I 133 t) s b 99 k from if_neg h3, show s_mx (I 133 t) s b (k + 1) = z_on (I 133 t) (k * s) b from if_pos h5] at nx
        rw [nI_1 k]
        exact nx trivial
      · refine z_evL ?_
        refine z_evG 4 (y := z_go 10 [some (.ref 127), some (.int (nI t)), some (.int (nI n)), some (.int (nI s)), some (.int (nI b)), some (.int (s_mn (I 133 t) s b 99 k)), some (.int (s_mx (I 133 t) s b k)), some (.int ((nI k) + 1)), some (.int (z_on (I 133 t) (k * s) b))] [] 161 (I, J, RF w)) (fun _ => rfl) ?_
        refine z_evL ?_
        rw [show s_mn (I 133 t) s b 99 (k + 1) = s_mn (I 133 t) s b 99 k from if_neg h3, show s_mx (I 133 t) s b (k + 1) = s_mx (I 133 t) s b k from if_neg h5] at nx
        rw [nI_1 k]
        exact nx trivial
set_option maxRecDepth 20000 in
/-- LampHouse.stripes -/
theorem x_stripes_bad (E : zE) (d : Nat) (I : Nat → Nat → Int32) (J : Nat → Nat → Int64) (w : Nat) (t n s b : Int32) (hbad : ¬ ((¬ t < 0 ∧ t < I 37 7) ∧ (¬ n < 1 ∧ ¬ 16 < n ∧ ¬ s < 0 ∧ s < 16 ∧ ¬ b < 1 ∧ ¬ 16 < b))) : z_cl E (d + 3) 156 [.ref 0, .int t, .int n, .int s, .int b] (161, I, J, RF w) = some (some (.int (-2)), 161, I, J, RF w) := by
  refine z_call (d := d + 2) (M := z_m156) rfl rfl ?_
  refine z_evG 4 (y := z_ret (z_cl E (d + 2) 108 [.ref 37, .int t] (161, (I, J, RF w))) 8 [some (.ref 0), some (.int t), some (.int n), some (.int s), some (.int b)] []) (fun _ => rfl) ?_
  refine z_evK (v := .int (z_bo (¬ t < 0 ∧ t < I 37 7))) (z' := 161) (σ' := (I, J, RF w)) (x_things_has E (d + 1) I J w t) ?_
  refine z_evG 1 (y := if (z_bo (¬ t < 0 ∧ t < I 37 7)) = 0 then z_go 36 [some (.ref 0), some (.int t), some (.int n), some (.int s), some (.int b)] [] 161 (I, J, RF w) else z_go 11 [some (.ref 0), some (.int t), some (.int n), some (.int s), some (.int b)] [] 161 (I, J, RF w)) (fun _ => rfl) ?_
  refine z_evO (fun h1 => ?_) (fun h1 => ?_)
  · refine z_evL ?_
    refine z_evG 2 (y := some (.inr (some (.int (-2)), 161, I, J, RF w))) (fun _ => rfl) ?_
    exact z_evR rfl
  · refine z_evL ?_
    refine z_evG 4 (y := z_ret (z_cl E (d + 2) 174 [.int n, .int s, .int b] (161, (I, J, RF w))) 18 [some (.ref 0), some (.int t), some (.int n), some (.int s), some (.int b)] []) (fun _ => rfl) ?_
    refine z_evK (v := .int (z_bo (¬ n < 1 ∧ ¬ 16 < n ∧ ¬ s < 0 ∧ s < 16 ∧ ¬ b < 1 ∧ ¬ 16 < b))) (z' := 161) (σ' := (I, J, RF w)) (x_isFilm E (d + 1) I J w n s b) ?_
    refine z_evG 1 (y := if (z_bo (¬ n < 1 ∧ ¬ 16 < n ∧ ¬ s < 0 ∧ s < 16 ∧ ¬ b < 1 ∧ ¬ 16 < b)) = 0 then z_go 36 [some (.ref 0), some (.int t), some (.int n), some (.int s), some (.int b)] [] 161 (I, J, RF w) else z_go 21 [some (.ref 0), some (.int t), some (.int n), some (.int s), some (.int b)] [] 161 (I, J, RF w)) (fun _ => rfl) ?_
    refine z_evO (fun h2 => ?_) (fun h2 => ?_)
    · refine z_evL ?_
      refine z_evG 2 (y := some (.inr (some (.int (-2)), 161, I, J, RF w))) (fun _ => rfl) ?_
      exact z_evR rfl
    · refine z_evL ?_
      exact absurd ⟨h1, h2⟩ hbad
set_option maxRecDepth 20000 in
/-- LampHouseModel.stripes -/
theorem m_stripes_bad (E : zE) (d : Nat) (I : Nat → Nat → Int32) (J : Nat → Nat → Int64) (w : Nat) (t n s b : Int32) (hbad : ¬ ((¬ t < 0 ∧ ¬ I 127 3 - 1 < t) ∧ ((¬ n < 1 ∧ ¬ 16 < n) ∧ (¬ s < 0 ∧ ¬ 15 < s) ∧ (¬ b < 1 ∧ ¬ 16 < b)))) : z_cl E (d + 3) 241 [.ref 127, .int t, .int n, .int s, .int b] (161, I, J, RF w) = some (some (.int (-2)), 161, I, J, RF w) := by
  refine z_call (d := d + 2) (M := z_m241) rfl rfl ?_
  refine z_evG 3 (y := z_ret (z_cl E (d + 2) 183 [.ref 127, .int t] (161, (I, J, RF w))) 5 [some (.ref 127), some (.int t), some (.int n), some (.int s), some (.int b)] []) (fun _ => rfl) ?_
  refine z_evK (v := .int (z_bo (¬ t < 0 ∧ ¬ I 127 3 - 1 < t))) (z' := 161) (σ' := (I, J, RF w)) (m_isThing E d I J w t) ?_
  refine z_evG 1 (y := if (z_bo (¬ t < 0 ∧ ¬ I 127 3 - 1 < t)) = 0 then z_go 30 [some (.ref 127), some (.int t), some (.int n), some (.int s), some (.int b)] [] 161 (I, J, RF w) else z_go 8 [some (.ref 127), some (.int t), some (.int n), some (.int s), some (.int b)] [] 161 (I, J, RF w)) (fun _ => rfl) ?_
  refine z_evO (fun h1 => ?_) (fun h1 => ?_)
  · refine z_evL ?_
    refine z_evG 2 (y := some (.inr (some (.int (-2)), 161, I, J, RF w))) (fun _ => rfl) ?_
    exact z_evR rfl
  · refine z_evL ?_
    refine z_evG 4 (y := z_ret (z_cl E (d + 2) 238 [.int n, .int s, .int b] (161, (I, J, RF w))) 15 [some (.ref 127), some (.int t), some (.int n), some (.int s), some (.int b)] []) (fun _ => rfl) ?_
    refine z_evK (v := .int (z_bo ((¬ n < 1 ∧ ¬ 16 < n) ∧ (¬ s < 0 ∧ ¬ 15 < s) ∧ (¬ b < 1 ∧ ¬ 16 < b)))) (z' := 161) (σ' := (I, J, RF w)) (m_isFilm E d I J w n s b) ?_
    refine z_evG 1 (y := if (z_bo ((¬ n < 1 ∧ ¬ 16 < n) ∧ (¬ s < 0 ∧ ¬ 15 < s) ∧ (¬ b < 1 ∧ ¬ 16 < b))) = 0 then z_go 30 [some (.ref 127), some (.int t), some (.int n), some (.int s), some (.int b)] [] 161 (I, J, RF w) else z_go 18 [some (.ref 127), some (.int t), some (.int n), some (.int s), some (.int b)] [] 161 (I, J, RF w)) (fun _ => rfl) ?_
    refine z_evO (fun h2 => ?_) (fun h2 => ?_)
    · refine z_evL ?_
      refine z_evG 2 (y := some (.inr (some (.int (-2)), 161, I, J, RF w))) (fun _ => rfl) ?_
      exact z_evR rfl
    · refine z_evL ?_
      exact absurd ⟨h1, h2⟩ hbad
set_option maxRecDepth 20000 in
/-- LampHouse.stripes -/
theorem x_stripes_ok (E : zE) (d : Nat) (I : Nat → Nat → Int32) (J : Nat → Nat → Int64) (w : Nat) (t n s b m : Nat) (h_m : I 37 7 = nI m) (hm_m : m ≤ 20) (hl_t : t < m) (hl_s : s < 16) (hl_n : n < 17) (hl_b : b < 17) (hn1 : 1 ≤ n) (hb1 : 1 ≤ b) : z_cl E (d + 3) 156 [.ref 0, .int (nI t), .int (nI n), .int (nI s), .int (nI b)] (161, I, J, RF w) = some (some (.int (s_mx (I 42 t) s b n - s_mn (I 42 t) s b (nI b) n)), 161, I, J, RF w) := by
  refine z_call (d := d + 2) (M := z_m156) rfl rfl ?_
  refine z_evG 4 (y := z_ret (z_cl E (d + 2) 108 [.ref 37, .int (nI t)] (161, (I, J, RF w))) 8 [some (.ref 0), some (.int (nI t)), some (.int (nI n)), some (.int (nI s)), some (.int (nI b))] []) (fun _ => rfl) ?_
  refine z_evK (v := .int (z_bo (¬ (nI t) < 0 ∧ (nI t) < I 37 7))) (z' := 161) (σ' := (I, J, RF w)) (x_things_has E (d + 1) I J w (nI t)) ?_
  refine z_evG 1 (y := if (z_bo (¬ (nI t) < 0 ∧ (nI t) < I 37 7)) = 0 then z_go 36 [some (.ref 0), some (.int (nI t)), some (.int (nI n)), some (.int (nI s)), some (.int (nI b))] [] 161 (I, J, RF w) else z_go 11 [some (.ref 0), some (.int (nI t)), some (.int (nI n)), some (.int (nI s)), some (.int (nI b))] [] 161 (I, J, RF w)) (fun _ => rfl) ?_
  refine z_evF (fun q0 => z_bo_0.mp q0 ⟨(mt (show _ ↔ t < 0 from z_ltN rfl rfl (by omega) (by omega)).mp (by omega)), ((show _ ↔ t < m from z_ltN rfl h_m (by omega) (by omega)).mpr (by omega))⟩) ?_
  refine z_evL ?_
  refine z_evG 4 (y := z_ret (z_cl E (d + 2) 174 [.int (nI n), .int (nI s), .int (nI b)] (161, (I, J, RF w))) 18 [some (.ref 0), some (.int (nI t)), some (.int (nI n)), some (.int (nI s)), some (.int (nI b))] []) (fun _ => rfl) ?_
  refine z_evK (v := .int (z_bo (¬ (nI n) < 1 ∧ ¬ 16 < (nI n) ∧ ¬ (nI s) < 0 ∧ (nI s) < 16 ∧ ¬ (nI b) < 1 ∧ ¬ 16 < (nI b)))) (z' := 161) (σ' := (I, J, RF w)) (x_isFilm E (d + 1) I J w (nI n) (nI s) (nI b)) ?_
  refine z_evG 1 (y := if (z_bo (¬ (nI n) < 1 ∧ ¬ 16 < (nI n) ∧ ¬ (nI s) < 0 ∧ (nI s) < 16 ∧ ¬ (nI b) < 1 ∧ ¬ 16 < (nI b))) = 0 then z_go 36 [some (.ref 0), some (.int (nI t)), some (.int (nI n)), some (.int (nI s)), some (.int (nI b))] [] 161 (I, J, RF w) else z_go 21 [some (.ref 0), some (.int (nI t)), some (.int (nI n)), some (.int (nI s)), some (.int (nI b))] [] 161 (I, J, RF w)) (fun _ => rfl) ?_
  refine z_evF (fun q0 => z_bo_0.mp q0 ⟨(mt (show _ ↔ n < 1 from z_ltN rfl rfl (by omega) (by omega)).mp (by omega)), (mt (show _ ↔ 16 < n from z_ltN rfl rfl (by omega) (by omega)).mp (by omega)), (mt (show _ ↔ s < 0 from z_ltN rfl rfl (by omega) (by omega)).mp (by omega)), ((show _ ↔ s < 16 from z_ltN rfl rfl (by omega) (by omega)).mpr (by omega)), (mt (show _ ↔ b < 1 from z_ltN rfl rfl (by omega) (by omega)).mp (by omega)), (mt (show _ ↔ 16 < b from z_ltN rfl rfl (by omega) (by omega)).mp (by omega))⟩) ?_
  refine z_evL ?_
  refine z_evG 7 (y := z_ret (z_cl E (d + 2) 126 [.ref 37, .int (nI t), .int (nI n), .int (nI s), .int (nI b)] (161, (I, J, RF w))) 33 [some (.ref 0), some (.int (nI t)), some (.int (nI n)), some (.int (nI s)), some (.int (nI b))] []) (fun _ => rfl) ?_
  refine z_evK (v := .int (s_mx (I 42 t) s b n - s_mn (I 42 t) s b (nI b) n)) (z' := 161) (σ' := (I, J, RF w)) (x_unevenness E d I J w t n s b (by omega) (by omega) (by omega) (by omega)) ?_
  refine z_evG 2 (y := some (.inr (some (.int (s_mx (I 42 t) s b n - s_mn (I 42 t) s b (nI b) n)), 161, I, J, RF w))) (fun _ => rfl) ?_
  exact z_evR rfl
set_option maxRecDepth 20000 in
/-- LampHouseModel.stripes -/
theorem m_stripes_ok (E : zE) (d : Nat) (I : Nat → Nat → Int32) (J : Nat → Nat → Int64) (w : Nat) (t n s b m : Nat) (h_m : I 127 3 = nI m) (hm_m : m ≤ 20) (hl_t : t < m) (hl_s : s < 16) (hl_n : n < 17) (hl_b : b < 17) (hn1 : 1 ≤ n) (hb1 : 1 ≤ b) : z_cl E (d + 3) 241 [.ref 127, .int (nI t), .int (nI n), .int (nI s), .int (nI b)] (161, I, J, RF w) = some (some (.int (s_mx (I 133 t) s b n - s_mn (I 133 t) s b 99 n)), 161, I, J, RF w) := by
  refine z_call (d := d + 2) (M := z_m241) rfl rfl ?_
  refine z_evG 3 (y := z_ret (z_cl E (d + 2) 183 [.ref 127, .int (nI t)] (161, (I, J, RF w))) 5 [some (.ref 127), some (.int (nI t)), some (.int (nI n)), some (.int (nI s)), some (.int (nI b))] []) (fun _ => rfl) ?_
  refine z_evK (v := .int (z_bo (¬ (nI t) < 0 ∧ ¬ I 127 3 - 1 < (nI t)))) (z' := 161) (σ' := (I, J, RF w)) (m_isThing E d I J w (nI t)) ?_
  refine z_evG 1 (y := if (z_bo (¬ (nI t) < 0 ∧ ¬ I 127 3 - 1 < (nI t))) = 0 then z_go 30 [some (.ref 127), some (.int (nI t)), some (.int (nI n)), some (.int (nI s)), some (.int (nI b))] [] 161 (I, J, RF w) else z_go 8 [some (.ref 127), some (.int (nI t)), some (.int (nI n)), some (.int (nI s)), some (.int (nI b))] [] 161 (I, J, RF w)) (fun _ => rfl) ?_
  refine z_evF (fun q0 => z_bo_0.mp q0 ⟨(mt (show _ ↔ t < 0 from z_ltN rfl rfl (by omega) (by omega)).mp (by omega)), (z_plt h_m rfl (by omega) (by omega))⟩) ?_
  refine z_evL ?_
  refine z_evG 4 (y := z_ret (z_cl E (d + 2) 238 [.int (nI n), .int (nI s), .int (nI b)] (161, (I, J, RF w))) 15 [some (.ref 127), some (.int (nI t)), some (.int (nI n)), some (.int (nI s)), some (.int (nI b))] []) (fun _ => rfl) ?_
  refine z_evK (v := .int (z_bo ((¬ (nI n) < 1 ∧ ¬ 16 < (nI n)) ∧ (¬ (nI s) < 0 ∧ ¬ 15 < (nI s)) ∧ (¬ (nI b) < 1 ∧ ¬ 16 < (nI b))))) (z' := 161) (σ' := (I, J, RF w)) (m_isFilm E d I J w (nI n) (nI s) (nI b)) ?_
  refine z_evG 1 (y := if (z_bo ((¬ (nI n) < 1 ∧ ¬ 16 < (nI n)) ∧ (¬ (nI s) < 0 ∧ ¬ 15 < (nI s)) ∧ (¬ (nI b) < 1 ∧ ¬ 16 < (nI b)))) = 0 then z_go 30 [some (.ref 127), some (.int (nI t)), some (.int (nI n)), some (.int (nI s)), some (.int (nI b))] [] 161 (I, J, RF w) else z_go 18 [some (.ref 127), some (.int (nI t)), some (.int (nI n)), some (.int (nI s)), some (.int (nI b))] [] 161 (I, J, RF w)) (fun _ => rfl) ?_
  refine z_evF (fun q0 => z_bo_0.mp q0 ⟨⟨(mt (show _ ↔ n < 1 from z_ltN rfl rfl (by omega) (by omega)).mp (by omega)), (mt (show _ ↔ 16 < n from z_ltN rfl rfl (by omega) (by omega)).mp (by omega))⟩, ⟨(mt (show _ ↔ s < 0 from z_ltN rfl rfl (by omega) (by omega)).mp (by omega)), (mt (show _ ↔ 15 < s from z_ltN rfl rfl (by omega) (by omega)).mp (by omega))⟩, ⟨(mt (show _ ↔ b < 1 from z_ltN rfl rfl (by omega) (by omega)).mp (by omega)), (mt (show _ ↔ 16 < b from z_ltN rfl rfl (by omega) (by omega)).mp (by omega))⟩⟩) ?_
  refine z_evL ?_
  refine z_evG 6 (y := z_ret (z_cl E (d + 2) 240 [.ref 127, .int (nI t), .int (nI n), .int (nI s), .int (nI b)] (161, (I, J, RF w))) 27 [some (.ref 127), some (.int (nI t)), some (.int (nI n)), some (.int (nI s)), some (.int (nI b))] []) (fun _ => rfl) ?_
  refine z_evK (v := .int (s_mx (I 133 t) s b n - s_mn (I 133 t) s b 99 n)) (z' := 161) (σ' := (I, J, RF w)) (m_stripesOf E d I J w t n s b (by omega) (by omega) (by omega) (by omega)) ?_
  refine z_evG 2 (y := some (.inr (some (.int (s_mx (I 133 t) s b n - s_mn (I 133 t) s b 99 n)), 161, I, J, RF w))) (fun _ => rfl) ?_
  exact z_evR rfl
