-- CHART by the class: the fewest
def s_sml (o : Option Nat) (v : Nat) : Prop := o = none ∨ s_pn v 24 < s_pn (o.getD 0) 24
def s_few (T : Nat → Bool) (n : Nat) : Option Nat := z_fo (fun v o => if (o = none ∨ s_pn v 24 < s_pn (o.getD 0) 24) ∧ T v = true then some v else o) none n
theorem s_few_t {T : Nat → Bool} {v : Nat} (h : (s_few T v = none ∨ s_pn v 24 < s_pn ((s_few T v).getD 0) 24) ∧ T v = true) : s_few T (v + 1) = some v := if_pos h
theorem s_few_f {T : Nat → Bool} {v : Nat} (h : ¬ ((s_few T v = none ∨ s_pn v 24 < s_pn ((s_few T v).getD 0) 24) ∧ T v = true)) : s_few T (v + 1) = s_few T v := if_neg h
theorem s_few_lt (T : Nat → Bool) : ∀ n j, s_few T n = some j → j < n
  | 0, _, h => by cases h
  | n + 1, j, h => by
    by_cases q : (s_few T n = none ∨ s_pn n 24 < s_pn ((s_few T n).getD 0) 24) ∧ T n = true
    · rw [s_few_t q] at h; cases h; omega
    · rw [s_few_f q] at h; have := s_few_lt T n j h; omega
theorem s_few_g (T : Nat → Bool) (k : Nat) : (s_few T k).getD 0 < k + 1 := by
  cases q : s_few T k with
  | none => exact Nat.succ_pos k
  | some j => have := s_few_lt _ _ _ q; show j < k + 1; omega
set_option maxRecDepth 20000 in
theorem x_few_s (E : zE) (d : Nat) (I : Nat → Nat → Int32) (J : Nat → Nat → Int64) (w : Nat) (b : Int32) (m q : Nat) (h_m : I 106 5 = nI m) (hm : m ≤ 28) (h_q : I 106 6 = nI q) (hq : q ≤ 10) : z_Ev E (d + 5) z_m51 5 [some (.ref 106), some (.int b), none, none, none] [] 161 (I, J, RF w) (some (.int (z_enc (s_few (fun v => decide (∀ j, j < m → ¬ (I 109 j &&& nI v) = 0)) (2 ^ q)))), 161, I, J, RF w) := by
  refine z_evG 4 (y := z_go 9 [some (.ref 106), some (.int b), some (.int (-1)), some (.int 0), none] [] 161 (I, J, RF w)) (fun _ => rfl) ?_
  refine z_evL ?_
  refine z_loop (F := fun k => ([some (.ref 106), some (.int b), some (.int (z_enc (s_few (fun v => decide (∀ j, j < m → ¬ (I 109 j &&& nI v) = 0)) k))), some (.int (nI k)), z_di (fun v => if (s_few (fun v => decide (∀ j, j < m → ¬ (I 109 j &&& nI v) = 0)) v = none ∨ s_pn v 24 < s_pn ((s_few (fun v => decide (∀ j, j < m → ¬ (I 109 j &&& nI v) = 0)) v).getD 0) 24) then 1 else 0) k], (I, J, RF w))) (P := fun k => True) (2 ^ q) trivial (fun hP => ?_) (fun k hk hP next => ?_)
  · show z_Ev E (d + 5) z_m51 9 [some (.ref 106), some (.int b), some (.int (z_enc (s_few (fun v => decide (∀ j, j < m → ¬ (I 109 j &&& nI v) = 0)) (2 ^ q)))), some (.int (nI (2 ^ q))), z_di (fun v => if (s_few (fun v => decide (∀ j, j < m → ¬ (I 109 j &&& nI v) = 0)) v = none ∨ s_pn v 24 < s_pn ((s_few (fun v => decide (∀ j, j < m → ¬ (I 109 j &&& nI v) = 0)) v).getD 0) 24) then 1 else 0) (2 ^ q)] [] 161 (I, J, RF w) _
    have h2q : 2 ^ q ≤ 2 ^ 10 := Nat.pow_le_pow_right (by decide) hq
    refine z_evG 6 (y := if (nI (2 ^ q)) < (1 <<< ((I 106 6) &&& 31)) then z_go 19 [some (.ref 106), some (.int b), some (.int (z_enc (s_few (fun v => decide (∀ j, j < m → ¬ (I 109 j &&& nI v) = 0)) (2 ^ q)))), some (.int (nI (2 ^ q))), z_di (fun v => if (s_few (fun v => decide (∀ j, j < m → ¬ (I 109 j &&& nI v) = 0)) v = none ∨ s_pn v 24 < s_pn ((s_few (fun v => decide (∀ j, j < m → ¬ (I 109 j &&& nI v) = 0)) v).getD 0) 24) then 1 else 0) (2 ^ q)] [] 161 (I, J, RF w) else z_go 63 [some (.ref 106), some (.int b), some (.int (z_enc (s_few (fun v => decide (∀ j, j < m → ¬ (I 109 j &&& nI v) = 0)) (2 ^ q)))), some (.int (nI (2 ^ q))), z_di (fun v => if (s_few (fun v => decide (∀ j, j < m → ¬ (I 109 j &&& nI v) = 0)) v = none ∨ s_pn v 24 < s_pn ((s_few (fun v => decide (∀ j, j < m → ¬ (I 109 j &&& nI v) = 0)) v).getD 0) 24) then 1 else 0) (2 ^ q)] [] 161 (I, J, RF w)) (fun _ => rfl) ?_
    refine z_evF (mt (show _ ↔ (2 ^ q) < (2 ^ q) from z_ltN rfl (by rw [h_q]; exact z_one_shl q (by omega)) (by omega) (by omega)).mp (by omega)) ?_
    refine z_evL ?_
    refine z_evG 2 (y := some (.inr (some (.int (z_enc (s_few (fun v => decide (∀ j, j < m → ¬ (I 109 j &&& nI v) = 0)) (2 ^ q)))), 161, I, J, RF w))) (fun _ => rfl) ?_
    exact z_evR rfl
  · show z_Ev E (d + 5) z_m51 9 [some (.ref 106), some (.int b), some (.int (z_enc (s_few (fun v => decide (∀ j, j < m → ¬ (I 109 j &&& nI v) = 0)) k))), some (.int (nI k)), z_di (fun v => if (s_few (fun v => decide (∀ j, j < m → ¬ (I 109 j &&& nI v) = 0)) v = none ∨ s_pn v 24 < s_pn ((s_few (fun v => decide (∀ j, j < m → ¬ (I 109 j &&& nI v) = 0)) v).getD 0) 24) then 1 else 0) k] [] 161 (I, J, RF w) _
    have h2q : 2 ^ q ≤ 2 ^ 10 := Nat.pow_le_pow_right (by decide) hq
    have hgd := s_few_g (fun v => decide (∀ j, j < m → ¬ (I 109 j &&& nI v) = 0)) k
    have p1 := s_pn_le k 24
    have p2 := s_pn_le ((s_few (fun v => decide (∀ j, j < m → ¬ (I 109 j &&& nI v) = 0)) k).getD 0) 24
    have nx : (True) → z_Ev E (d + 5) z_m51 9 [some (.ref 106), some (.int b), some (.int (z_enc (s_few (fun v => decide (∀ j, j < m → ¬ (I 109 j &&& nI v) = 0)) (k + 1)))), some (.int (nI (k + 1))), z_di (fun v => if (s_few (fun v => decide (∀ j, j < m → ¬ (I 109 j &&& nI v) = 0)) v = none ∨ s_pn v 24 < s_pn ((s_few (fun v => decide (∀ j, j < m → ¬ (I 109 j &&& nI v) = 0)) v).getD 0) 24) then 1 else 0) (k + 1)] [] 161 (I, J, RF w) _ := next
    refine z_evG 6 (y := if (nI k) < (1 <<< ((I 106 6) &&& 31)) then z_go 19 [some (.ref 106), some (.int b), some (.int (z_enc (s_few (fun v => decide (∀ j, j < m → ¬ (I 109 j &&& nI v) = 0)) k))), some (.int (nI k)), z_di (fun v => if (s_few (fun v => decide (∀ j, j < m → ¬ (I 109 j &&& nI v) = 0)) v = none ∨ s_pn v 24 < s_pn ((s_few (fun v => decide (∀ j, j < m → ¬ (I 109 j &&& nI v) = 0)) v).getD 0) 24) then 1 else 0) k] [] 161 (I, J, RF w) else z_go 63 [some (.ref 106), some (.int b), some (.int (z_enc (s_few (fun v => decide (∀ j, j < m → ¬ (I 109 j &&& nI v) = 0)) k))), some (.int (nI k)), z_di (fun v => if (s_few (fun v => decide (∀ j, j < m → ¬ (I 109 j &&& nI v) = 0)) v = none ∨ s_pn v 24 < s_pn ((s_few (fun v => decide (∀ j, j < m → ¬ (I 109 j &&& nI v) = 0)) v).getD 0) 24) then 1 else 0) k] [] 161 (I, J, RF w)) (fun _ => rfl) ?_
    refine z_evT ((show _ ↔ k < (2 ^ q) from z_ltN rfl (by rw [h_q]; exact z_one_shl q (by omega)) (by omega) (by omega)).mpr (by omega)) ?_
    refine z_evL ?_
    refine z_evG 3 (y := if (z_enc (s_few (fun v => decide (∀ j, j < m → ¬ (I 109 j &&& nI v) = 0)) k)) = (-1) then z_go 35 [some (.ref 106), some (.int b), some (.int (z_enc (s_few (fun v => decide (∀ j, j < m → ¬ (I 109 j &&& nI v) = 0)) k))), some (.int (nI k)), z_di (fun v => if (s_few (fun v => decide (∀ j, j < m → ¬ (I 109 j &&& nI v) = 0)) v = none ∨ s_pn v 24 < s_pn ((s_few (fun v => decide (∀ j, j < m → ¬ (I 109 j &&& nI v) = 0)) v).getD 0) 24) then 1 else 0) k] [] 161 (I, J, RF w) else z_go 24 [some (.ref 106), some (.int b), some (.int (z_enc (s_few (fun v => decide (∀ j, j < m → ¬ (I 109 j &&& nI v) = 0)) k))), some (.int (nI k)), z_di (fun v => if (s_few (fun v => decide (∀ j, j < m → ¬ (I 109 j &&& nI v) = 0)) v = none ∨ s_pn v 24 < s_pn ((s_few (fun v => decide (∀ j, j < m → ¬ (I 109 j &&& nI v) = 0)) v).getD 0) 24) then 1 else 0) k] [] 161 (I, J, RF w)) (fun _ => rfl) ?_
    refine z_evI (fun h3 => ?_) (fun h3 => ?_)
    · refine z_evL ?_
      refine z_evG 5 (y := if 1 = 0 then z_go 57 [some (.ref 106), some (.int b), some (.int (z_enc (s_few (fun v => decide (∀ j, j < m → ¬ (I 109 j &&& nI v) = 0)) k))), some (.int (nI k)), some (.int 1)] [] 161 (I, J, RF w) else z_go 47 [some (.ref 106), some (.int b), some (.int (z_enc (s_few (fun v => decide (∀ j, j < m → ¬ (I 109 j &&& nI v) = 0)) k))), some (.int (nI k)), some (.int 1)] [] 161 (I, J, RF w)) (fun _ => rfl) ?_
      refine z_evI (fun q => absurd q (by decide)) (fun _ => ?_)
      refine z_evL ?_
      refine z_evG 3 (y := z_ret (z_cl E (d + 5) 53 [.ref 106, .int (nI k)] (161, (I, J, RF w))) 52 [some (.ref 106), some (.int b), some (.int (z_enc (s_few (fun v => decide (∀ j, j < m → ¬ (I 109 j &&& nI v) = 0)) k))), some (.int (nI k)), some (.int 1)] []) (fun _ => rfl) ?_
      refine z_evK (v := .int (z_bo (∀ j, j < m → ¬ (I 109 j &&& (nI k)) = 0))) (z' := 161) (σ' := (I, J, RF w)) (x_tellsApart E (d + 4) I J w (nI k) m h_m (by omega)) ?_
      refine z_evG 1 (y := if (z_bo (∀ j, j < m → ¬ (I 109 j &&& (nI k)) = 0)) = 0 then z_go 57 [some (.ref 106), some (.int b), some (.int (z_enc (s_few (fun v => decide (∀ j, j < m → ¬ (I 109 j &&& nI v) = 0)) k))), some (.int (nI k)), some (.int 1)] [] 161 (I, J, RF w) else z_go 55 [some (.ref 106), some (.int b), some (.int (z_enc (s_few (fun v => decide (∀ j, j < m → ¬ (I 109 j &&& nI v) = 0)) k))), some (.int (nI k)), some (.int 1)] [] 161 (I, J, RF w)) (fun _ => rfl) ?_
      refine z_evO (fun h5 => ?_) (fun h5 => ?_)
      · refine z_evL ?_
        refine z_evG 2 (y := z_go 9 [some (.ref 106), some (.int b), some (.int (z_enc (s_few (fun v => decide (∀ j, j < m → ¬ (I 109 j &&& nI v) = 0)) k))), some (.int ((nI k) + 1)), some (.int 1)] [] 161 (I, J, RF w)) (fun _ => rfl) ?_
        refine z_evL ?_
        have hs : (s_few (fun v => decide (∀ j, j < m → ¬ (I 109 j &&& nI v) = 0)) k = none ∨ s_pn k 24 < s_pn ((s_few (fun v => decide (∀ j, j < m → ¬ (I 109 j &&& nI v) = 0)) k).getD 0) 24) := (.inl ((z_enc_none (fun j e => Nat.lt_trans (s_few_lt _ _ _ e) (by omega))).mp h3))
        rw [show z_di (fun v => if (s_few (fun v => decide (∀ j, j < m → ¬ (I 109 j &&& nI v) = 0)) v = none ∨ s_pn v 24 < s_pn ((s_few (fun v => decide (∀ j, j < m → ¬ (I 109 j &&& nI v) = 0)) v).getD 0) 24) then 1 else 0) (k + 1) = some (.int 1) from congrArg (fun q => some (Value.int q)) (if_pos hs)] at nx
        rw [s_few_f (fun q => h5 (of_decide_eq_true q.2))] at nx
        rw [nI_1 k]
        exact nx trivial
      · refine z_evL ?_
        refine z_evG 4 (y := z_go 9 [some (.ref 106), some (.int b), some (.int (nI k)), some (.int ((nI k) + 1)), some (.int 1)] [] 161 (I, J, RF w)) (fun _ => rfl) ?_
        refine z_evL ?_
        have hs : (s_few (fun v => decide (∀ j, j < m → ¬ (I 109 j &&& nI v) = 0)) k = none ∨ s_pn k 24 < s_pn ((s_few (fun v => decide (∀ j, j < m → ¬ (I 109 j &&& nI v) = 0)) k).getD 0) 24) := (.inl ((z_enc_none (fun j e => Nat.lt_trans (s_few_lt _ _ _ e) (by omega))).mp h3))
        rw [show z_di (fun v => if (s_few (fun v => decide (∀ j, j < m → ¬ (I 109 j &&& nI v) = 0)) v = none ∨ s_pn v 24 < s_pn ((s_few (fun v => decide (∀ j, j < m → ¬ (I 109 j &&& nI v) = 0)) v).getD 0) 24) then 1 else 0) (k + 1) = some (.int 1) from congrArg (fun q => some (Value.int q)) (if_pos hs)] at nx
        rw [s_few_t ⟨hs, decide_eq_true h5⟩] at nx
        rw [nI_1 k]
        exact nx trivial
    · refine z_evL ?_
      refine z_evG 2 (y := z_ret (z_cl E (d + 5) 256 [.int (nI k)] (161, (I, J, RF w))) 28 [some (.ref 106), some (.int b), some (.int (z_enc (s_few (fun v => decide (∀ j, j < m → ¬ (I 109 j &&& nI v) = 0)) k))), some (.int (nI k)), z_di (fun v => if (s_few (fun v => decide (∀ j, j < m → ¬ (I 109 j &&& nI v) = 0)) v = none ∨ s_pn v 24 < s_pn ((s_few (fun v => decide (∀ j, j < m → ¬ (I 109 j &&& nI v) = 0)) v).getD 0) 24) then 1 else 0) k] []) (fun _ => rfl) ?_
      refine z_evK (v := .int (nI (s_pn k 24))) (z' := 161) (σ' := (I, J, RF w)) (x_bitCount E (d + 4) I J w k (by omega)) ?_
      refine z_evG 2 (y := z_ret (z_cl E (d + 5) 256 [.int (z_enc (s_few (fun v => decide (∀ j, j < m → ¬ (I 109 j &&& nI v) = 0)) k))] (161, (I, J, RF w))) 32 [some (.ref 106), some (.int b), some (.int (z_enc (s_few (fun v => decide (∀ j, j < m → ¬ (I 109 j &&& nI v) = 0)) k))), some (.int (nI k)), z_di (fun v => if (s_few (fun v => decide (∀ j, j < m → ¬ (I 109 j &&& nI v) = 0)) v = none ∨ s_pn v 24 < s_pn ((s_few (fun v => decide (∀ j, j < m → ¬ (I 109 j &&& nI v) = 0)) v).getD 0) 24) then 1 else 0) k] [.int (nI (s_pn k 24))]) (fun _ => rfl) ?_
      refine z_evK (v := .int (nI (s_pn ((s_few (fun v => decide (∀ j, j < m → ¬ (I 109 j &&& nI v) = 0)) k).getD 0) 24))) (z' := 161) (σ' := (I, J, RF w)) ((congrArg (fun qz => z_cl E (d + 5) 256 [.int qz] (161, I, J, RF w)) (z_encE (by assumption))).trans (x_bitCount E (d + 4) I J w ((s_few (fun v => decide (∀ j, j < m → ¬ (I 109 j &&& nI v) = 0)) k).getD 0) (by omega))) ?_
      refine z_evG 1 (y := if (nI (s_pn k 24)) < (nI (s_pn ((s_few (fun v => decide (∀ j, j < m → ¬ (I 109 j &&& nI v) = 0)) k).getD 0) 24)) then z_go 35 [some (.ref 106), some (.int b), some (.int (z_enc (s_few (fun v => decide (∀ j, j < m → ¬ (I 109 j &&& nI v) = 0)) k))), some (.int (nI k)), z_di (fun v => if (s_few (fun v => decide (∀ j, j < m → ¬ (I 109 j &&& nI v) = 0)) v = none ∨ s_pn v 24 < s_pn ((s_few (fun v => decide (∀ j, j < m → ¬ (I 109 j &&& nI v) = 0)) v).getD 0) 24) then 1 else 0) k] [] 161 (I, J, RF w) else z_go 39 [some (.ref 106), some (.int b), some (.int (z_enc (s_few (fun v => decide (∀ j, j < m → ¬ (I 109 j &&& nI v) = 0)) k))), some (.int (nI k)), z_di (fun v => if (s_few (fun v => decide (∀ j, j < m → ¬ (I 109 j &&& nI v) = 0)) v = none ∨ s_pn v 24 < s_pn ((s_few (fun v => decide (∀ j, j < m → ¬ (I 109 j &&& nI v) = 0)) v).getD 0) 24) then 1 else 0) k] [] 161 (I, J, RF w)) (fun _ => rfl) ?_
      refine z_evIN (show _ ↔ (s_pn k 24) < (s_pn ((s_few (fun v => decide (∀ j, j < m → ¬ (I 109 j &&& nI v) = 0)) k).getD 0) 24) from z_ltN rfl rfl (by omega) (by omega)) (fun h6 => ?_) (fun h6 => ?_)
      · refine z_evL ?_
        refine z_evG 5 (y := if 1 = 0 then z_go 57 [some (.ref 106), some (.int b), some (.int (z_enc (s_few (fun v => decide (∀ j, j < m → ¬ (I 109 j &&& nI v) = 0)) k))), some (.int (nI k)), some (.int 1)] [] 161 (I, J, RF w) else z_go 47 [some (.ref 106), some (.int b), some (.int (z_enc (s_few (fun v => decide (∀ j, j < m → ¬ (I 109 j &&& nI v) = 0)) k))), some (.int (nI k)), some (.int 1)] [] 161 (I, J, RF w)) (fun _ => rfl) ?_
        refine z_evI (fun q => absurd q (by decide)) (fun _ => ?_)
        refine z_evL ?_
        refine z_evG 3 (y := z_ret (z_cl E (d + 5) 53 [.ref 106, .int (nI k)] (161, (I, J, RF w))) 52 [some (.ref 106), some (.int b), some (.int (z_enc (s_few (fun v => decide (∀ j, j < m → ¬ (I 109 j &&& nI v) = 0)) k))), some (.int (nI k)), some (.int 1)] []) (fun _ => rfl) ?_
        refine z_evK (v := .int (z_bo (∀ j, j < m → ¬ (I 109 j &&& (nI k)) = 0))) (z' := 161) (σ' := (I, J, RF w)) (x_tellsApart E (d + 4) I J w (nI k) m h_m (by omega)) ?_
        refine z_evG 1 (y := if (z_bo (∀ j, j < m → ¬ (I 109 j &&& (nI k)) = 0)) = 0 then z_go 57 [some (.ref 106), some (.int b), some (.int (z_enc (s_few (fun v => decide (∀ j, j < m → ¬ (I 109 j &&& nI v) = 0)) k))), some (.int (nI k)), some (.int 1)] [] 161 (I, J, RF w) else z_go 55 [some (.ref 106), some (.int b), some (.int (z_enc (s_few (fun v => decide (∀ j, j < m → ¬ (I 109 j &&& nI v) = 0)) k))), some (.int (nI k)), some (.int 1)] [] 161 (I, J, RF w)) (fun _ => rfl) ?_
        refine z_evO (fun h8 => ?_) (fun h8 => ?_)
        · refine z_evL ?_
          refine z_evG 2 (y := z_go 9 [some (.ref 106), some (.int b), some (.int (z_enc (s_few (fun v => decide (∀ j, j < m → ¬ (I 109 j &&& nI v) = 0)) k))), some (.int ((nI k) + 1)), some (.int 1)] [] 161 (I, J, RF w)) (fun _ => rfl) ?_
          refine z_evL ?_
          have hs : (s_few (fun v => decide (∀ j, j < m → ¬ (I 109 j &&& nI v) = 0)) k = none ∨ s_pn k 24 < s_pn ((s_few (fun v => decide (∀ j, j < m → ¬ (I 109 j &&& nI v) = 0)) k).getD 0) 24) := (.inr h6)
          rw [show z_di (fun v => if (s_few (fun v => decide (∀ j, j < m → ¬ (I 109 j &&& nI v) = 0)) v = none ∨ s_pn v 24 < s_pn ((s_few (fun v => decide (∀ j, j < m → ¬ (I 109 j &&& nI v) = 0)) v).getD 0) 24) then 1 else 0) (k + 1) = some (.int 1) from congrArg (fun q => some (Value.int q)) (if_pos hs)] at nx
          rw [s_few_f (fun q => h8 (of_decide_eq_true q.2))] at nx
          rw [nI_1 k]
          exact nx trivial
        · refine z_evL ?_
          refine z_evG 4 (y := z_go 9 [some (.ref 106), some (.int b), some (.int (nI k)), some (.int ((nI k) + 1)), some (.int 1)] [] 161 (I, J, RF w)) (fun _ => rfl) ?_
          refine z_evL ?_
          have hs : (s_few (fun v => decide (∀ j, j < m → ¬ (I 109 j &&& nI v) = 0)) k = none ∨ s_pn k 24 < s_pn ((s_few (fun v => decide (∀ j, j < m → ¬ (I 109 j &&& nI v) = 0)) k).getD 0) 24) := (.inr h6)
          rw [show z_di (fun v => if (s_few (fun v => decide (∀ j, j < m → ¬ (I 109 j &&& nI v) = 0)) v = none ∨ s_pn v 24 < s_pn ((s_few (fun v => decide (∀ j, j < m → ¬ (I 109 j &&& nI v) = 0)) v).getD 0) 24) then 1 else 0) (k + 1) = some (.int 1) from congrArg (fun q => some (Value.int q)) (if_pos hs)] at nx
          rw [s_few_t ⟨hs, decide_eq_true h8⟩] at nx
          rw [nI_1 k]
          exact nx trivial
      · refine z_evL ?_
        refine z_evG 4 (y := if 0 = 0 then z_go 57 [some (.ref 106), some (.int b), some (.int (z_enc (s_few (fun v => decide (∀ j, j < m → ¬ (I 109 j &&& nI v) = 0)) k))), some (.int (nI k)), some (.int 0)] [] 161 (I, J, RF w) else z_go 47 [some (.ref 106), some (.int b), some (.int (z_enc (s_few (fun v => decide (∀ j, j < m → ¬ (I 109 j &&& nI v) = 0)) k))), some (.int (nI k)), some (.int 0)] [] 161 (I, J, RF w)) (fun _ => rfl) ?_
        refine z_evI (fun _ => ?_) (fun q => absurd (by decide) q)
        refine z_evL ?_
        refine z_evG 2 (y := z_go 9 [some (.ref 106), some (.int b), some (.int (z_enc (s_few (fun v => decide (∀ j, j < m → ¬ (I 109 j &&& nI v) = 0)) k))), some (.int ((nI k) + 1)), some (.int 0)] [] 161 (I, J, RF w)) (fun _ => rfl) ?_
        refine z_evL ?_
        have hs : ¬ (s_few (fun v => decide (∀ j, j < m → ¬ (I 109 j &&& nI v) = 0)) k = none ∨ s_pn k 24 < s_pn ((s_few (fun v => decide (∀ j, j < m → ¬ (I 109 j &&& nI v) = 0)) k).getD 0) 24) := (fun q => q.elim (fun q => h3 ((z_enc_none (fun j e => Nat.lt_trans (s_few_lt _ _ _ e) (by omega))).mpr q)) (fun q => h6 q))
        rw [show z_di (fun v => if (s_few (fun v => decide (∀ j, j < m → ¬ (I 109 j &&& nI v) = 0)) v = none ∨ s_pn v 24 < s_pn ((s_few (fun v => decide (∀ j, j < m → ¬ (I 109 j &&& nI v) = 0)) v).getD 0) 24) then 1 else 0) (k + 1) = some (.int 0) from congrArg (fun q => some (Value.int q)) (if_neg hs)] at nx
        rw [s_few_f (fun q => hs q.1)] at nx
        rw [nI_1 k]
        exact nx trivial
