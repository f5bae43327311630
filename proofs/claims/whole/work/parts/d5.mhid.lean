-- HIDDEN by the reference
set_option maxRecDepth 20000 in
/-- LampHouseModel.fits -/
theorem m_fits (E : zE) (d : Nat) (I : Nat → Nat → Int32) (J : Nat → Nat → Int64) (w : Nat) (v : Int32) (n : Nat) (r : Nat → Nat) (h_n : I 127 51 = nI n) (hn : n ≤ 4) (hr : ∀ t, t < n → I 155 t = nI (r t) ∧ r t < 30) : z_cl E (d + 1) 244 [.ref 127, .int v] (161, I, J, RF w) = some (some (.int (z_bo (∀ t, t < n → s_fsum (fun c => I 128 (8 * r t + c)) v 8 = I 156 t))), 161, I, J, RF w) := by
  refine z_call (d := d + 0) (M := z_m244) rfl rfl ?_
  refine z_evG 4 (y := z_go 4 [some (.ref 127), some (.int v), some (.int 1), some (.int 0), none, none] [] 161 (I, J, RF w)) (fun _ => rfl) ?_
  refine z_evL ?_
  have st0 : ∀ m0, m0 = 0 → ∀ qz, z_Ev E d z_m244 4 [some (.ref 127), some (.int v), some (.int (z_bo (∀ t, t < m0 → s_fsum (fun c => I 128 (8 * r t + c)) v 8 = I 156 t))), some (.int (nI m0)), z_di (fun t => s_fsum (fun c => I 128 (8 * r t + c)) v 8) m0, z_di (fun _ => nI 8) m0] [] 161 (I, J, RF w) qz → z_Ev E d z_m244 4 [some (.ref 127), some (.int v), some (.int 1), some (.int 0), none, none] [] 161 (I, J, RF w) qz := by intro m0 hm0 qz h; rw [show z_bo (∀ t, t < m0 → s_fsum (fun c => I 128 (8 * r t + c)) v 8 = I 156 t) = 1 from z_bo_t (by subst hm0; exact z_all0)] at h; subst hm0; exact h
  refine st0 0 rfl _ ?_
  refine z_loop (F := fun k => ([some (.ref 127), some (.int v), some (.int (z_bo (∀ t, t < k → s_fsum (fun c => I 128 (8 * r t + c)) v 8 = I 156 t))), some (.int (nI k)), z_di (fun t => s_fsum (fun c => I 128 (8 * r t + c)) v 8) k, z_di (fun _ => nI 8) k], (I, J, RF w))) (P := fun k => True) n trivial (fun hP => ?_) (fun k hk hP next => ?_)
  · show z_Ev E d z_m244 4 [some (.ref 127), some (.int v), some (.int (z_bo (∀ t, t < n → s_fsum (fun c => I 128 (8 * r t + c)) v 8 = I 156 t))), some (.int (nI n)), z_di (fun t => s_fsum (fun c => I 128 (8 * r t + c)) v 8) n, z_di (fun _ => nI 8) n] [] 161 (I, J, RF w) _
    refine z_evG 4 (y := if (nI n) < (I 127 51) then z_go 12 [some (.ref 127), some (.int v), some (.int (z_bo (∀ t, t < n → s_fsum (fun c => I 128 (8 * r t + c)) v 8 = I 156 t))), some (.int (nI n)), z_di (fun t => s_fsum (fun c => I 128 (8 * r t + c)) v 8) n, z_di (fun _ => nI 8) n] [] 161 (I, J, RF w) else z_go 92 [some (.ref 127), some (.int v), some (.int (z_bo (∀ t, t < n → s_fsum (fun c => I 128 (8 * r t + c)) v 8 = I 156 t))), some (.int (nI n)), z_di (fun t => s_fsum (fun c => I 128 (8 * r t + c)) v 8) n, z_di (fun _ => nI 8) n] [] 161 (I, J, RF w)) (fun _ => rfl) ?_
    refine z_evF (mt (show _ ↔ n < n from z_ltN rfl h_n (by omega) (by omega)).mp (by omega)) ?_
    refine z_evL ?_
    refine z_evG 2 (y := z_ck (z_b01 (z_bo (∀ t, t < n → s_fsum (fun c => I 128 (8 * r t + c)) v 8 = I 156 t))) (some (.inr (some (.int (z_bo (∀ t, t < n → s_fsum (fun c => I 128 (8 * r t + c)) v 8 = I 156 t))), 161, I, J, RF w)))) (fun _ => rfl) ?_
    refine z_evC (z_b01o _) ?_
    exact z_evR rfl
  · show z_Ev E d z_m244 4 [some (.ref 127), some (.int v), some (.int (z_bo (∀ t, t < k → s_fsum (fun c => I 128 (8 * r t + c)) v 8 = I 156 t))), some (.int (nI k)), z_di (fun t => s_fsum (fun c => I 128 (8 * r t + c)) v 8) k, z_di (fun _ => nI 8) k] [] 161 (I, J, RF w) _
    have hr30 := (hr k hk).2
    have nx : (True) → z_Ev E d z_m244 4 [some (.ref 127), some (.int v), some (.int (z_bo (∀ t, t < k + 1 → s_fsum (fun c => I 128 (8 * r t + c)) v 8 = I 156 t))), some (.int (nI (k + 1))), z_di (fun t => s_fsum (fun c => I 128 (8 * r t + c)) v 8) (k + 1), z_di (fun _ => nI 8) (k + 1)] [] 161 (I, J, RF w) _ := next
    refine z_evG 4 (y := if (nI k) < (I 127 51) then z_go 12 [some (.ref 127), some (.int v), some (.int (z_bo (∀ t, t < k → s_fsum (fun c => I 128 (8 * r t + c)) v 8 = I 156 t))), some (.int (nI k)), z_di (fun t => s_fsum (fun c => I 128 (8 * r t + c)) v 8) k, z_di (fun _ => nI 8) k] [] 161 (I, J, RF w) else z_go 92 [some (.ref 127), some (.int v), some (.int (z_bo (∀ t, t < k → s_fsum (fun c => I 128 (8 * r t + c)) v 8 = I 156 t))), some (.int (nI k)), z_di (fun t => s_fsum (fun c => I 128 (8 * r t + c)) v 8) k, z_di (fun _ => nI 8) k] [] 161 (I, J, RF w)) (fun _ => rfl) ?_
    refine z_evT ((show _ ↔ k < n from z_ltN rfl h_n (by omega) (by omega)).mpr (by omega)) ?_
    refine z_evL ?_
    refine z_evG 4 (y := z_go 18 [some (.ref 127), some (.int v), some (.int (z_bo (∀ t, t < k → s_fsum (fun c => I 128 (8 * r t + c)) v 8 = I 156 t))), some (.int (nI k)), some (.int 0), some (.int 0)] [] 161 (I, J, RF w)) (fun _ => rfl) ?_
    refine z_evL ?_
    refine z_loop (F := fun j => ([some (.ref 127), some (.int v), some (.int (z_bo (∀ t, t < k → s_fsum (fun c => I 128 (8 * r t + c)) v 8 = I 156 t))), some (.int (nI k)), some (.int (s_fsum (fun c => I 128 (8 * r k + c)) v j)), some (.int (nI j))], (I, J, RF w))) (P := fun j => True) 8 trivial (fun hP => ?_) (fun j hj hP next => ?_)
    · show z_Ev E d z_m244 18 [some (.ref 127), some (.int v), some (.int (z_bo (∀ t, t < k → s_fsum (fun c => I 128 (8 * r t + c)) v 8 = I 156 t))), some (.int (nI k)), some (.int (s_fsum (fun c => I 128 (8 * r k + c)) v 8)), some (.int (nI 8))] [] 161 (I, J, RF w) _
      refine z_evG 3 (y := if (nI 8) < 8 then z_go 25 [some (.ref 127), some (.int v), some (.int (z_bo (∀ t, t < k → s_fsum (fun c => I 128 (8 * r t + c)) v 8 = I 156 t))), some (.int (nI k)), some (.int (s_fsum (fun c => I 128 (8 * r k + c)) v 8)), some (.int (nI 8))] [] 161 (I, J, RF w) else z_go 65 [some (.ref 127), some (.int v), some (.int (z_bo (∀ t, t < k → s_fsum (fun c => I 128 (8 * r t + c)) v 8 = I 156 t))), some (.int (nI k)), some (.int (s_fsum (fun c => I 128 (8 * r k + c)) v 8)), some (.int (nI 8))] [] 161 (I, J, RF w)) (fun _ => rfl) ?_
      refine z_evF (mt (show _ ↔ 8 < 8 from z_ltN rfl rfl (by omega) (by omega)).mp (by omega)) ?_
      refine z_evL ?_
      refine z_evG 2 (y := if (z_bo (∀ t, t < k → s_fsum (fun c => I 128 (8 * r t + c)) v 8 = I 156 t)) = 0 then z_go 84 [some (.ref 127), some (.int v), some (.int (z_bo (∀ t, t < k → s_fsum (fun c => I 128 (8 * r t + c)) v 8 = I 156 t))), some (.int (nI k)), some (.int (s_fsum (fun c => I 128 (8 * r k + c)) v 8)), some (.int (nI 8))] [] 161 (I, J, RF w) else z_go 69 [some (.ref 127), some (.int v), some (.int (z_bo (∀ t, t < k → s_fsum (fun c => I 128 (8 * r t + c)) v 8 = I 156 t))), some (.int (nI k)), some (.int (s_fsum (fun c => I 128 (8 * r k + c)) v 8)), some (.int (nI 8))] [] 161 (I, J, RF w)) (fun _ => rfl) ?_
      refine z_evO (fun h4 => ?_) (fun h4 => ?_)
      · refine z_evL ?_
        refine z_evG 4 (y := z_go 4 [some (.ref 127), some (.int v), some (.int 0), some (.int ((nI k) + 1)), some (.int (s_fsum (fun c => I 128 (8 * r k + c)) v 8)), some (.int (nI 8))] [] 161 (I, J, RF w)) (fun _ => rfl) ?_
        refine z_evL ?_
        rw [show z_bo (∀ t, t < k + 1 → s_fsum (fun c => I 128 (8 * r t + c)) v 8 = I 156 t) = 0 from z_bo_f (fun q => h4 (fun t ht => q t (by omega)))] at nx
        rw [nI_1 k]
        exact nx trivial
      · refine z_evL ?_
        refine z_evG 5 (y := z_ild (z_ia E 161 (I, J, RF w) 156) (nI k) fun vv => z_go 77 [some (.ref 127), some (.int v), some (.int (z_bo (∀ t, t < k → s_fsum (fun c => I 128 (8 * r t + c)) v 8 = I 156 t))), some (.int (nI k)), some (.int (s_fsum (fun c => I 128 (8 * r k + c)) v 8)), some (.int (nI 8))] [.int vv, .int (s_fsum (fun c => I 128 (8 * r k + c)) v 8)] 161 (I, J, RF w)) (fun _ => rfl) ?_
        refine z_evBn (N := 4) (f := (I 156)) (k := k) rfl rfl (by omega) ?_
        refine z_evL ?_
        refine z_evG 1 (y := if (s_fsum (fun c => I 128 (8 * r k + c)) v 8) = (I 156 k) then z_go 80 [some (.ref 127), some (.int v), some (.int (z_bo (∀ t, t < k → s_fsum (fun c => I 128 (8 * r t + c)) v 8 = I 156 t))), some (.int (nI k)), some (.int (s_fsum (fun c => I 128 (8 * r k + c)) v 8)), some (.int (nI 8))] [] 161 (I, J, RF w) else z_go 84 [some (.ref 127), some (.int v), some (.int (z_bo (∀ t, t < k → s_fsum (fun c => I 128 (8 * r t + c)) v 8 = I 156 t))), some (.int (nI k)), some (.int (s_fsum (fun c => I 128 (8 * r k + c)) v 8)), some (.int (nI 8))] [] 161 (I, J, RF w)) (fun _ => rfl) ?_
        refine z_evI (fun h5 => ?_) (fun h5 => ?_)
        · refine z_evL ?_
          refine z_evG 5 (y := z_go 4 [some (.ref 127), some (.int v), some (.int 1), some (.int ((nI k) + 1)), some (.int (s_fsum (fun c => I 128 (8 * r k + c)) v 8)), some (.int (nI 8))] [] 161 (I, J, RF w)) (fun _ => rfl) ?_
          refine z_evL ?_
          rw [show z_bo (∀ t, t < k + 1 → s_fsum (fun c => I 128 (8 * r t + c)) v 8 = I 156 t) = 1 from z_bo_t (z_allS h4 h5)] at nx
          rw [nI_1 k]
          exact nx trivial
        · refine z_evL ?_
          refine z_evG 4 (y := z_go 4 [some (.ref 127), some (.int v), some (.int 0), some (.int ((nI k) + 1)), some (.int (s_fsum (fun c => I 128 (8 * r k + c)) v 8)), some (.int (nI 8))] [] 161 (I, J, RF w)) (fun _ => rfl) ?_
          refine z_evL ?_
          rw [show z_bo (∀ t, t < k + 1 → s_fsum (fun c => I 128 (8 * r t + c)) v 8 = I 156 t) = 0 from z_bo_f (fun q => h5 (q k (by omega)))] at nx
          rw [nI_1 k]
          exact nx trivial
    · show z_Ev E d z_m244 18 [some (.ref 127), some (.int v), some (.int (z_bo (∀ t, t < k → s_fsum (fun c => I 128 (8 * r t + c)) v 8 = I 156 t))), some (.int (nI k)), some (.int (s_fsum (fun c => I 128 (8 * r k + c)) v j)), some (.int (nI j))] [] 161 (I, J, RF w) _
      have nx : (True) → z_Ev E d z_m244 18 [some (.ref 127), some (.int v), some (.int (z_bo (∀ t, t < k → s_fsum (fun c => I 128 (8 * r t + c)) v 8 = I 156 t))), some (.int (nI k)), some (.int (s_fsum (fun c => I 128 (8 * r k + c)) v (j + 1))), some (.int (nI (j + 1)))] [] 161 (I, J, RF w) _ := next
      refine z_evG 3 (y := if (nI j) < 8 then z_go 25 [some (.ref 127), some (.int v), some (.int (z_bo (∀ t, t < k → s_fsum (fun c => I 128 (8 * r t + c)) v 8 = I 156 t))), some (.int (nI k)), some (.int (s_fsum (fun c => I 128 (8 * r k + c)) v j)), some (.int (nI j))] [] 161 (I, J, RF w) else z_go 65 [some (.ref 127), some (.int v), some (.int (z_bo (∀ t, t < k → s_fsum (fun c => I 128 (8 * r t + c)) v 8 = I 156 t))), some (.int (nI k)), some (.int (s_fsum (fun c => I 128 (8 * r k + c)) v j)), some (.int (nI j))] [] 161 (I, J, RF w)) (fun _ => rfl) ?_
      refine z_evT ((show _ ↔ j < 8 from z_ltN rfl rfl (by omega) (by omega)).mpr (by omega)) ?_
      refine z_evL ?_
      refine z_evG 15 (y := z_ild (z_ia E 161 (I, J, RF w) 155) (nI k) fun vv => z_go 47 [some (.ref 127), some (.int v), some (.int (z_bo (∀ t, t < k → s_fsum (fun c => I 128 (8 * r t + c)) v 8 = I 156 t))), some (.int (nI k)), some (.int (s_fsum (fun c => I 128 (8 * r k + c)) v j)), some (.int (nI j))] [.int vv, .int 8, .ref 128, .int ((v >>> ((2 * (nI j)) &&& 31)) &&& 3), .int (s_fsum (fun c => I 128 (8 * r k + c)) v j)] 161 (I, J, RF w)) (fun _ => rfl) ?_
      refine z_evBn (N := 4) (f := (I 155)) (k := k) rfl rfl (by omega) ?_
      refine z_evL ?_
      refine z_evG 4 (y := z_ild (z_ia E 161 (I, J, RF w) 128) ((8 * (I 155 k)) + (nI j)) fun vv => z_go 52 [some (.ref 127), some (.int v), some (.int (z_bo (∀ t, t < k → s_fsum (fun c => I 128 (8 * r t + c)) v 8 = I 156 t))), some (.int (nI k)), some (.int (s_fsum (fun c => I 128 (8 * r k + c)) v j)), some (.int (nI j))] [.int vv, .int ((v >>> ((2 * (nI j)) &&& 31)) &&& 3), .int (s_fsum (fun c => I 128 (8 * r k + c)) v j)] 161 (I, J, RF w)) (fun _ => rfl) ?_
      refine z_evBn (N := 240) (f := (I 128)) (k := (8 * (r k) + j)) rfl (z_addE (z_mulE rfl (hr k hk).1) rfl) (by omega) ?_
      refine z_evL ?_
      refine z_evG 2 (y := z_ck (!decide ((10 : Int32) = 0)) (z_go 55 [some (.ref 127), some (.int v), some (.int (z_bo (∀ t, t < k → s_fsum (fun c => I 128 (8 * r t + c)) v 8 = I 156 t))), some (.int (nI k)), some (.int (s_fsum (fun c => I 128 (8 * r k + c)) v j)), some (.int (nI j))] [.int ((I 128 (8 * (r k) + j)) - (I 128 (8 * (r k) + j)) / 10 * 10), .int ((v >>> ((2 * (nI j)) &&& 31)) &&& 3), .int (s_fsum (fun c => I 128 (8 * r k + c)) v j)] 161 (I, J, RF w))) (fun _ => rfl) ?_
      refine z_evC (by decide) ?_
      refine z_evL ?_
      refine z_evG 5 (y := z_go 18 [some (.ref 127), some (.int v), some (.int (z_bo (∀ t, t < k → s_fsum (fun c => I 128 (8 * r t + c)) v 8 = I 156 t))), some (.int (nI k)), some (.int ((s_fsum (fun c => I 128 (8 * r k + c)) v j) + (((v >>> ((2 * (nI j)) &&& 31)) &&& 3) * ((I 128 (8 * (r k) + j)) - (I 128 (8 * (r k) + j)) / 10 * 10)))), some (.int ((nI j) + 1))] [] 161 (I, J, RF w)) (fun _ => rfl) ?_
      refine z_evL ?_
      rw [nI_1 j]
      exact nx trivial
set_option maxRecDepth 20000 in
/-- LampHouseModel.hidden -/
theorem m_hidden_bad (E : zE) (d : Nat) (I : Nat → Nat → Int32) (J : Nat → Nat → Int64) (w : Nat) (v c : Int32) (hbad : ¬ ((¬ v < 0 ∧ ¬ 2 < v) ∧ (¬ 0 < v ∨ ¬ c < 0 ∧ ¬ 7 < c))) : z_cl E (d + 2) 245 [.ref 127, .int v, .int c] (161, I, J, RF w) = some (some (.int (-2)), 161, I, J, RF w) := by
  refine z_call (d := d + 1) (M := z_m245) rfl rfl ?_
  refine z_evG 4 (y := z_ret (z_cl E (d + 1) 178 [.int v, .int 0, .int 2] (161, (I, J, RF w))) 6 [some (.ref 127), some (.int v), some (.int c), none, none, none, none, none] []) (fun _ => rfl) ?_
  refine z_evK (v := .int (z_bo (¬ v < 0 ∧ ¬ 2 < v))) (z' := 161) (σ' := (I, J, RF w)) (m_in E d I J w v 0 2) ?_
  refine z_evG 1 (y := if (z_bo (¬ v < 0 ∧ ¬ 2 < v)) = 0 then z_go 23 [some (.ref 127), some (.int v), some (.int c), none, none, none, none, none] [] 161 (I, J, RF w) else z_go 9 [some (.ref 127), some (.int v), some (.int c), none, none, none, none, none] [] 161 (I, J, RF w)) (fun _ => rfl) ?_
  refine z_evO (fun h1 => ?_) (fun h1 => ?_)
  · refine z_evL ?_
    refine z_evG 2 (y := some (.inr (some (.int (-2)), 161, I, J, RF w))) (fun _ => rfl) ?_
    exact z_evR rfl
  · refine z_evL ?_
    refine z_evG 2 (y := if 0 < v then z_go 13 [some (.ref 127), some (.int v), some (.int c), none, none, none, none, none] [] 161 (I, J, RF w) else z_go 26 [some (.ref 127), some (.int v), some (.int c), none, none, none, none, none] [] 161 (I, J, RF w)) (fun _ => rfl) ?_
    refine z_evI (fun h2 => ?_) (fun h2 => ?_)
    · refine z_evL ?_
      refine z_evG 4 (y := z_ret (z_cl E (d + 1) 178 [.int c, .int 0, .int 7] (161, (I, J, RF w))) 20 [some (.ref 127), some (.int v), some (.int c), none, none, none, none, none] []) (fun _ => rfl) ?_
      refine z_evK (v := .int (z_bo (¬ c < 0 ∧ ¬ 7 < c))) (z' := 161) (σ' := (I, J, RF w)) (m_in E d I J w c 0 7) ?_
      refine z_evG 1 (y := if (z_bo (¬ c < 0 ∧ ¬ 7 < c)) = 0 then z_go 23 [some (.ref 127), some (.int v), some (.int c), none, none, none, none, none] [] 161 (I, J, RF w) else z_go 26 [some (.ref 127), some (.int v), some (.int c), none, none, none, none, none] [] 161 (I, J, RF w)) (fun _ => rfl) ?_
      refine z_evO (fun h3 => ?_) (fun h3 => ?_)
      · refine z_evL ?_
        refine z_evG 2 (y := some (.inr (some (.int (-2)), 161, I, J, RF w))) (fun _ => rfl) ?_
        exact z_evR rfl
      · refine z_evL ?_
        exact absurd ⟨h1, .inr h3⟩ hbad
    · refine z_evL ?_
      exact absurd ⟨h1, .inl h2⟩ hbad
set_option maxRecDepth 20000 in
theorem m_hd_no (E : zE) (d : Nat) (I : Nat → Nat → Int32) (J : Nat → Nat → Int64) (w : Nat) {r : zR} (v c n l m : Int32) (u : Nat) (x7 : Option Value) (hu : u < 65536) (t1 : z_cl E (d + 3) 244 [.ref 127, .int (nI u)] (161, I, J, RF w) = some (some (.int 0), 161, I, J, RF w)) (hz : z_Ev E (d + 3) z_m245 38 [some (.ref 127), some (.int v), some (.int c), some (.int n), some (.int l), some (.int m), some (.int (nI (u + 1))), x7] [] 161 (I, J, RF w) r) : z_Ev E (d + 3) z_m245 38 [some (.ref 127), some (.int v), some (.int c), some (.int n), some (.int l), some (.int m), some (.int (nI u)), x7] [] 161 (I, J, RF w) r := by
  refine z_evG 3 (y := if (nI u) < 65536 then z_go 46 [some (.ref 127), some (.int v), some (.int c), some (.int n), some (.int l), some (.int m), some (.int (nI u)), x7] [] 161 (I, J, RF w) else z_go 114 [some (.ref 127), some (.int v), some (.int c), some (.int n), some (.int l), some (.int m), some (.int (nI u)), x7] [] 161 (I, J, RF w)) (fun _ => rfl) ?_
  refine z_evT ((show _ ↔ u < 65536 from z_ltN rfl rfl (by omega) (by omega)).mpr hu) ?_
  refine z_evL ?_
  refine z_evG 3 (y := z_ret (z_cl E (d + 3) 244 [.ref 127, .int (nI u)] (161, (I, J, RF w))) 52 [some (.ref 127), some (.int v), some (.int c), some (.int n), some (.int l), some (.int m), some (.int (nI u)), x7] []) (fun _ => rfl) ?_
  refine z_evK (v := .int 0) (z' := 161) (σ' := (I, J, RF w)) t1 ?_
  refine z_evG 1 (y := if 0 = 0 then z_go 108 [some (.ref 127), some (.int v), some (.int c), some (.int n), some (.int l), some (.int m), some (.int (nI u)), x7] [] 161 (I, J, RF w) else z_go 55 [some (.ref 127), some (.int v), some (.int c), some (.int n), some (.int l), some (.int m), some (.int (nI u)), x7] [] 161 (I, J, RF w)) (fun _ => rfl) ?_
  refine z_evI (fun _ => ?_) (fun q => absurd (by decide) q)
  refine z_evL ?_
  refine z_evG 2 (y := z_go 38 [some (.ref 127), some (.int v), some (.int c), some (.int n), some (.int l), some (.int m), some (.int ((nI u) + 1)), x7] [] 161 (I, J, RF w)) (fun _ => rfl) ?_
  refine z_evL ?_
  rw [nI_1 u]
  exact hz
set_option maxRecDepth 20000 in
theorem m_hd_y0 (E : zE) (d : Nat) (I : Nat → Nat → Int32) (J : Nat → Nat → Int64) (w : Nat) {r : zR} (v c n l m : Int32) (u : Nat) (x7 : Option Value) (hu : u < 65536) (t1 : z_cl E (d + 3) 244 [.ref 127, .int (nI u)] (161, I, J, RF w) = some (some (.int 1), 161, I, J, RF w)) (hv : ¬ 0 < v) (hz : z_Ev E (d + 3) z_m245 73 [some (.ref 127), some (.int v), some (.int c), some (.int n), some (.int l), some (.int m), some (.int (nI u)), some (.int 0)] [] 161 (I, J, RF w) r) : z_Ev E (d + 3) z_m245 38 [some (.ref 127), some (.int v), some (.int c), some (.int n), some (.int l), some (.int m), some (.int (nI u)), x7] [] 161 (I, J, RF w) r := by
  refine z_evG 3 (y := if (nI u) < 65536 then z_go 46 [some (.ref 127), some (.int v), some (.int c), some (.int n), some (.int l), some (.int m), some (.int (nI u)), x7] [] 161 (I, J, RF w) else z_go 114 [some (.ref 127), some (.int v), some (.int c), some (.int n), some (.int l), some (.int m), some (.int (nI u)), x7] [] 161 (I, J, RF w)) (fun _ => rfl) ?_
  refine z_evT ((show _ ↔ u < 65536 from z_ltN rfl rfl (by omega) (by omega)).mpr hu) ?_
  refine z_evL ?_
  refine z_evG 3 (y := z_ret (z_cl E (d + 3) 244 [.ref 127, .int (nI u)] (161, (I, J, RF w))) 52 [some (.ref 127), some (.int v), some (.int c), some (.int n), some (.int l), some (.int m), some (.int (nI u)), x7] []) (fun _ => rfl) ?_
  refine z_evK (v := .int 1) (z' := 161) (σ' := (I, J, RF w)) t1 ?_
  refine z_evG 1 (y := if 1 = 0 then z_go 108 [some (.ref 127), some (.int v), some (.int c), some (.int n), some (.int l), some (.int m), some (.int (nI u)), x7] [] 161 (I, J, RF w) else z_go 55 [some (.ref 127), some (.int v), some (.int c), some (.int n), some (.int l), some (.int m), some (.int (nI u)), x7] [] 161 (I, J, RF w)) (fun _ => rfl) ?_
  refine z_evI (fun q => absurd q (by decide)) (fun _ => ?_)
  refine z_evL ?_
  refine z_evG 2 (y := if 0 < v then z_go 59 [some (.ref 127), some (.int v), some (.int c), some (.int n), some (.int l), some (.int m), some (.int (nI u)), x7] [] 161 (I, J, RF w) else z_go 70 [some (.ref 127), some (.int v), some (.int c), some (.int n), some (.int l), some (.int m), some (.int (nI u)), x7] [] 161 (I, J, RF w)) (fun _ => rfl) ?_
  refine z_evF hv ?_
  refine z_evL ?_
  refine z_evG 2 (y := z_go 73 [some (.ref 127), some (.int v), some (.int c), some (.int n), some (.int l), some (.int m), some (.int (nI u)), some (.int 0)] [] 161 (I, J, RF w)) (fun _ => rfl) ?_
  refine z_evL ?_
  exact hz
set_option maxRecDepth 20000 in
theorem m_hd_y1 (E : zE) (d : Nat) (I : Nat → Nat → Int32) (J : Nat → Nat → Int64) (w : Nat) {r : zR} (v c n l m : Int32) (u : Nat) (x7 : Option Value) (hu : u < 65536) (t1 : z_cl E (d + 3) 244 [.ref 127, .int (nI u)] (161, I, J, RF w) = some (some (.int 1), 161, I, J, RF w)) (hv : 0 < v) (hz : z_Ev E (d + 3) z_m245 73 [some (.ref 127), some (.int v), some (.int c), some (.int n), some (.int l), some (.int m), some (.int (nI u)), some (.int (((nI u) >>> ((2 * c) &&& 31)) &&& 3))] [] 161 (I, J, RF w) r) : z_Ev E (d + 3) z_m245 38 [some (.ref 127), some (.int v), some (.int c), some (.int n), some (.int l), some (.int m), some (.int (nI u)), x7] [] 161 (I, J, RF w) r := by
  refine z_evG 3 (y := if (nI u) < 65536 then z_go 46 [some (.ref 127), some (.int v), some (.int c), some (.int n), some (.int l), some (.int m), some (.int (nI u)), x7] [] 161 (I, J, RF w) else z_go 114 [some (.ref 127), some (.int v), some (.int c), some (.int n), some (.int l), some (.int m), some (.int (nI u)), x7] [] 161 (I, J, RF w)) (fun _ => rfl) ?_
  refine z_evT ((show _ ↔ u < 65536 from z_ltN rfl rfl (by omega) (by omega)).mpr hu) ?_
  refine z_evL ?_
  refine z_evG 3 (y := z_ret (z_cl E (d + 3) 244 [.ref 127, .int (nI u)] (161, (I, J, RF w))) 52 [some (.ref 127), some (.int v), some (.int c), some (.int n), some (.int l), some (.int m), some (.int (nI u)), x7] []) (fun _ => rfl) ?_
  refine z_evK (v := .int 1) (z' := 161) (σ' := (I, J, RF w)) t1 ?_
  refine z_evG 1 (y := if 1 = 0 then z_go 108 [some (.ref 127), some (.int v), some (.int c), some (.int n), some (.int l), some (.int m), some (.int (nI u)), x7] [] 161 (I, J, RF w) else z_go 55 [some (.ref 127), some (.int v), some (.int c), some (.int n), some (.int l), some (.int m), some (.int (nI u)), x7] [] 161 (I, J, RF w)) (fun _ => rfl) ?_
  refine z_evI (fun q => absurd q (by decide)) (fun _ => ?_)
  refine z_evL ?_
  refine z_evG 2 (y := if 0 < v then z_go 59 [some (.ref 127), some (.int v), some (.int c), some (.int n), some (.int l), some (.int m), some (.int (nI u)), x7] [] 161 (I, J, RF w) else z_go 70 [some (.ref 127), some (.int v), some (.int c), some (.int n), some (.int l), some (.int m), some (.int (nI u)), x7] [] 161 (I, J, RF w)) (fun _ => rfl) ?_
  refine z_evT hv ?_
  refine z_evL ?_
  refine z_evG 9 (y := z_go 73 [some (.ref 127), some (.int v), some (.int c), some (.int n), some (.int l), some (.int m), some (.int (nI u)), some (.int (((nI u) >>> ((2 * c) &&& 31)) &&& 3))] [] 161 (I, J, RF w)) (fun _ => rfl) ?_
  refine z_evL ?_
  exact hz
set_option maxRecDepth 20000 in
theorem m_hd_TT (E : zE) (d : Nat) (I : Nat → Nat → Int32) (J : Nat → Nat → Int64) (w : Nat) {r : zR} (v c n l m : Int32) (u : Nat) (z : Int32) (ha : z < l) (hb : m < z) (hz : z_Ev E (d + 3) z_m245 38 [some (.ref 127), some (.int v), some (.int c), some (.int (n + 1)), some (.int z), some (.int z), some (.int (nI (u + 1))), some (.int z)] [] 161 (I, J, RF w) r) : z_Ev E (d + 3) z_m245 73 [some (.ref 127), some (.int v), some (.int c), some (.int n), some (.int l), some (.int m), some (.int (nI u)), some (.int z)] [] 161 (I, J, RF w) r := by
  refine z_evG 4 (y := if z < l then z_go 83 [some (.ref 127), some (.int v), some (.int c), some (.int (n + 1)), some (.int l), some (.int m), some (.int (nI u)), some (.int z)] [] 161 (I, J, RF w) else z_go 88 [some (.ref 127), some (.int v), some (.int c), some (.int (n + 1)), some (.int l), some (.int m), some (.int (nI u)), some (.int z)] [] 161 (I, J, RF w)) (fun _ => rfl) ?_
  refine z_evT ha ?_
  refine z_evL ?_
  refine z_evG 6 (y := if m < z then z_go 99 [some (.ref 127), some (.int v), some (.int c), some (.int (n + 1)), some (.int z), some (.int m), some (.int (nI u)), some (.int z)] [] 161 (I, J, RF w) else z_go 104 [some (.ref 127), some (.int v), some (.int c), some (.int (n + 1)), some (.int z), some (.int m), some (.int (nI u)), some (.int z)] [] 161 (I, J, RF w)) (fun _ => rfl) ?_
  refine z_evT hb ?_
  refine z_evL ?_
  refine z_evG 5 (y := z_go 38 [some (.ref 127), some (.int v), some (.int c), some (.int (n + 1)), some (.int z), some (.int z), some (.int ((nI u) + 1)), some (.int z)] [] 161 (I, J, RF w)) (fun _ => rfl) ?_
  refine z_evL ?_
  rw [nI_1 u]
  exact hz
set_option maxRecDepth 20000 in
theorem m_hd_TF (E : zE) (d : Nat) (I : Nat → Nat → Int32) (J : Nat → Nat → Int64) (w : Nat) {r : zR} (v c n l m : Int32) (u : Nat) (z : Int32) (ha : z < l) (hb : ¬ m < z) (hz : z_Ev E (d + 3) z_m245 38 [some (.ref 127), some (.int v), some (.int c), some (.int (n + 1)), some (.int z), some (.int m), some (.int (nI (u + 1))), some (.int z)] [] 161 (I, J, RF w) r) : z_Ev E (d + 3) z_m245 73 [some (.ref 127), some (.int v), some (.int c), some (.int n), some (.int l), some (.int m), some (.int (nI u)), some (.int z)] [] 161 (I, J, RF w) r := by
  refine z_evG 4 (y := if z < l then z_go 83 [some (.ref 127), some (.int v), some (.int c), some (.int (n + 1)), some (.int l), some (.int m), some (.int (nI u)), some (.int z)] [] 161 (I, J, RF w) else z_go 88 [some (.ref 127), some (.int v), some (.int c), some (.int (n + 1)), some (.int l), some (.int m), some (.int (nI u)), some (.int z)] [] 161 (I, J, RF w)) (fun _ => rfl) ?_
  refine z_evT ha ?_
  refine z_evL ?_
  refine z_evG 6 (y := if m < z then z_go 99 [some (.ref 127), some (.int v), some (.int c), some (.int (n + 1)), some (.int z), some (.int m), some (.int (nI u)), some (.int z)] [] 161 (I, J, RF w) else z_go 104 [some (.ref 127), some (.int v), some (.int c), some (.int (n + 1)), some (.int z), some (.int m), some (.int (nI u)), some (.int z)] [] 161 (I, J, RF w)) (fun _ => rfl) ?_
  refine z_evF hb ?_
  refine z_evL ?_
  refine z_evG 4 (y := z_go 38 [some (.ref 127), some (.int v), some (.int c), some (.int (n + 1)), some (.int z), some (.int m), some (.int ((nI u) + 1)), some (.int z)] [] 161 (I, J, RF w)) (fun _ => rfl) ?_
  refine z_evL ?_
  rw [nI_1 u]
  exact hz
set_option maxRecDepth 20000 in
theorem m_hd_FT (E : zE) (d : Nat) (I : Nat → Nat → Int32) (J : Nat → Nat → Int64) (w : Nat) {r : zR} (v c n l m : Int32) (u : Nat) (z : Int32) (ha : ¬ z < l) (hb : m < z) (hz : z_Ev E (d + 3) z_m245 38 [some (.ref 127), some (.int v), some (.int c), some (.int (n + 1)), some (.int l), some (.int z), some (.int (nI (u + 1))), some (.int z)] [] 161 (I, J, RF w) r) : z_Ev E (d + 3) z_m245 73 [some (.ref 127), some (.int v), some (.int c), some (.int n), some (.int l), some (.int m), some (.int (nI u)), some (.int z)] [] 161 (I, J, RF w) r := by
  refine z_evG 4 (y := if z < l then z_go 83 [some (.ref 127), some (.int v), some (.int c), some (.int (n + 1)), some (.int l), some (.int m), some (.int (nI u)), some (.int z)] [] 161 (I, J, RF w) else z_go 88 [some (.ref 127), some (.int v), some (.int c), some (.int (n + 1)), some (.int l), some (.int m), some (.int (nI u)), some (.int z)] [] 161 (I, J, RF w)) (fun _ => rfl) ?_
  refine z_evF ha ?_
  refine z_evL ?_
  refine z_evG 5 (y := if m < z then z_go 99 [some (.ref 127), some (.int v), some (.int c), some (.int (n + 1)), some (.int l), some (.int m), some (.int (nI u)), some (.int z)] [] 161 (I, J, RF w) else z_go 104 [some (.ref 127), some (.int v), some (.int c), some (.int (n + 1)), some (.int l), some (.int m), some (.int (nI u)), some (.int z)] [] 161 (I, J, RF w)) (fun _ => rfl) ?_
  refine z_evT hb ?_
  refine z_evL ?_
  refine z_evG 5 (y := z_go 38 [some (.ref 127), some (.int v), some (.int c), some (.int (n + 1)), some (.int l), some (.int z), some (.int ((nI u) + 1)), some (.int z)] [] 161 (I, J, RF w)) (fun _ => rfl) ?_
  refine z_evL ?_
  rw [nI_1 u]
  exact hz
set_option maxRecDepth 20000 in
theorem m_hd_FF (E : zE) (d : Nat) (I : Nat → Nat → Int32) (J : Nat → Nat → Int64) (w : Nat) {r : zR} (v c n l m : Int32) (u : Nat) (z : Int32) (ha : ¬ z < l) (hb : ¬ m < z) (hz : z_Ev E (d + 3) z_m245 38 [some (.ref 127), some (.int v), some (.int c), some (.int (n + 1)), some (.int l), some (.int m), some (.int (nI (u + 1))), some (.int z)] [] 161 (I, J, RF w) r) : z_Ev E (d + 3) z_m245 73 [some (.ref 127), some (.int v), some (.int c), some (.int n), some (.int l), some (.int m), some (.int (nI u)), some (.int z)] [] 161 (I, J, RF w) r := by
  refine z_evG 4 (y := if z < l then z_go 83 [some (.ref 127), some (.int v), some (.int c), some (.int (n + 1)), some (.int l), some (.int m), some (.int (nI u)), some (.int z)] [] 161 (I, J, RF w) else z_go 88 [some (.ref 127), some (.int v), some (.int c), some (.int (n + 1)), some (.int l), some (.int m), some (.int (nI u)), some (.int z)] [] 161 (I, J, RF w)) (fun _ => rfl) ?_
  refine z_evF ha ?_
  refine z_evL ?_
  refine z_evG 5 (y := if m < z then z_go 99 [some (.ref 127), some (.int v), some (.int c), some (.int (n + 1)), some (.int l), some (.int m), some (.int (nI u)), some (.int z)] [] 161 (I, J, RF w) else z_go 104 [some (.ref 127), some (.int v), some (.int c), some (.int (n + 1)), some (.int l), some (.int m), some (.int (nI u)), some (.int z)] [] 161 (I, J, RF w)) (fun _ => rfl) ?_
  refine z_evF hb ?_
  refine z_evL ?_
  refine z_evG 4 (y := z_go 38 [some (.ref 127), some (.int v), some (.int c), some (.int (n + 1)), some (.int l), some (.int m), some (.int ((nI u) + 1)), some (.int z)] [] 161 (I, J, RF w)) (fun _ => rfl) ?_
  refine z_evL ?_
  rw [nI_1 u]
  exact hz
set_option maxRecDepth 20000 in
theorem m_hd_e0 (E : zE) (d : Nat) (I : Nat → Nat → Int32) (J : Nat → Nat → Int64) (w : Nat) (c n l m : Int32) (u : Nat) (x7 : Option Value) (hu : u = 65536) : z_Ev E (d + 3) z_m245 38 [some (.ref 127), some (.int 0), some (.int c), some (.int n), some (.int l), some (.int m), some (.int (nI u)), x7] [] 161 (I, J, RF w) (some (.int n), 161, I, J, RF w) := by
  refine z_evG 3 (y := if (nI u) < 65536 then z_go 46 [some (.ref 127), some (.int 0), some (.int c), some (.int n), some (.int l), some (.int m), some (.int (nI u)), x7] [] 161 (I, J, RF w) else z_go 114 [some (.ref 127), some (.int 0), some (.int c), some (.int n), some (.int l), some (.int m), some (.int (nI u)), x7] [] 161 (I, J, RF w)) (fun _ => rfl) ?_
  refine z_evF (mt (show _ ↔ u < 65536 from z_ltN rfl rfl (by omega) (by omega)).mp (by omega)) ?_
  refine z_evL ?_
  refine z_evG 2 (y := if 0 = 0 then z_go 118 [some (.ref 127), some (.int 0), some (.int c), some (.int n), some (.int l), some (.int m), some (.int (nI u)), x7] [] 161 (I, J, RF w) else z_go 122 [some (.ref 127), some (.int 0), some (.int c), some (.int n), some (.int l), some (.int m), some (.int (nI u)), x7] [] 161 (I, J, RF w)) (fun _ => rfl) ?_
  refine z_evI (fun _ => ?_) (fun q => absurd (by decide) q)
  refine z_evL ?_
  refine z_evG 3 (y := some (.inr (some (.int n), 161, I, J, RF w))) (fun _ => rfl) ?_
  exact z_evR rfl
set_option maxRecDepth 20000 in
theorem m_hd_e1n (E : zE) (d : Nat) (I : Nat → Nat → Int32) (J : Nat → Nat → Int64) (w : Nat) (c n l m : Int32) (u : Nat) (x7 : Option Value) (hu : u = 65536) (hn : n = 0) : z_Ev E (d + 3) z_m245 38 [some (.ref 127), some (.int 1), some (.int c), some (.int n), some (.int l), some (.int m), some (.int (nI u)), x7] [] 161 (I, J, RF w) (some (.int (-1)), 161, I, J, RF w) := by
  refine z_evG 3 (y := if (nI u) < 65536 then z_go 46 [some (.ref 127), some (.int 1), some (.int c), some (.int n), some (.int l), some (.int m), some (.int (nI u)), x7] [] 161 (I, J, RF w) else z_go 114 [some (.ref 127), some (.int 1), some (.int c), some (.int n), some (.int l), some (.int m), some (.int (nI u)), x7] [] 161 (I, J, RF w)) (fun _ => rfl) ?_
  refine z_evF (mt (show _ ↔ u < 65536 from z_ltN rfl rfl (by omega) (by omega)).mp (by omega)) ?_
  refine z_evL ?_
  refine z_evG 2 (y := if 1 = 0 then z_go 118 [some (.ref 127), some (.int 1), some (.int c), some (.int n), some (.int l), some (.int m), some (.int (nI u)), x7] [] 161 (I, J, RF w) else z_go 122 [some (.ref 127), some (.int 1), some (.int c), some (.int n), some (.int l), some (.int m), some (.int (nI u)), x7] [] 161 (I, J, RF w)) (fun _ => rfl) ?_
  refine z_evI (fun q => absurd q (by decide)) (fun _ => ?_)
  refine z_evL ?_
  refine z_evG 2 (y := if n = 0 then z_go 126 [some (.ref 127), some (.int 1), some (.int c), some (.int n), some (.int l), some (.int m), some (.int (nI u)), x7] [] 161 (I, J, RF w) else z_go 130 [some (.ref 127), some (.int 1), some (.int c), some (.int n), some (.int l), some (.int m), some (.int (nI u)), x7] [] 161 (I, J, RF w)) (fun _ => rfl) ?_
  refine z_evT hn ?_
  refine z_evL ?_
  refine z_evG 3 (y := some (.inr (some (.int (-1)), 161, I, J, RF w))) (fun _ => rfl) ?_
  exact z_evR rfl
set_option maxRecDepth 20000 in
theorem m_hd_e1 (E : zE) (d : Nat) (I : Nat → Nat → Int32) (J : Nat → Nat → Int64) (w : Nat) (c n l m : Int32) (u : Nat) (x7 : Option Value) (hu : u = 65536) (hn : ¬ n = 0) : z_Ev E (d + 3) z_m245 38 [some (.ref 127), some (.int 1), some (.int c), some (.int n), some (.int l), some (.int m), some (.int (nI u)), x7] [] 161 (I, J, RF w) (some (.int l), 161, I, J, RF w) := by
  refine z_evG 3 (y := if (nI u) < 65536 then z_go 46 [some (.ref 127), some (.int 1), some (.int c), some (.int n), some (.int l), some (.int m), some (.int (nI u)), x7] [] 161 (I, J, RF w) else z_go 114 [some (.ref 127), some (.int 1), some (.int c), some (.int n), some (.int l), some (.int m), some (.int (nI u)), x7] [] 161 (I, J, RF w)) (fun _ => rfl) ?_
  refine z_evF (mt (show _ ↔ u < 65536 from z_ltN rfl rfl (by omega) (by omega)).mp (by omega)) ?_
  refine z_evL ?_
  refine z_evG 2 (y := if 1 = 0 then z_go 118 [some (.ref 127), some (.int 1), some (.int c), some (.int n), some (.int l), some (.int m), some (.int (nI u)), x7] [] 161 (I, J, RF w) else z_go 122 [some (.ref 127), some (.int 1), some (.int c), some (.int n), some (.int l), some (.int m), some (.int (nI u)), x7] [] 161 (I, J, RF w)) (fun _ => rfl) ?_
  refine z_evI (fun q => absurd q (by decide)) (fun _ => ?_)
  refine z_evL ?_
  refine z_evG 2 (y := if n = 0 then z_go 126 [some (.ref 127), some (.int 1), some (.int c), some (.int n), some (.int l), some (.int m), some (.int (nI u)), x7] [] 161 (I, J, RF w) else z_go 130 [some (.ref 127), some (.int 1), some (.int c), some (.int n), some (.int l), some (.int m), some (.int (nI u)), x7] [] 161 (I, J, RF w)) (fun _ => rfl) ?_
  refine z_evF hn ?_
  refine z_evL ?_
  refine z_evG 3 (y := if 1 = 1 then z_go 135 [some (.ref 127), some (.int 1), some (.int c), some (.int n), some (.int l), some (.int m), some (.int (nI u)), x7] [] 161 (I, J, RF w) else z_go 140 [some (.ref 127), some (.int 1), some (.int c), some (.int n), some (.int l), some (.int m), some (.int (nI u)), x7] [] 161 (I, J, RF w)) (fun _ => rfl) ?_
  refine z_evI (fun _ => ?_) (fun q => absurd (by decide) q)
  refine z_evL ?_
  refine z_evG 3 (y := some (.inr (some (.int l), 161, I, J, RF w))) (fun _ => rfl) ?_
  exact z_evR rfl
set_option maxRecDepth 20000 in
theorem m_hd_e2n (E : zE) (d : Nat) (I : Nat → Nat → Int32) (J : Nat → Nat → Int64) (w : Nat) (c n l m : Int32) (u : Nat) (x7 : Option Value) (hu : u = 65536) (hn : n = 0) : z_Ev E (d + 3) z_m245 38 [some (.ref 127), some (.int 2), some (.int c), some (.int n), some (.int l), some (.int m), some (.int (nI u)), x7] [] 161 (I, J, RF w) (some (.int (-1)), 161, I, J, RF w) := by
  refine z_evG 3 (y := if (nI u) < 65536 then z_go 46 [some (.ref 127), some (.int 2), some (.int c), some (.int n), some (.int l), some (.int m), some (.int (nI u)), x7] [] 161 (I, J, RF w) else z_go 114 [some (.ref 127), some (.int 2), some (.int c), some (.int n), some (.int l), some (.int m), some (.int (nI u)), x7] [] 161 (I, J, RF w)) (fun _ => rfl) ?_
  refine z_evF (mt (show _ ↔ u < 65536 from z_ltN rfl rfl (by omega) (by omega)).mp (by omega)) ?_
  refine z_evL ?_
  refine z_evG 2 (y := if 2 = 0 then z_go 118 [some (.ref 127), some (.int 2), some (.int c), some (.int n), some (.int l), some (.int m), some (.int (nI u)), x7] [] 161 (I, J, RF w) else z_go 122 [some (.ref 127), some (.int 2), some (.int c), some (.int n), some (.int l), some (.int m), some (.int (nI u)), x7] [] 161 (I, J, RF w)) (fun _ => rfl) ?_
  refine z_evI (fun q => absurd q (by decide)) (fun _ => ?_)
  refine z_evL ?_
  refine z_evG 2 (y := if n = 0 then z_go 126 [some (.ref 127), some (.int 2), some (.int c), some (.int n), some (.int l), some (.int m), some (.int (nI u)), x7] [] 161 (I, J, RF w) else z_go 130 [some (.ref 127), some (.int 2), some (.int c), some (.int n), some (.int l), some (.int m), some (.int (nI u)), x7] [] 161 (I, J, RF w)) (fun _ => rfl) ?_
  refine z_evT hn ?_
  refine z_evL ?_
  refine z_evG 3 (y := some (.inr (some (.int (-1)), 161, I, J, RF w))) (fun _ => rfl) ?_
  exact z_evR rfl
set_option maxRecDepth 20000 in
theorem m_hd_e2 (E : zE) (d : Nat) (I : Nat → Nat → Int32) (J : Nat → Nat → Int64) (w : Nat) (c n l m : Int32) (u : Nat) (x7 : Option Value) (hu : u = 65536) (hn : ¬ n = 0) : z_Ev E (d + 3) z_m245 38 [some (.ref 127), some (.int 2), some (.int c), some (.int n), some (.int l), some (.int m), some (.int (nI u)), x7] [] 161 (I, J, RF w) (some (.int m), 161, I, J, RF w) := by
  refine z_evG 3 (y := if (nI u) < 65536 then z_go 46 [some (.ref 127), some (.int 2), some (.int c), some (.int n), some (.int l), some (.int m), some (.int (nI u)), x7] [] 161 (I, J, RF w) else z_go 114 [some (.ref 127), some (.int 2), some (.int c), some (.int n), some (.int l), some (.int m), some (.int (nI u)), x7] [] 161 (I, J, RF w)) (fun _ => rfl) ?_
  refine z_evF (mt (show _ ↔ u < 65536 from z_ltN rfl rfl (by omega) (by omega)).mp (by omega)) ?_
  refine z_evL ?_
  refine z_evG 2 (y := if 2 = 0 then z_go 118 [some (.ref 127), some (.int 2), some (.int c), some (.int n), some (.int l), some (.int m), some (.int (nI u)), x7] [] 161 (I, J, RF w) else z_go 122 [some (.ref 127), some (.int 2), some (.int c), some (.int n), some (.int l), some (.int m), some (.int (nI u)), x7] [] 161 (I, J, RF w)) (fun _ => rfl) ?_
  refine z_evI (fun q => absurd q (by decide)) (fun _ => ?_)
  refine z_evL ?_
  refine z_evG 2 (y := if n = 0 then z_go 126 [some (.ref 127), some (.int 2), some (.int c), some (.int n), some (.int l), some (.int m), some (.int (nI u)), x7] [] 161 (I, J, RF w) else z_go 130 [some (.ref 127), some (.int 2), some (.int c), some (.int n), some (.int l), some (.int m), some (.int (nI u)), x7] [] 161 (I, J, RF w)) (fun _ => rfl) ?_
  refine z_evF hn ?_
  refine z_evL ?_
  refine z_evG 3 (y := if 2 = 1 then z_go 135 [some (.ref 127), some (.int 2), some (.int c), some (.int n), some (.int l), some (.int m), some (.int (nI u)), x7] [] 161 (I, J, RF w) else z_go 140 [some (.ref 127), some (.int 2), some (.int c), some (.int n), some (.int l), some (.int m), some (.int (nI u)), x7] [] 161 (I, J, RF w)) (fun _ => rfl) ?_
  refine z_evI (fun q => absurd q (by decide)) (fun _ => ?_)
  refine z_evL ?_
  refine z_evG 2 (y := some (.inr (some (.int m), 161, I, J, RF w))) (fun _ => rfl) ?_
  exact z_evR rfl
set_option maxRecDepth 20000 in
theorem m_hd_a0 (E : zE) (d : Nat) (I : Nat → Nat → Int32) (J : Nat → Nat → Int64) (w : Nat) {r : zR} (c : Int32) (hz : z_Ev E (d + 3) z_m245 38 [some (.ref 127), some (.int 0), some (.int c), some (.int 0), some (.int 9), some (.int (-1)), some (.int 0), none] [] 161 (I, J, RF w) r) : z_Ev E (d + 3) z_m245 0 [some (.ref 127), some (.int 0), some (.int c), none, none, none, none, none] [] 161 (I, J, RF w) r := by
  refine z_evG 4 (y := z_ret (z_cl E (d + 3) 178 [.int 0, .int 0, .int 2] (161, (I, J, RF w))) 6 [some (.ref 127), some (.int 0), some (.int c), none, none, none, none, none] []) (fun _ => rfl) ?_
  refine z_evK (v := .int (z_bo (¬ 0 < 0 ∧ ¬ 2 < 0))) (z' := 161) (σ' := (I, J, RF w)) (m_in E (d + 2) I J w 0 0 2) ?_
  refine z_evG 1 (y := if (z_bo (¬ 0 < 0 ∧ ¬ 2 < 0)) = 0 then z_go 23 [some (.ref 127), some (.int 0), some (.int c), none, none, none, none, none] [] 161 (I, J, RF w) else z_go 9 [some (.ref 127), some (.int 0), some (.int c), none, none, none, none, none] [] 161 (I, J, RF w)) (fun _ => rfl) ?_
  refine z_evF (by decide) ?_
  refine z_evL ?_
  refine z_evG 2 (y := if 0 < 0 then z_go 13 [some (.ref 127), some (.int 0), some (.int c), none, none, none, none, none] [] 161 (I, J, RF w) else z_go 26 [some (.ref 127), some (.int 0), some (.int c), none, none, none, none, none] [] 161 (I, J, RF w)) (fun _ => rfl) ?_
  refine z_evI (fun q => absurd q (by decide)) (fun _ => ?_)
  refine z_evL ?_
  refine z_evG 8 (y := z_go 38 [some (.ref 127), some (.int 0), some (.int c), some (.int 0), some (.int 9), some (.int (-1)), some (.int 0), none] [] 161 (I, J, RF w)) (fun _ => rfl) ?_
  refine z_evL ?_
  exact hz
set_option maxRecDepth 20000 in
theorem m_hd_a1 (E : zE) (d : Nat) (I : Nat → Nat → Int32) (J : Nat → Nat → Int64) (w : Nat) {r : zR} (c : Int32) (hc : ¬ c < 0 ∧ ¬ 7 < c) (hz : z_Ev E (d + 3) z_m245 38 [some (.ref 127), some (.int 1), some (.int c), some (.int 0), some (.int 9), some (.int (-1)), some (.int 0), none] [] 161 (I, J, RF w) r) : z_Ev E (d + 3) z_m245 0 [some (.ref 127), some (.int 1), some (.int c), none, none, none, none, none] [] 161 (I, J, RF w) r := by
  refine z_evG 4 (y := z_ret (z_cl E (d + 3) 178 [.int 1, .int 0, .int 2] (161, (I, J, RF w))) 6 [some (.ref 127), some (.int 1), some (.int c), none, none, none, none, none] []) (fun _ => rfl) ?_
  refine z_evK (v := .int (z_bo (¬ 1 < 0 ∧ ¬ 2 < 1))) (z' := 161) (σ' := (I, J, RF w)) (m_in E (d + 2) I J w 1 0 2) ?_
  refine z_evG 1 (y := if (z_bo (¬ 1 < 0 ∧ ¬ 2 < 1)) = 0 then z_go 23 [some (.ref 127), some (.int 1), some (.int c), none, none, none, none, none] [] 161 (I, J, RF w) else z_go 9 [some (.ref 127), some (.int 1), some (.int c), none, none, none, none, none] [] 161 (I, J, RF w)) (fun _ => rfl) ?_
  refine z_evF (by decide) ?_
  refine z_evL ?_
  refine z_evG 2 (y := if 0 < 1 then z_go 13 [some (.ref 127), some (.int 1), some (.int c), none, none, none, none, none] [] 161 (I, J, RF w) else z_go 26 [some (.ref 127), some (.int 1), some (.int c), none, none, none, none, none] [] 161 (I, J, RF w)) (fun _ => rfl) ?_
  refine z_evI (fun _ => ?_) (fun q => absurd (by decide) q)
  refine z_evL ?_
  refine z_evG 4 (y := z_ret (z_cl E (d + 3) 178 [.int c, .int 0, .int 7] (161, (I, J, RF w))) 20 [some (.ref 127), some (.int 1), some (.int c), none, none, none, none, none] []) (fun _ => rfl) ?_
  refine z_evK (v := .int (z_bo (¬ c < 0 ∧ ¬ 7 < c))) (z' := 161) (σ' := (I, J, RF w)) (m_in E (d + 2) I J w c 0 7) ?_
  refine z_evG 1 (y := if (z_bo (¬ c < 0 ∧ ¬ 7 < c)) = 0 then z_go 23 [some (.ref 127), some (.int 1), some (.int c), none, none, none, none, none] [] 161 (I, J, RF w) else z_go 26 [some (.ref 127), some (.int 1), some (.int c), none, none, none, none, none] [] 161 (I, J, RF w)) (fun _ => rfl) ?_
  refine z_evF (fun q0 => z_bo_0.mp q0 hc) ?_
  refine z_evL ?_
  refine z_evG 8 (y := z_go 38 [some (.ref 127), some (.int 1), some (.int c), some (.int 0), some (.int 9), some (.int (-1)), some (.int 0), none] [] 161 (I, J, RF w)) (fun _ => rfl) ?_
  refine z_evL ?_
  exact hz
set_option maxRecDepth 20000 in
theorem m_hd_a2 (E : zE) (d : Nat) (I : Nat → Nat → Int32) (J : Nat → Nat → Int64) (w : Nat) {r : zR} (c : Int32) (hc : ¬ c < 0 ∧ ¬ 7 < c) (hz : z_Ev E (d + 3) z_m245 38 [some (.ref 127), some (.int 2), some (.int c), some (.int 0), some (.int 9), some (.int (-1)), some (.int 0), none] [] 161 (I, J, RF w) r) : z_Ev E (d + 3) z_m245 0 [some (.ref 127), some (.int 2), some (.int c), none, none, none, none, none] [] 161 (I, J, RF w) r := by
  refine z_evG 4 (y := z_ret (z_cl E (d + 3) 178 [.int 2, .int 0, .int 2] (161, (I, J, RF w))) 6 [some (.ref 127), some (.int 2), some (.int c), none, none, none, none, none] []) (fun _ => rfl) ?_
  refine z_evK (v := .int (z_bo (¬ 2 < 0 ∧ ¬ 2 < 2))) (z' := 161) (σ' := (I, J, RF w)) (m_in E (d + 2) I J w 2 0 2) ?_
  refine z_evG 1 (y := if (z_bo (¬ 2 < 0 ∧ ¬ 2 < 2)) = 0 then z_go 23 [some (.ref 127), some (.int 2), some (.int c), none, none, none, none, none] [] 161 (I, J, RF w) else z_go 9 [some (.ref 127), some (.int 2), some (.int c), none, none, none, none, none] [] 161 (I, J, RF w)) (fun _ => rfl) ?_
  refine z_evF (by decide) ?_
  refine z_evL ?_
  refine z_evG 2 (y := if 0 < 2 then z_go 13 [some (.ref 127), some (.int 2), some (.int c), none, none, none, none, none] [] 161 (I, J, RF w) else z_go 26 [some (.ref 127), some (.int 2), some (.int c), none, none, none, none, none] [] 161 (I, J, RF w)) (fun _ => rfl) ?_
  refine z_evI (fun _ => ?_) (fun q => absurd (by decide) q)
  refine z_evL ?_
  refine z_evG 4 (y := z_ret (z_cl E (d + 3) 178 [.int c, .int 0, .int 7] (161, (I, J, RF w))) 20 [some (.ref 127), some (.int 2), some (.int c), none, none, none, none, none] []) (fun _ => rfl) ?_
  refine z_evK (v := .int (z_bo (¬ c < 0 ∧ ¬ 7 < c))) (z' := 161) (σ' := (I, J, RF w)) (m_in E (d + 2) I J w c 0 7) ?_
  refine z_evG 1 (y := if (z_bo (¬ c < 0 ∧ ¬ 7 < c)) = 0 then z_go 23 [some (.ref 127), some (.int 2), some (.int c), none, none, none, none, none] [] 161 (I, J, RF w) else z_go 26 [some (.ref 127), some (.int 2), some (.int c), none, none, none, none, none] [] 161 (I, J, RF w)) (fun _ => rfl) ?_
  refine z_evF (fun q0 => z_bo_0.mp q0 hc) ?_
  refine z_evL ?_
  refine z_evG 8 (y := z_go 38 [some (.ref 127), some (.int 2), some (.int c), some (.int 0), some (.int 9), some (.int (-1)), some (.int 0), none] [] 161 (I, J, RF w)) (fun _ => rfl) ?_
  refine z_evL ?_
  exact hz
