-- BOTH by the reference; ROW; FEED
/-- a place that the loop's body fills: nothing at first, then what the round before put there -/
def z_di (f : Nat → Int32) : Nat → Option Value
  | 0 => none
  | n + 1 => some (.int (f n))
def z_dj (f : Nat → Int64) : Nat → Option Value
  | 0 => none
  | n + 1 => some (.long (f n))
set_option maxRecDepth 20000 in
/-- LampHouseModel.both -/
theorem m_both_ok (E : zE) (d : Nat) (I : Nat → Nat → Int32) (J : Nat → Nat → Int64) (w : Nat) (a b n : Nat) (h_n : I 127 9 = nI n) (hm_n : n ≤ 20) (hl_a : a < n) (hl_b : b < n) (hf : n < 20) : z_cl E (d + 3) 193 [.ref 127, .int (nI a), .int (nI b)] (161, I, J, RF w) = some (some (.int (nI n)), 161, (z_u2 (z_ur I 134 (z_fil (I 134) (8 * n) 8 (fun c => if 1000000000 < I 134 (8 * a + c) + I 134 (8 * b + c) then 1000000000 else I 134 (8 * a + c) + I 134 (8 * b + c)))) 127 9 (nI (n + 1))), J, RF w) := by
  refine z_call (d := d + 2) (M := z_m193) rfl rfl ?_
  refine z_evG 3 (y := z_ret (z_cl E (d + 2) 184 [.ref 127, .int (nI a)] (161, (I, J, RF w))) 5 [some (.ref 127), some (.int (nI a)), some (.int (nI b)), none, none] []) (fun _ => rfl) ?_
  refine z_evK (v := .int (z_bo (¬ (nI a) < 0 ∧ ¬ I 127 9 - 1 < (nI a)))) (z' := 161) (σ' := (I, J, RF w)) (m_isLight E d I J w (nI a)) ?_
  refine z_evG 1 (y := if (z_bo (¬ (nI a) < 0 ∧ ¬ I 127 9 - 1 < (nI a))) = 0 then z_go 16 [some (.ref 127), some (.int (nI a)), some (.int (nI b)), none, none] [] 161 (I, J, RF w) else z_go 8 [some (.ref 127), some (.int (nI a)), some (.int (nI b)), none, none] [] 161 (I, J, RF w)) (fun _ => rfl) ?_
  refine z_evF (fun q => z_bo_0.mp q ⟨(mt (show _ ↔ a < 0 from z_ltN rfl rfl (by omega) (by omega)).mp (by omega)), (z_plt h_n rfl (by omega) (by omega))⟩) ?_
  refine z_evL ?_
  refine z_evG 3 (y := z_ret (z_cl E (d + 2) 184 [.ref 127, .int (nI b)] (161, (I, J, RF w))) 13 [some (.ref 127), some (.int (nI a)), some (.int (nI b)), none, none] []) (fun _ => rfl) ?_
  refine z_evK (v := .int (z_bo (¬ (nI b) < 0 ∧ ¬ I 127 9 - 1 < (nI b)))) (z' := 161) (σ' := (I, J, RF w)) (m_isLight E d I J w (nI b)) ?_
  refine z_evG 1 (y := if (z_bo (¬ (nI b) < 0 ∧ ¬ I 127 9 - 1 < (nI b))) = 0 then z_go 16 [some (.ref 127), some (.int (nI a)), some (.int (nI b)), none, none] [] 161 (I, J, RF w) else z_go 19 [some (.ref 127), some (.int (nI a)), some (.int (nI b)), none, none] [] 161 (I, J, RF w)) (fun _ => rfl) ?_
  refine z_evF (fun q => z_bo_0.mp q ⟨(mt (show _ ↔ b < 0 from z_ltN rfl rfl (by omega) (by omega)).mp (by omega)), (z_plt h_n rfl (by omega) (by omega))⟩) ?_
  refine z_evL ?_
  refine z_evG 4 (y := if (I 127 9) = 20 then z_go 28 [some (.ref 127), some (.int (nI a)), some (.int (nI b)), none, none] [] 161 (I, J, RF w) else z_go 31 [some (.ref 127), some (.int (nI a)), some (.int (nI b)), none, none] [] 161 (I, J, RF w)) (fun _ => rfl) ?_
  refine z_evF ((mt (show _ ↔ n = 20 from z_eqN h_n rfl (by omega) (by omega)).mp (by omega))) ?_
  refine z_evL ?_
  refine z_evG 2 (y := z_go 33 [some (.ref 127), some (.int (nI a)), some (.int (nI b)), some (.int 0), none] [] 161 (I, J, RF w)) (fun _ => rfl) ?_
  refine z_evL ?_
  have st0 : ∀ m0, m0 = 0 → ∀ q, z_Ev E (d + 2) z_m193 33 [some (.ref 127), some (.int (nI a)), some (.int (nI b)), some (.int (nI m0)), z_di (fun c => I 134 (8 * a + c) + I 134 (8 * b + c)) m0] [] 161 ((z_ur I 134 (z_fil (I 134) (8 * n) m0 (fun c => if 1000000000 < I 134 (8 * a + c) + I 134 (8 * b + c) then 1000000000 else I 134 (8 * a + c) + I 134 (8 * b + c)))), J, RF w) q → z_Ev E (d + 2) z_m193 33 [some (.ref 127), some (.int (nI a)), some (.int (nI b)), some (.int 0), none] [] 161 (I, J, RF w) q := by intro m0 hm0 q h; rw [hm0, z_fil_0] at h; subst hm0; exact h
  refine st0 0 rfl _ ?_
  refine z_loop (F := fun k => ([some (.ref 127), some (.int (nI a)), some (.int (nI b)), some (.int (nI k)), z_di (fun c => I 134 (8 * a + c) + I 134 (8 * b + c)) k], ((z_ur I 134 (z_fil (I 134) (8 * n) k (fun c => if 1000000000 < I 134 (8 * a + c) + I 134 (8 * b + c) then 1000000000 else I 134 (8 * a + c) + I 134 (8 * b + c)))), J, RF w))) (P := fun k => True) 8 trivial (fun hP => ?_) (fun k hk hP next => ?_)
  · show z_Ev E (d + 2) z_m193 33 [some (.ref 127), some (.int (nI a)), some (.int (nI b)), some (.int (nI 8)), z_di (fun c => I 134 (8 * a + c) + I 134 (8 * b + c)) 8] [] 161 ((z_ur I 134 (z_fil (I 134) (8 * n) 8 (fun c => if 1000000000 < I 134 (8 * a + c) + I 134 (8 * b + c) then 1000000000 else I 134 (8 * a + c) + I 134 (8 * b + c)))), J, RF w) _
    refine z_evG 3 (y := if (nI 8) < 8 then z_go 39 [some (.ref 127), some (.int (nI a)), some (.int (nI b)), some (.int (nI 8)), z_di (fun c => I 134 (8 * a + c) + I 134 (8 * b + c)) 8] [] 161 ((z_ur I 134 (z_fil (I 134) (8 * n) 8 (fun c => if 1000000000 < I 134 (8 * a + c) + I 134 (8 * b + c) then 1000000000 else I 134 (8 * a + c) + I 134 (8 * b + c)))), J, RF w) else z_go 98 [some (.ref 127), some (.int (nI a)), some (.int (nI b)), some (.int (nI 8)), z_di (fun c => I 134 (8 * a + c) + I 134 (8 * b + c)) 8] [] 161 ((z_ur I 134 (z_fil (I 134) (8 * n) 8 (fun c => if 1000000000 < I 134 (8 * a + c) + I 134 (8 * b + c) then 1000000000 else I 134 (8 * a + c) + I 134 (8 * b + c)))), J, RF w)) (fun _ => rfl) ?_
    refine z_evF (mt (show _ ↔ 8 < 8 from z_ltN rfl rfl (by omega) (by omega)).mp (by omega)) ?_
    refine z_evL ?_
    refine z_evG 11 (y := some (.inr (some (.int (((I 127 9) + 1) - 1)), 161, (z_u2 (z_ur I 134 (z_fil (I 134) (8 * n) 8 (fun c => if 1000000000 < I 134 (8 * a + c) + I 134 (8 * b + c) then 1000000000 else I 134 (8 * a + c) + I 134 (8 * b + c)))) 127 9 ((I 127 9) + 1)), J, RF w))) (fun _ => rfl) ?_
    rw [h_n, nI_1, nI_pred]
    exact z_evR rfl
  · show z_Ev E (d + 2) z_m193 33 [some (.ref 127), some (.int (nI a)), some (.int (nI b)), some (.int (nI k)), z_di (fun c => I 134 (8 * a + c) + I 134 (8 * b + c)) k] [] 161 ((z_ur I 134 (z_fil (I 134) (8 * n) k (fun c => if 1000000000 < I 134 (8 * a + c) + I 134 (8 * b + c) then 1000000000 else I 134 (8 * a + c) + I 134 (8 * b + c)))), J, RF w) _
    have nx : (True) → z_Ev E (d + 2) z_m193 33 [some (.ref 127), some (.int (nI a)), some (.int (nI b)), some (.int (nI (k + 1))), z_di (fun c => I 134 (8 * a + c) + I 134 (8 * b + c)) (k + 1)] [] 161 ((z_ur I 134 (z_fil (I 134) (8 * n) (k + 1) (fun c => if 1000000000 < I 134 (8 * a + c) + I 134 (8 * b + c) then 1000000000 else I 134 (8 * a + c) + I 134 (8 * b + c)))), J, RF w) _ := next
    refine z_evG 3 (y := if (nI k) < 8 then z_go 39 [some (.ref 127), some (.int (nI a)), some (.int (nI b)), some (.int (nI k)), z_di (fun c => I 134 (8 * a + c) + I 134 (8 * b + c)) k] [] 161 ((z_ur I 134 (z_fil (I 134) (8 * n) k (fun c => if 1000000000 < I 134 (8 * a + c) + I 134 (8 * b + c) then 1000000000 else I 134 (8 * a + c) + I 134 (8 * b + c)))), J, RF w) else z_go 98 [some (.ref 127), some (.int (nI a)), some (.int (nI b)), some (.int (nI k)), z_di (fun c => I 134 (8 * a + c) + I 134 (8 * b + c)) k] [] 161 ((z_ur I 134 (z_fil (I 134) (8 * n) k (fun c => if 1000000000 < I 134 (8 * a + c) + I 134 (8 * b + c) then 1000000000 else I 134 (8 * a + c) + I 134 (8 * b + c)))), J, RF w)) (fun _ => rfl) ?_
    refine z_evT ((show _ ↔ k < 8 from z_ltN rfl rfl (by omega) (by omega)).mpr (by omega)) ?_
    refine z_evL ?_
    refine z_evG 8 (y := z_ild (z_ia E 161 ((z_ur I 134 (z_fil (I 134) (8 * n) k (fun c => if 1000000000 < I 134 (8 * a + c) + I 134 (8 * b + c) then 1000000000 else I 134 (8 * a + c) + I 134 (8 * b + c)))), J, RF w) 134) ((8 * (nI a)) + (nI k)) fun vv => z_go 50 [some (.ref 127), some (.int (nI a)), some (.int (nI b)), some (.int (nI k)), z_di (fun c => I 134 (8 * a + c) + I 134 (8 * b + c)) k] [.int vv] 161 ((z_ur I 134 (z_fil (I 134) (8 * n) k (fun c => if 1000000000 < I 134 (8 * a + c) + I 134 (8 * b + c) then 1000000000 else I 134 (8 * a + c) + I 134 (8 * b + c)))), J, RF w)) (fun _ => rfl) ?_
    refine z_evBn (N := 192) (f := ((z_ur I 134 (z_fil (I 134) (8 * n) k (fun c => if 1000000000 < I 134 (8 * a + c) + I 134 (8 * b + c) then 1000000000 else I 134 (8 * a + c) + I 134 (8 * b + c)))) 134)) (k := (8 * a + k)) rfl (z_addE (z_mulE rfl rfl) rfl) (by omega) ?_
    refine z_evL ?_
    rw [show (z_ur I 134 (z_fil (I 134) (8 * n) k (fun c => if 1000000000 < I 134 (8 * a + c) + I 134 (8 * b + c) then 1000000000 else I 134 (8 * a + c) + I 134 (8 * b + c)))) 134 (8 * a + k) = I 134 (8 * a + k) from ((congrFun (z_ur_same _ _ _) _).trans (z_fil_ge (by omega)))]
    refine z_evG 8 (y := z_ild (z_ia E 161 ((z_ur I 134 (z_fil (I 134) (8 * n) k (fun c => if 1000000000 < I 134 (8 * a + c) + I 134 (8 * b + c) then 1000000000 else I 134 (8 * a + c) + I 134 (8 * b + c)))), J, RF w) 134) ((8 * (nI b)) + (nI k)) fun vv => z_go 61 [some (.ref 127), some (.int (nI a)), some (.int (nI b)), some (.int (nI k)), z_di (fun c => I 134 (8 * a + c) + I 134 (8 * b + c)) k] [.int vv, .int (I 134 (8 * a + k))] 161 ((z_ur I 134 (z_fil (I 134) (8 * n) k (fun c => if 1000000000 < I 134 (8 * a + c) + I 134 (8 * b + c) then 1000000000 else I 134 (8 * a + c) + I 134 (8 * b + c)))), J, RF w)) (fun _ => rfl) ?_
    refine z_evBn (N := 192) (f := ((z_ur I 134 (z_fil (I 134) (8 * n) k (fun c => if 1000000000 < I 134 (8 * a + c) + I 134 (8 * b + c) then 1000000000 else I 134 (8 * a + c) + I 134 (8 * b + c)))) 134)) (k := (8 * b + k)) rfl (z_addE (z_mulE rfl rfl) rfl) (by omega) ?_
    refine z_evL ?_
    rw [show (z_ur I 134 (z_fil (I 134) (8 * n) k (fun c => if 1000000000 < I 134 (8 * a + c) + I 134 (8 * b + c) then 1000000000 else I 134 (8 * a + c) + I 134 (8 * b + c)))) 134 (8 * b + k) = I 134 (8 * b + k) from ((congrFun (z_ur_same _ _ _) _).trans (z_fil_ge (by omega)))]
    refine z_evG 13 (y := if 1000000000 < ((I 134 (8 * a + k)) + (I 134 (8 * b + k))) then z_go 84 [some (.ref 127), some (.int (nI a)), some (.int (nI b)), some (.int (nI k)), some (.int ((I 134 (8 * a + k)) + (I 134 (8 * b + k))))] [.int ((8 * (I 127 9)) + (nI k)), .ref 134] 161 ((z_ur I 134 (z_fil (I 134) (8 * n) k (fun c => if 1000000000 < I 134 (8 * a + c) + I 134 (8 * b + c) then 1000000000 else I 134 (8 * a + c) + I 134 (8 * b + c)))), J, RF w) else z_go 89 [some (.ref 127), some (.int (nI a)), some (.int (nI b)), some (.int (nI k)), some (.int ((I 134 (8 * a + k)) + (I 134 (8 * b + k))))] [.int ((8 * (I 127 9)) + (nI k)), .ref 134] 161 ((z_ur I 134 (z_fil (I 134) (8 * n) k (fun c => if 1000000000 < I 134 (8 * a + c) + I 134 (8 * b + c) then 1000000000 else I 134 (8 * a + c) + I 134 (8 * b + c)))), J, RF w)) (fun _ => rfl) ?_
    refine z_evI (fun h6 => ?_) (fun h6 => ?_)
    · refine z_evL ?_
      refine z_evG 3 (y := z_ck (z_in ((8 * (I 127 9)) + (nI k)) 192) (z_go 92 [some (.ref 127), some (.int (nI a)), some (.int (nI b)), some (.int (nI k)), some (.int ((I 134 (8 * a + k)) + (I 134 (8 * b + k))))] [] 161 ((z_u2 (z_ur I 134 (z_fil (I 134) (8 * n) k (fun c => if 1000000000 < I 134 (8 * a + c) + I 134 (8 * b + c) then 1000000000 else I 134 (8 * a + c) + I 134 (8 * b + c)))) 134 (((8 * (I 127 9)) + (nI k)).toNatClampNeg) 1000000000), J, RF w))) (fun _ => rfl) ?_
      refine z_evC (z_inN (k := 8 * n + k) (z_addE (z_mulE rfl h_n) rfl) (by omega) (by decide)) ?_
      refine z_evL ?_
      rw [show (((8 * (I 127 9)) + (nI k) : Int32)).toNatClampNeg = 8 * n + k from z_natE (z_addE (z_mulE rfl h_n) rfl) (by omega)]
      refine z_evG 2 (y := z_go 33 [some (.ref 127), some (.int (nI a)), some (.int (nI b)), some (.int ((nI k) + 1)), some (.int ((I 134 (8 * a + k)) + (I 134 (8 * b + k))))] [] 161 ((z_u2 (z_ur I 134 (z_fil (I 134) (8 * n) k (fun c => if 1000000000 < I 134 (8 * a + c) + I 134 (8 * b + c) then 1000000000 else I 134 (8 * a + c) + I 134 (8 * b + c)))) 134 (8 * n + k) 1000000000), J, RF w)) (fun _ => rfl) ?_
      refine z_evL ?_
      have e : z_u2 (z_ur I 134 (z_fil (I 134) (8 * n) k (fun c => if 1000000000 < I 134 (8 * a + c) + I 134 (8 * b + c) then 1000000000 else I 134 (8 * a + c) + I 134 (8 * b + c)))) 134 (8 * n + k) 1000000000 = (z_ur I 134 (z_fil (I 134) (8 * n) (k + 1) (fun c => if 1000000000 < I 134 (8 * a + c) + I 134 (8 * b + c) then 1000000000 else I 134 (8 * a + c) + I 134 (8 * b + c)))) := (congrArg (z_u2 (z_ur I 134 (z_fil (I 134) (8 * n) k (fun c => if 1000000000 < I 134 (8 * a + c) + I 134 (8 * b + c) then 1000000000 else I 134 (8 * a + c) + I 134 (8 * b + c)))) 134 (8 * n + k)) (show 1000000000 = (fun c => if 1000000000 < I 134 (8 * a + c) + I 134 (8 * b + c) then 1000000000 else I 134 (8 * a + c) + I 134 (8 * b + c)) k from (if_pos h6).symm)).trans (z_fil_s I 134 (8 * n) k (fun c => if 1000000000 < I 134 (8 * a + c) + I 134 (8 * b + c) then 1000000000 else I 134 (8 * a + c) + I 134 (8 * b + c)))
      rw [nI_1 k, e]
      exact nx trivial
    · refine z_evL ?_
      refine z_evG 2 (y := z_ck (z_in ((8 * (I 127 9)) + (nI k)) 192) (z_go 92 [some (.ref 127), some (.int (nI a)), some (.int (nI b)), some (.int (nI k)), some (.int ((I 134 (8 * a + k)) + (I 134 (8 * b + k))))] [] 161 ((z_u2 (z_ur I 134 (z_fil (I 134) (8 * n) k (fun c => if 1000000000 < I 134 (8 * a + c) + I 134 (8 * b + c) then 1000000000 else I 134 (8 * a + c) + I 134 (8 * b + c)))) 134 (((8 * (I 127 9)) + (nI k)).toNatClampNeg) ((I 134 (8 * a + k)) + (I 134 (8 * b + k)))), J, RF w))) (fun _ => rfl) ?_
      refine z_evC (z_inN (k := 8 * n + k) (z_addE (z_mulE rfl h_n) rfl) (by omega) (by decide)) ?_
      refine z_evL ?_
      rw [show (((8 * (I 127 9)) + (nI k) : Int32)).toNatClampNeg = 8 * n + k from z_natE (z_addE (z_mulE rfl h_n) rfl) (by omega)]
      refine z_evG 2 (y := z_go 33 [some (.ref 127), some (.int (nI a)), some (.int (nI b)), some (.int ((nI k) + 1)), some (.int ((I 134 (8 * a + k)) + (I 134 (8 * b + k))))] [] 161 ((z_u2 (z_ur I 134 (z_fil (I 134) (8 * n) k (fun c => if 1000000000 < I 134 (8 * a + c) + I 134 (8 * b + c) then 1000000000 else I 134 (8 * a + c) + I 134 (8 * b + c)))) 134 (8 * n + k) ((I 134 (8 * a + k)) + (I 134 (8 * b + k)))), J, RF w)) (fun _ => rfl) ?_
      refine z_evL ?_
      have e : z_u2 (z_ur I 134 (z_fil (I 134) (8 * n) k (fun c => if 1000000000 < I 134 (8 * a + c) + I 134 (8 * b + c) then 1000000000 else I 134 (8 * a + c) + I 134 (8 * b + c)))) 134 (8 * n + k) (I 134 (8 * a + k) + I 134 (8 * b + k)) = (z_ur I 134 (z_fil (I 134) (8 * n) (k + 1) (fun c => if 1000000000 < I 134 (8 * a + c) + I 134 (8 * b + c) then 1000000000 else I 134 (8 * a + c) + I 134 (8 * b + c)))) := (congrArg (z_u2 (z_ur I 134 (z_fil (I 134) (8 * n) k (fun c => if 1000000000 < I 134 (8 * a + c) + I 134 (8 * b + c) then 1000000000 else I 134 (8 * a + c) + I 134 (8 * b + c)))) 134 (8 * n + k)) (show I 134 (8 * a + k) + I 134 (8 * b + k) = (fun c => if 1000000000 < I 134 (8 * a + c) + I 134 (8 * b + c) then 1000000000 else I 134 (8 * a + c) + I 134 (8 * b + c)) k from (if_neg h6).symm)).trans (z_fil_s I 134 (8 * n) k (fun c => if 1000000000 < I 134 (8 * a + c) + I 134 (8 * b + c) then 1000000000 else I 134 (8 * a + c) + I 134 (8 * b + c)))
      rw [nI_1 k, e]
      exact nx trivial
theorem z_fil_00 {α : Type} (f : Nat → Nat → α) (a s t : Nat) (g h : Nat → α) : z_ur f a (z_fil (z_fil (f a) s 0 g) t 0 h) = f := by
  funext b j
  unfold z_ur z_fil
  split
  · rename_i e; subst e; dsimp only; rw [if_neg (by omega), if_neg (by omega)]
  · rfl
/-- two runs side by side -/
theorem z_fil_ss {α : Type} (f : Nat → Nat → α) (a s k : Nat) (g h : Nat → α) (hk : k < 4) : z_u2 (z_u2 (z_ur f a (z_fil (z_fil (f a) s k g) (s + 4) k h)) a (s + k) (g k)) a (s + 4 + k) (h k) = z_ur f a (z_fil (z_fil (f a) s (k + 1) g) (s + 4) (k + 1) h) := by
  funext b j
  unfold z_u2 z_ur z_fil
  by_cases hb : b = a
  · subst hb
    simp only [if_true]
    by_cases h1 : j = s + 4 + k
    · subst h1; rw [if_pos rfl, if_pos (by omega)]; congr 1; omega
    · rw [if_neg h1]
      by_cases h2 : j = s + k
      · subst h2; rw [if_pos rfl, if_neg (by omega), if_pos (by omega)]; congr 1; omega
      · rw [if_neg h2]
        by_cases h3 : s + 4 ≤ j ∧ j < s + 4 + k
        · rw [if_pos h3, if_pos (by omega)]
        · rw [if_neg h3]
          by_cases h4 : s ≤ j ∧ j < s + k
          · rw [if_pos h4, if_neg (by omega), if_pos (by omega)]
          · rw [if_neg h4, if_neg (by omega), if_neg (by omega)]
  · simp only [hb, if_false]
def z_dig (v : Int64) : Nat → Int64
  | 0 => v
  | n + 1 => z_dig v n / 1000
set_option maxRecDepth 20000 in
/-- LampHouse.putDigits -/
theorem x_putDigits0 (E : zE) (d : Nat) (I : Nat → Nat → Int32) (J : Nat → Nat → Int64) (w : Nat) (v : Int64) : z_cl E (d + 1) 168 [.long v, .ref 125, .int 0] (161, I, J, RF w) = some (none, 161, (z_ur I 125 (z_fil (I 125) 0 4 (fun c => (z_dig v c - z_dig v c / 1000 * 1000).toInt32))), J, RF w) := by
  refine z_call (d := d + 0) (M := z_m168) rfl rfl ?_
  refine z_evG 4 (y := z_go 6 [some (.long v), none, some (.ref 125), some (.int 0), some (.long v), none, some (.int 0)] [] 161 (I, J, RF w)) (fun _ => rfl) ?_
  refine z_evL ?_
  have st0 : ∀ m0, m0 = 0 → ∀ q, z_Ev E d z_m168 6 [some (.long v), none, some (.ref 125), some (.int 0), some (.long (z_dig v m0)), none, some (.int (nI m0))] [] 161 ((z_ur I 125 (z_fil (I 125) 0 m0 (fun c => (z_dig v c - z_dig v c / 1000 * 1000).toInt32))), J, RF w) q → z_Ev E d z_m168 6 [some (.long v), none, some (.ref 125), some (.int 0), some (.long v), none, some (.int 0)] [] 161 (I, J, RF w) q := by intro m0 hm0 q h; rw [hm0, z_fil_0] at h; subst hm0; exact h
  refine st0 0 rfl _ ?_
  refine z_loop (F := fun k => ([some (.long v), none, some (.ref 125), some (.int 0), some (.long (z_dig v k)), none, some (.int (nI k))], ((z_ur I 125 (z_fil (I 125) 0 k (fun c => (z_dig v c - z_dig v c / 1000 * 1000).toInt32))), J, RF w))) (P := fun k => True) 4 trivial (fun hP => ?_) (fun k hk hP next => ?_)
  · show z_Ev E d z_m168 6 [some (.long v), none, some (.ref 125), some (.int 0), some (.long (z_dig v 4)), none, some (.int (nI 4))] [] 161 ((z_ur I 125 (z_fil (I 125) 0 4 (fun c => (z_dig v c - z_dig v c / 1000 * 1000).toInt32))), J, RF w) _
    refine z_evG 5 (y := if (nI 4) < 4 then z_go 14 [some (.long v), none, some (.ref 125), some (.int 0), some (.long (z_dig v 4)), none, some (.int (nI 4))] [] 161 ((z_ur I 125 (z_fil (I 125) 0 4 (fun c => (z_dig v c - z_dig v c / 1000 * 1000).toInt32))), J, RF w) else z_go 46 [some (.long v), none, some (.ref 125), some (.int 0), some (.long (z_dig v 4)), none, some (.int (nI 4))] [] 161 ((z_ur I 125 (z_fil (I 125) 0 4 (fun c => (z_dig v c - z_dig v c / 1000 * 1000).toInt32))), J, RF w)) (fun _ => rfl) ?_
    refine z_evF (mt (show _ ↔ 4 < 4 from z_ltN rfl rfl (by omega) (by omega)).mp (by omega)) ?_
    refine z_evL ?_
    refine z_evG 1 (y := some (.inr (none, 161, (z_ur I 125 (z_fil (I 125) 0 4 (fun c => (z_dig v c - z_dig v c / 1000 * 1000).toInt32))), J, RF w))) (fun _ => rfl) ?_
    exact z_evR rfl
  · show z_Ev E d z_m168 6 [some (.long v), none, some (.ref 125), some (.int 0), some (.long (z_dig v k)), none, some (.int (nI k))] [] 161 ((z_ur I 125 (z_fil (I 125) 0 k (fun c => (z_dig v c - z_dig v c / 1000 * 1000).toInt32))), J, RF w) _
    have nx : (True) → z_Ev E d z_m168 6 [some (.long v), none, some (.ref 125), some (.int 0), some (.long (z_dig v (k + 1))), none, some (.int (nI (k + 1)))] [] 161 ((z_ur I 125 (z_fil (I 125) 0 (k + 1) (fun c => (z_dig v c - z_dig v c / 1000 * 1000).toInt32))), J, RF w) _ := next
    refine z_evG 5 (y := if (nI k) < 4 then z_go 14 [some (.long v), none, some (.ref 125), some (.int 0), some (.long (z_dig v k)), none, some (.int (nI k))] [] 161 ((z_ur I 125 (z_fil (I 125) 0 k (fun c => (z_dig v c - z_dig v c / 1000 * 1000).toInt32))), J, RF w) else z_go 46 [some (.long v), none, some (.ref 125), some (.int 0), some (.long (z_dig v k)), none, some (.int (nI k))] [] 161 ((z_ur I 125 (z_fil (I 125) 0 k (fun c => (z_dig v c - z_dig v c / 1000 * 1000).toInt32))), J, RF w)) (fun _ => rfl) ?_
    refine z_evT ((show _ ↔ k < 4 from z_ltN rfl rfl (by omega) (by omega)).mpr (by omega)) ?_
    refine z_evL ?_
    refine z_evG 4 (y := if (nI k) < 8 then z_go 21 [some (.long v), none, some (.ref 125), some (.int 0), some (.long (z_dig v k)), none, some (.int (nI k))] [] 161 ((z_ur I 125 (z_fil (I 125) 0 k (fun c => (z_dig v c - z_dig v c / 1000 * 1000).toInt32))), J, RF w) else z_go 46 [some (.long v), none, some (.ref 125), some (.int 0), some (.long (z_dig v k)), none, some (.int (nI k))] [] 161 ((z_ur I 125 (z_fil (I 125) 0 k (fun c => (z_dig v c - z_dig v c / 1000 * 1000).toInt32))), J, RF w)) (fun _ => rfl) ?_
    refine z_evT ((show _ ↔ k < 8 from z_ltN rfl rfl (by omega) (by omega)).mpr (by omega)) ?_
    refine z_evL ?_
    refine z_evG 5 (y := z_ck (!decide ((1000 : Int64) = 0)) (z_go 30 [some (.long v), none, some (.ref 125), some (.int 0), some (.long (z_dig v k)), none, some (.int (nI k))] [.long ((z_dig v k) - (z_dig v k) / 1000 * 1000), .int (nI k), .ref 125] 161 ((z_ur I 125 (z_fil (I 125) 0 k (fun c => (z_dig v c - z_dig v c / 1000 * 1000).toInt32))), J, RF w))) (fun _ => rfl) ?_
    refine z_evC (by decide) ?_
    refine z_evL ?_
    refine z_evG 2 (y := z_ck (z_in (nI k) 8) (z_go 32 [some (.long v), none, some (.ref 125), some (.int 0), some (.long (z_dig v k)), none, some (.int (nI k))] [] 161 ((z_u2 (z_ur I 125 (z_fil (I 125) 0 k (fun c => (z_dig v c - z_dig v c / 1000 * 1000).toInt32))) 125 ((nI k).toNatClampNeg) (((z_dig v k) - (z_dig v k) / 1000 * 1000).toInt32)), J, RF w))) (fun _ => rfl) ?_
    refine z_evC (z_inN (k := k) rfl (by omega) (by decide)) ?_
    refine z_evL ?_
    rw [show ((nI k : Int32)).toNatClampNeg = k from z_natE rfl (by omega)]
    refine z_evG 3 (y := z_ck (!decide ((1000 : Int64) = 0)) (z_go 38 [some (.long v), none, some (.ref 125), some (.int 0), some (.long (z_dig v k)), none, some (.int (nI k))] [.long ((z_dig v k) / 1000)] 161 ((z_u2 (z_ur I 125 (z_fil (I 125) 0 k (fun c => (z_dig v c - z_dig v c / 1000 * 1000).toInt32))) 125 k (((z_dig v k) - (z_dig v k) / 1000 * 1000).toInt32)), J, RF w))) (fun _ => rfl) ?_
    refine z_evC (by decide) ?_
    refine z_evL ?_
    refine z_evG 3 (y := z_go 6 [some (.long v), none, some (.ref 125), some (.int 0), some (.long ((z_dig v k) / 1000)), none, some (.int ((nI k) + 1))] [] 161 ((z_u2 (z_ur I 125 (z_fil (I 125) 0 k (fun c => (z_dig v c - z_dig v c / 1000 * 1000).toInt32))) 125 k (((z_dig v k) - (z_dig v k) / 1000 * 1000).toInt32)), J, RF w)) (fun _ => rfl) ?_
    refine z_evL ?_
    have e := z_fil_s I 125 0 k (fun c => (z_dig v c - z_dig v c / 1000 * 1000).toInt32)
    rw [Nat.zero_add] at e
    rw [nI_1, e]
    exact nx trivial
set_option maxRecDepth 20000 in
/-- LampHouse.putDigits -/
theorem x_putDigits4 (E : zE) (d : Nat) (I : Nat → Nat → Int32) (J : Nat → Nat → Int64) (w : Nat) (v : Int64) : z_cl E (d + 1) 168 [.long v, .ref 125, .int 4] (161, I, J, RF w) = some (none, 161, (z_ur I 125 (z_fil (I 125) 4 4 (fun c => (z_dig v c - z_dig v c / 1000 * 1000).toInt32))), J, RF w) := by
  refine z_call (d := d + 0) (M := z_m168) rfl rfl ?_
  refine z_evG 4 (y := z_go 6 [some (.long v), none, some (.ref 125), some (.int 4), some (.long v), none, some (.int 4)] [] 161 (I, J, RF w)) (fun _ => rfl) ?_
  refine z_evL ?_
  have st0 : ∀ m0, m0 = 0 → ∀ q, z_Ev E d z_m168 6 [some (.long v), none, some (.ref 125), some (.int 4), some (.long (z_dig v m0)), none, some (.int (nI (4 + m0)))] [] 161 ((z_ur I 125 (z_fil (I 125) 4 m0 (fun c => (z_dig v c - z_dig v c / 1000 * 1000).toInt32))), J, RF w) q → z_Ev E d z_m168 6 [some (.long v), none, some (.ref 125), some (.int 4), some (.long v), none, some (.int 4)] [] 161 (I, J, RF w) q := by intro m0 hm0 q h; rw [hm0, z_fil_0] at h; subst hm0; exact h
  refine st0 0 rfl _ ?_
  refine z_loop (F := fun k => ([some (.long v), none, some (.ref 125), some (.int 4), some (.long (z_dig v k)), none, some (.int (nI (4 + k)))], ((z_ur I 125 (z_fil (I 125) 4 k (fun c => (z_dig v c - z_dig v c / 1000 * 1000).toInt32))), J, RF w))) (P := fun k => True) 4 trivial (fun hP => ?_) (fun k hk hP next => ?_)
  · show z_Ev E d z_m168 6 [some (.long v), none, some (.ref 125), some (.int 4), some (.long (z_dig v 4)), none, some (.int (nI (4 + 4)))] [] 161 ((z_ur I 125 (z_fil (I 125) 4 4 (fun c => (z_dig v c - z_dig v c / 1000 * 1000).toInt32))), J, RF w) _
    refine z_evG 5 (y := if (nI (4 + 4)) < 8 then z_go 14 [some (.long v), none, some (.ref 125), some (.int 4), some (.long (z_dig v 4)), none, some (.int (nI (4 + 4)))] [] 161 ((z_ur I 125 (z_fil (I 125) 4 4 (fun c => (z_dig v c - z_dig v c / 1000 * 1000).toInt32))), J, RF w) else z_go 46 [some (.long v), none, some (.ref 125), some (.int 4), some (.long (z_dig v 4)), none, some (.int (nI (4 + 4)))] [] 161 ((z_ur I 125 (z_fil (I 125) 4 4 (fun c => (z_dig v c - z_dig v c / 1000 * 1000).toInt32))), J, RF w)) (fun _ => rfl) ?_
    refine z_evF (mt (show _ ↔ (4 + 4) < 8 from z_ltN rfl rfl (by omega) (by omega)).mp (by omega)) ?_
    refine z_evL ?_
    refine z_evG 1 (y := some (.inr (none, 161, (z_ur I 125 (z_fil (I 125) 4 4 (fun c => (z_dig v c - z_dig v c / 1000 * 1000).toInt32))), J, RF w))) (fun _ => rfl) ?_
    exact z_evR rfl
  · show z_Ev E d z_m168 6 [some (.long v), none, some (.ref 125), some (.int 4), some (.long (z_dig v k)), none, some (.int (nI (4 + k)))] [] 161 ((z_ur I 125 (z_fil (I 125) 4 k (fun c => (z_dig v c - z_dig v c / 1000 * 1000).toInt32))), J, RF w) _
    have nx : (True) → z_Ev E d z_m168 6 [some (.long v), none, some (.ref 125), some (.int 4), some (.long (z_dig v (k + 1))), none, some (.int (nI (4 + k + 1)))] [] 161 ((z_ur I 125 (z_fil (I 125) 4 (k + 1) (fun c => (z_dig v c - z_dig v c / 1000 * 1000).toInt32))), J, RF w) _ := next
    refine z_evG 5 (y := if (nI (4 + k)) < 8 then z_go 14 [some (.long v), none, some (.ref 125), some (.int 4), some (.long (z_dig v k)), none, some (.int (nI (4 + k)))] [] 161 ((z_ur I 125 (z_fil (I 125) 4 k (fun c => (z_dig v c - z_dig v c / 1000 * 1000).toInt32))), J, RF w) else z_go 46 [some (.long v), none, some (.ref 125), some (.int 4), some (.long (z_dig v k)), none, some (.int (nI (4 + k)))] [] 161 ((z_ur I 125 (z_fil (I 125) 4 k (fun c => (z_dig v c - z_dig v c / 1000 * 1000).toInt32))), J, RF w)) (fun _ => rfl) ?_
    refine z_evT ((show _ ↔ (4 + k) < 8 from z_ltN rfl rfl (by omega) (by omega)).mpr (by omega)) ?_
    refine z_evL ?_
    refine z_evG 4 (y := if (nI (4 + k)) < 8 then z_go 21 [some (.long v), none, some (.ref 125), some (.int 4), some (.long (z_dig v k)), none, some (.int (nI (4 + k)))] [] 161 ((z_ur I 125 (z_fil (I 125) 4 k (fun c => (z_dig v c - z_dig v c / 1000 * 1000).toInt32))), J, RF w) else z_go 46 [some (.long v), none, some (.ref 125), some (.int 4), some (.long (z_dig v k)), none, some (.int (nI (4 + k)))] [] 161 ((z_ur I 125 (z_fil (I 125) 4 k (fun c => (z_dig v c - z_dig v c / 1000 * 1000).toInt32))), J, RF w)) (fun _ => rfl) ?_
    refine z_evT ((show _ ↔ (4 + k) < 8 from z_ltN rfl rfl (by omega) (by omega)).mpr (by omega)) ?_
    refine z_evL ?_
    refine z_evG 5 (y := z_ck (!decide ((1000 : Int64) = 0)) (z_go 30 [some (.long v), none, some (.ref 125), some (.int 4), some (.long (z_dig v k)), none, some (.int (nI (4 + k)))] [.long ((z_dig v k) - (z_dig v k) / 1000 * 1000), .int (nI (4 + k)), .ref 125] 161 ((z_ur I 125 (z_fil (I 125) 4 k (fun c => (z_dig v c - z_dig v c / 1000 * 1000).toInt32))), J, RF w))) (fun _ => rfl) ?_
    refine z_evC (by decide) ?_
    refine z_evL ?_
    refine z_evG 2 (y := z_ck (z_in (nI (4 + k)) 8) (z_go 32 [some (.long v), none, some (.ref 125), some (.int 4), some (.long (z_dig v k)), none, some (.int (nI (4 + k)))] [] 161 ((z_u2 (z_ur I 125 (z_fil (I 125) 4 k (fun c => (z_dig v c - z_dig v c / 1000 * 1000).toInt32))) 125 ((nI (4 + k)).toNatClampNeg) (((z_dig v k) - (z_dig v k) / 1000 * 1000).toInt32)), J, RF w))) (fun _ => rfl) ?_
    refine z_evC (z_inN (k := (4 + k)) rfl (by omega) (by decide)) ?_
    refine z_evL ?_
    rw [show ((nI (4 + k) : Int32)).toNatClampNeg = (4 + k) from z_natE rfl (by omega)]
    refine z_evG 3 (y := z_ck (!decide ((1000 : Int64) = 0)) (z_go 38 [some (.long v), none, some (.ref 125), some (.int 4), some (.long (z_dig v k)), none, some (.int (nI (4 + k)))] [.long ((z_dig v k) / 1000)] 161 ((z_u2 (z_ur I 125 (z_fil (I 125) 4 k (fun c => (z_dig v c - z_dig v c / 1000 * 1000).toInt32))) 125 (4 + k) (((z_dig v k) - (z_dig v k) / 1000 * 1000).toInt32)), J, RF w))) (fun _ => rfl) ?_
    refine z_evC (by decide) ?_
    refine z_evL ?_
    refine z_evG 3 (y := z_go 6 [some (.long v), none, some (.ref 125), some (.int 4), some (.long ((z_dig v k) / 1000)), none, some (.int ((nI (4 + k)) + 1))] [] 161 ((z_u2 (z_ur I 125 (z_fil (I 125) 4 k (fun c => (z_dig v c - z_dig v c / 1000 * 1000).toInt32))) 125 (4 + k) (((z_dig v k) - (z_dig v k) / 1000 * 1000).toInt32)), J, RF w)) (fun _ => rfl) ?_
    refine z_evL ?_
    rw [nI_1, z_fil_s I 125 4 k (fun c => (z_dig v c - z_dig v c / 1000 * 1000).toInt32)]
    exact nx trivial
set_option maxRecDepth 20000 in
/-- LampHouse.row -/
theorem x_row_bad (E : zE) (d : Nat) (I : Nat → Nat → Int32) (J : Nat → Nat → Int64) (w : Nat)  (u v : Int64) (hbad : ¬ ((¬ u < 0 ∧ u < 1000000000000) ∧ (¬ v < 0 ∧ v < 1000000000000))) : z_cl E (d + 2) 129 [.ref 0, .long u, .long v] (161, I, J, RF w) = some (some (.int (-2)), 161, I, J, RF w) := by
  refine z_call (d := d + 1) (M := z_m129) rfl rfl ?_
  refine z_evG 2 (y := z_ret (z_cl E (d + 1) 167 [.long u] (161, (I, J, RF w))) 4 [some (.ref 0), some (.long u), none, some (.long v), none] []) (fun _ => rfl) ?_
  refine z_evK (v := .int (z_bo (¬ u < 0 ∧ u < 1000000000000))) (z' := 161) (σ' := (I, J, RF w)) (x_isFour E d I J w u) ?_
  refine z_evG 1 (y := if (z_bo (¬ u < 0 ∧ u < 1000000000000)) = 0 then z_go 14 [some (.ref 0), some (.long u), none, some (.long v), none] [] 161 (I, J, RF w) else z_go 7 [some (.ref 0), some (.long u), none, some (.long v), none] [] 161 (I, J, RF w)) (fun _ => rfl) ?_
  refine z_evO (fun h1 => ?_) (fun h1 => ?_)
  · refine z_evL ?_
    refine z_evG 2 (y := some (.inr (some (.int (-2)), 161, I, J, RF w))) (fun _ => rfl) ?_
    exact z_evR rfl
  · refine z_evL ?_
    refine z_evG 2 (y := z_ret (z_cl E (d + 1) 167 [.long v] (161, (I, J, RF w))) 11 [some (.ref 0), some (.long u), none, some (.long v), none] []) (fun _ => rfl) ?_
    refine z_evK (v := .int (z_bo (¬ v < 0 ∧ v < 1000000000000))) (z' := 161) (σ' := (I, J, RF w)) (x_isFour E d I J w v) ?_
    refine z_evG 1 (y := if (z_bo (¬ v < 0 ∧ v < 1000000000000)) = 0 then z_go 14 [some (.ref 0), some (.long u), none, some (.long v), none] [] 161 (I, J, RF w) else z_go 17 [some (.ref 0), some (.long u), none, some (.long v), none] [] 161 (I, J, RF w)) (fun _ => rfl) ?_
    refine z_evO (fun h2 => ?_) (fun h2 => ?_)
    · refine z_evL ?_
      refine z_evG 2 (y := some (.inr (some (.int (-2)), 161, I, J, RF w))) (fun _ => rfl) ?_
      exact z_evR rfl
    · refine z_evL ?_
      exact absurd ⟨h1, h2⟩ hbad
set_option maxRecDepth 20000 in
/-- LampHouseModel.row -/
theorem m_row_bad (E : zE) (d : Nat) (I : Nat → Nat → Int32) (J : Nat → Nat → Int64) (w : Nat)  (u v : Int64) (hbad : ¬ ((¬ u < 0 ∧ u < 1000000000000) ∧ (¬ v < 0 ∧ v < 1000000000000))) : z_cl E (d + 2) 181 [.ref 127, .long u, .long v] (161, I, J, RF w) = some (some (.int (-2)), 161, I, J, RF w) := by
  refine z_call (d := d + 1) (M := z_m181) rfl rfl ?_
  refine z_evG 2 (y := z_ret (z_cl E (d + 1) 180 [.long u] (161, (I, J, RF w))) 4 [some (.ref 127), some (.long u), none, some (.long v), none, none, none, none, none, none] []) (fun _ => rfl) ?_
  refine z_evK (v := .int (z_bo (¬ u < 0 ∧ u < 1000000000000))) (z' := 161) (σ' := (I, J, RF w)) (m_isFour E d I J w u) ?_
  refine z_evG 1 (y := if (z_bo (¬ u < 0 ∧ u < 1000000000000)) = 0 then z_go 14 [some (.ref 127), some (.long u), none, some (.long v), none, none, none, none, none, none] [] 161 (I, J, RF w) else z_go 7 [some (.ref 127), some (.long u), none, some (.long v), none, none, none, none, none, none] [] 161 (I, J, RF w)) (fun _ => rfl) ?_
  refine z_evO (fun h1 => ?_) (fun h1 => ?_)
  · refine z_evL ?_
    refine z_evG 2 (y := some (.inr (some (.int (-2)), 161, I, J, RF w))) (fun _ => rfl) ?_
    exact z_evR rfl
  · refine z_evL ?_
    refine z_evG 2 (y := z_ret (z_cl E (d + 1) 180 [.long v] (161, (I, J, RF w))) 11 [some (.ref 127), some (.long u), none, some (.long v), none, none, none, none, none, none] []) (fun _ => rfl) ?_
    refine z_evK (v := .int (z_bo (¬ v < 0 ∧ v < 1000000000000))) (z' := 161) (σ' := (I, J, RF w)) (m_isFour E d I J w v) ?_
    refine z_evG 1 (y := if (z_bo (¬ v < 0 ∧ v < 1000000000000)) = 0 then z_go 14 [some (.ref 127), some (.long u), none, some (.long v), none, none, none, none, none, none] [] 161 (I, J, RF w) else z_go 17 [some (.ref 127), some (.long u), none, some (.long v), none, none, none, none, none, none] [] 161 (I, J, RF w)) (fun _ => rfl) ?_
    refine z_evO (fun h2 => ?_) (fun h2 => ?_)
    · refine z_evL ?_
      refine z_evG 2 (y := some (.inr (some (.int (-2)), 161, I, J, RF w))) (fun _ => rfl) ?_
      exact z_evR rfl
    · refine z_evL ?_
      exact absurd ⟨h1, h2⟩ hbad
set_option maxRecDepth 20000 in
/-- LampHouse.row -/
theorem x_row_full (E : zE) (d : Nat) (I : Nat → Nat → Int32) (J : Nat → Nat → Int64) (w : Nat) (u v : Int64) (n : Nat) (h_n : I 1 1 = nI n) (hm_n : n ≤ 30) (hu : ¬ u < 0 ∧ u < 1000000000000) (hv : ¬ v < 0 ∧ v < 1000000000000) (hf : n = 30) : z_cl E (d + 2) 129 [.ref 0, .long u, .long v] (161, I, J, RF w) = some (some (.int (-4)), 161, I, J, RF w) := by
  refine z_call (d := d + 1) (M := z_m129) rfl rfl ?_
  refine z_evG 2 (y := z_ret (z_cl E (d + 1) 167 [.long u] (161, (I, J, RF w))) 4 [some (.ref 0), some (.long u), none, some (.long v), none] []) (fun _ => rfl) ?_
  refine z_evK (v := .int (z_bo (¬ u < 0 ∧ u < 1000000000000))) (z' := 161) (σ' := (I, J, RF w)) (x_isFour E d I J w u) ?_
  refine z_evG 1 (y := if (z_bo (¬ u < 0 ∧ u < 1000000000000)) = 0 then z_go 14 [some (.ref 0), some (.long u), none, some (.long v), none] [] 161 (I, J, RF w) else z_go 7 [some (.ref 0), some (.long u), none, some (.long v), none] [] 161 (I, J, RF w)) (fun _ => rfl) ?_
  refine z_evF (fun q => z_bo_0.mp q hu) ?_
  refine z_evL ?_
  refine z_evG 2 (y := z_ret (z_cl E (d + 1) 167 [.long v] (161, (I, J, RF w))) 11 [some (.ref 0), some (.long u), none, some (.long v), none] []) (fun _ => rfl) ?_
  refine z_evK (v := .int (z_bo (¬ v < 0 ∧ v < 1000000000000))) (z' := 161) (σ' := (I, J, RF w)) (x_isFour E d I J w v) ?_
  refine z_evG 1 (y := if (z_bo (¬ v < 0 ∧ v < 1000000000000)) = 0 then z_go 14 [some (.ref 0), some (.long u), none, some (.long v), none] [] 161 (I, J, RF w) else z_go 17 [some (.ref 0), some (.long u), none, some (.long v), none] [] 161 (I, J, RF w)) (fun _ => rfl) ?_
  refine z_evF (fun q => z_bo_0.mp q hv) ?_
  refine z_evL ?_
  refine z_evG 3 (y := z_ret (z_cl E (d + 1) 10 [.ref 1] (161, (I, J, RF w))) 24 [some (.ref 0), some (.long u), none, some (.long v), none] []) (fun _ => rfl) ?_
  refine z_evK (v := .int (z_bo (¬ I 1 1 < 30))) (z' := 161) (σ' := (I, J, RF w)) (x_rows_isFull E d I J w) ?_
  refine z_evG 1 (y := if (z_bo (¬ I 1 1 < 30)) = 0 then z_go 30 [some (.ref 0), some (.long u), none, some (.long v), none] [] 161 (I, J, RF w) else z_go 27 [some (.ref 0), some (.long u), none, some (.long v), none] [] 161 (I, J, RF w)) (fun _ => rfl) ?_
  refine z_evF (fun q => z_bo_0.mp q (mt (show _ ↔ n < 30 from z_ltN h_n rfl (by omega) (by omega)).mp (by omega))) ?_
  refine z_evL ?_
  refine z_evG 2 (y := some (.inr (some (.int (-4)), 161, I, J, RF w))) (fun _ => rfl) ?_
  exact z_evR rfl
set_option maxRecDepth 20000 in
/-- LampHouseModel.row -/
theorem m_row_full (E : zE) (d : Nat) (I : Nat → Nat → Int32) (J : Nat → Nat → Int64) (w : Nat) (u v : Int64) (n : Nat) (h_n : I 127 1 = nI n) (hm_n : n ≤ 30) (hu : ¬ u < 0 ∧ u < 1000000000000) (hv : ¬ v < 0 ∧ v < 1000000000000) (hf : n = 30) : z_cl E (d + 2) 181 [.ref 127, .long u, .long v] (161, I, J, RF w) = some (some (.int (-4)), 161, I, J, RF w) := by
  refine z_call (d := d + 1) (M := z_m181) rfl rfl ?_
  refine z_evG 2 (y := z_ret (z_cl E (d + 1) 180 [.long u] (161, (I, J, RF w))) 4 [some (.ref 127), some (.long u), none, some (.long v), none, none, none, none, none, none] []) (fun _ => rfl) ?_
  refine z_evK (v := .int (z_bo (¬ u < 0 ∧ u < 1000000000000))) (z' := 161) (σ' := (I, J, RF w)) (m_isFour E d I J w u) ?_
  refine z_evG 1 (y := if (z_bo (¬ u < 0 ∧ u < 1000000000000)) = 0 then z_go 14 [some (.ref 127), some (.long u), none, some (.long v), none, none, none, none, none, none] [] 161 (I, J, RF w) else z_go 7 [some (.ref 127), some (.long u), none, some (.long v), none, none, none, none, none, none] [] 161 (I, J, RF w)) (fun _ => rfl) ?_
  refine z_evF (fun q => z_bo_0.mp q hu) ?_
  refine z_evL ?_
  refine z_evG 2 (y := z_ret (z_cl E (d + 1) 180 [.long v] (161, (I, J, RF w))) 11 [some (.ref 127), some (.long u), none, some (.long v), none, none, none, none, none, none] []) (fun _ => rfl) ?_
  refine z_evK (v := .int (z_bo (¬ v < 0 ∧ v < 1000000000000))) (z' := 161) (σ' := (I, J, RF w)) (m_isFour E d I J w v) ?_
  refine z_evG 1 (y := if (z_bo (¬ v < 0 ∧ v < 1000000000000)) = 0 then z_go 14 [some (.ref 127), some (.long u), none, some (.long v), none, none, none, none, none, none] [] 161 (I, J, RF w) else z_go 17 [some (.ref 127), some (.long u), none, some (.long v), none, none, none, none, none, none] [] 161 (I, J, RF w)) (fun _ => rfl) ?_
  refine z_evF (fun q => z_bo_0.mp q hv) ?_
  refine z_evL ?_
  refine z_evG 4 (y := if (I 127 1) = 30 then z_go 26 [some (.ref 127), some (.long u), none, some (.long v), none, none, none, none, none, none] [] 161 (I, J, RF w) else z_go 29 [some (.ref 127), some (.long u), none, some (.long v), none, none, none, none, none, none] [] 161 (I, J, RF w)) (fun _ => rfl) ?_
  refine z_evT (((show _ ↔ n = 30 from z_eqN h_n rfl (by omega) (by omega)).mpr (by omega))) ?_
  refine z_evL ?_
  refine z_evG 2 (y := some (.inr (some (.int (-4)), 161, I, J, RF w))) (fun _ => rfl) ?_
  exact z_evR rfl
set_option maxRecDepth 20000 in
/-- LampHouse.row -/
theorem x_row_ok (E : zE) (d : Nat) (I : Nat → Nat → Int32) (J : Nat → Nat → Int64) (w : Nat) (u v : Int64) (n : Nat) (h_n : I 1 1 = nI n) (hm_n : n ≤ 30) (hu : ¬ u < 0 ∧ u < 1000000000000) (hv : ¬ v < 0 ∧ v < 1000000000000) (hf : n < 30) : z_cl E (d + 2) 129 [.ref 0, .long u, .long v] (161, I, J, RF w) = some (some (.int (nI n)), 161, (z_u2 (z_ur (z_ur (z_ur I 125 (z_fil (I 125) 0 4 (fun c => (z_dig u c - z_dig u c / 1000 * 1000).toInt32))) 125 (z_fil ((z_ur I 125 (z_fil (I 125) 0 4 (fun c => (z_dig u c - z_dig u c / 1000 * 1000).toInt32))) 125) 4 4 (fun c => (z_dig v c - z_dig v c / 1000 * 1000).toInt32))) (3 + n) (va_cpy ((z_ur (z_ur I 125 (z_fil (I 125) 0 4 (fun c => (z_dig u c - z_dig u c / 1000 * 1000).toInt32))) 125 (z_fil ((z_ur I 125 (z_fil (I 125) 0 4 (fun c => (z_dig u c - z_dig u c / 1000 * 1000).toInt32))) 125) 4 4 (fun c => (z_dig v c - z_dig v c / 1000 * 1000).toInt32))) 125) ((z_ur (z_ur I 125 (z_fil (I 125) 0 4 (fun c => (z_dig u c - z_dig u c / 1000 * 1000).toInt32))) 125 (z_fil ((z_ur I 125 (z_fil (I 125) 0 4 (fun c => (z_dig u c - z_dig u c / 1000 * 1000).toInt32))) 125) 4 4 (fun c => (z_dig v c - z_dig v c / 1000 * 1000).toInt32))) (3 + n)) 0 0 8)) 1 1 (nI (n + 1))), J, RF w) := by
  refine z_call (d := d + 1) (M := z_m129) rfl rfl ?_
  refine z_evG 2 (y := z_ret (z_cl E (d + 1) 167 [.long u] (161, (I, J, RF w))) 4 [some (.ref 0), some (.long u), none, some (.long v), none] []) (fun _ => rfl) ?_
  refine z_evK (v := .int (z_bo (¬ u < 0 ∧ u < 1000000000000))) (z' := 161) (σ' := (I, J, RF w)) (x_isFour E d I J w u) ?_
  refine z_evG 1 (y := if (z_bo (¬ u < 0 ∧ u < 1000000000000)) = 0 then z_go 14 [some (.ref 0), some (.long u), none, some (.long v), none] [] 161 (I, J, RF w) else z_go 7 [some (.ref 0), some (.long u), none, some (.long v), none] [] 161 (I, J, RF w)) (fun _ => rfl) ?_
  refine z_evF (fun q => z_bo_0.mp q hu) ?_
  refine z_evL ?_
  refine z_evG 2 (y := z_ret (z_cl E (d + 1) 167 [.long v] (161, (I, J, RF w))) 11 [some (.ref 0), some (.long u), none, some (.long v), none] []) (fun _ => rfl) ?_
  refine z_evK (v := .int (z_bo (¬ v < 0 ∧ v < 1000000000000))) (z' := 161) (σ' := (I, J, RF w)) (x_isFour E d I J w v) ?_
  refine z_evG 1 (y := if (z_bo (¬ v < 0 ∧ v < 1000000000000)) = 0 then z_go 14 [some (.ref 0), some (.long u), none, some (.long v), none] [] 161 (I, J, RF w) else z_go 17 [some (.ref 0), some (.long u), none, some (.long v), none] [] 161 (I, J, RF w)) (fun _ => rfl) ?_
  refine z_evF (fun q => z_bo_0.mp q hv) ?_
  refine z_evL ?_
  refine z_evG 3 (y := z_ret (z_cl E (d + 1) 10 [.ref 1] (161, (I, J, RF w))) 24 [some (.ref 0), some (.long u), none, some (.long v), none] []) (fun _ => rfl) ?_
  refine z_evK (v := .int (z_bo (¬ I 1 1 < 30))) (z' := 161) (σ' := (I, J, RF w)) (x_rows_isFull E d I J w) ?_
  refine z_evG 1 (y := if (z_bo (¬ I 1 1 < 30)) = 0 then z_go 30 [some (.ref 0), some (.long u), none, some (.long v), none] [] 161 (I, J, RF w) else z_go 27 [some (.ref 0), some (.long u), none, some (.long v), none] [] 161 (I, J, RF w)) (fun _ => rfl) ?_
  refine z_evT (z_bo_0.mpr (fun q => q ((show _ ↔ n < 30 from z_ltN h_n rfl (by omega) (by omega)).mpr (by omega)))) ?_
  refine z_evL ?_
  refine z_evG 5 (y := z_ret (z_cl E (d + 1) 168 [.long u, .ref 125, .int 0] (161, (I, J, RF w))) 39 [some (.ref 0), some (.long u), none, some (.long v), none] []) (fun _ => rfl) ?_
  refine z_evV (z' := 161) (σ' := ((z_ur I 125 (z_fil (I 125) 0 4 (fun c => (z_dig u c - z_dig u c / 1000 * 1000).toInt32))), J, RF w)) (x_putDigits0 E d I J w u) ?_
  refine z_evG 5 (y := z_ret (z_cl E (d + 1) 168 [.long v, .ref 125, .int 4] (161, ((z_ur I 125 (z_fil (I 125) 0 4 (fun c => (z_dig u c - z_dig u c / 1000 * 1000).toInt32))), J, RF w))) 48 [some (.ref 0), some (.long u), none, some (.long v), none] []) (fun _ => rfl) ?_
  refine z_evV (z' := 161) (σ' := ((z_ur (z_ur I 125 (z_fil (I 125) 0 4 (fun c => (z_dig u c - z_dig u c / 1000 * 1000).toInt32))) 125 (z_fil ((z_ur I 125 (z_fil (I 125) 0 4 (fun c => (z_dig u c - z_dig u c / 1000 * 1000).toInt32))) 125) 4 4 (fun c => (z_dig v c - z_dig v c / 1000 * 1000).toInt32))), J, RF w)) (x_putDigits4 E d (z_ur I 125 (z_fil (I 125) 0 4 (fun c => (z_dig u c - z_dig u c / 1000 * 1000).toInt32))) J w v) ?_
  refine z_evG 5 (y := z_ret (z_cl E (d + 1) 12 [.ref 1, .ref 125] (161, ((z_ur (z_ur I 125 (z_fil (I 125) 0 4 (fun c => (z_dig u c - z_dig u c / 1000 * 1000).toInt32))) 125 (z_fil ((z_ur I 125 (z_fil (I 125) 0 4 (fun c => (z_dig u c - z_dig u c / 1000 * 1000).toInt32))) 125) 4 4 (fun c => (z_dig v c - z_dig v c / 1000 * 1000).toInt32))), J, RF w))) 59 [some (.ref 0), some (.long u), none, some (.long v), none] []) (fun _ => rfl) ?_
  refine z_evK (v := .int (nI n)) (z' := 161) (σ' := ((z_u2 (z_ur (z_ur (z_ur I 125 (z_fil (I 125) 0 4 (fun c => (z_dig u c - z_dig u c / 1000 * 1000).toInt32))) 125 (z_fil ((z_ur I 125 (z_fil (I 125) 0 4 (fun c => (z_dig u c - z_dig u c / 1000 * 1000).toInt32))) 125) 4 4 (fun c => (z_dig v c - z_dig v c / 1000 * 1000).toInt32))) (3 + n) (va_cpy ((z_ur (z_ur I 125 (z_fil (I 125) 0 4 (fun c => (z_dig u c - z_dig u c / 1000 * 1000).toInt32))) 125 (z_fil ((z_ur I 125 (z_fil (I 125) 0 4 (fun c => (z_dig u c - z_dig u c / 1000 * 1000).toInt32))) 125) 4 4 (fun c => (z_dig v c - z_dig v c / 1000 * 1000).toInt32))) 125) ((z_ur (z_ur I 125 (z_fil (I 125) 0 4 (fun c => (z_dig u c - z_dig u c / 1000 * 1000).toInt32))) 125 (z_fil ((z_ur I 125 (z_fil (I 125) 0 4 (fun c => (z_dig u c - z_dig u c / 1000 * 1000).toInt32))) 125) 4 4 (fun c => (z_dig v c - z_dig v c / 1000 * 1000).toInt32))) (3 + n)) 0 0 8)) 1 1 (nI (n + 1))), J, RF w)) (x_rows_add E d (z_ur (z_ur I 125 (z_fil (I 125) 0 4 (fun c => (z_dig u c - z_dig u c / 1000 * 1000).toInt32))) 125 (z_fil ((z_ur I 125 (z_fil (I 125) 0 4 (fun c => (z_dig u c - z_dig u c / 1000 * 1000).toInt32))) 125) 4 4 (fun c => (z_dig v c - z_dig v c / 1000 * 1000).toInt32))) J w 125 n z_A_125 h_n (by omega)) ?_
  refine z_evG 1 (y := some (.inr (some (.int (nI n)), 161, (z_u2 (z_ur (z_ur (z_ur I 125 (z_fil (I 125) 0 4 (fun c => (z_dig u c - z_dig u c / 1000 * 1000).toInt32))) 125 (z_fil ((z_ur I 125 (z_fil (I 125) 0 4 (fun c => (z_dig u c - z_dig u c / 1000 * 1000).toInt32))) 125) 4 4 (fun c => (z_dig v c - z_dig v c / 1000 * 1000).toInt32))) (3 + n) (va_cpy ((z_ur (z_ur I 125 (z_fil (I 125) 0 4 (fun c => (z_dig u c - z_dig u c / 1000 * 1000).toInt32))) 125 (z_fil ((z_ur I 125 (z_fil (I 125) 0 4 (fun c => (z_dig u c - z_dig u c / 1000 * 1000).toInt32))) 125) 4 4 (fun c => (z_dig v c - z_dig v c / 1000 * 1000).toInt32))) 125) ((z_ur (z_ur I 125 (z_fil (I 125) 0 4 (fun c => (z_dig u c - z_dig u c / 1000 * 1000).toInt32))) 125 (z_fil ((z_ur I 125 (z_fil (I 125) 0 4 (fun c => (z_dig u c - z_dig u c / 1000 * 1000).toInt32))) 125) 4 4 (fun c => (z_dig v c - z_dig v c / 1000 * 1000).toInt32))) (3 + n)) 0 0 8)) 1 1 (nI (n + 1))), J, RF w))) (fun _ => rfl) ?_
  exact z_evR rfl
set_option maxRecDepth 20000 in
/-- LampHouseModel.row -/
theorem m_row_ok (E : zE) (d : Nat) (I : Nat → Nat → Int32) (J : Nat → Nat → Int64) (w : Nat) (u v : Int64) (n : Nat) (h_n : I 127 1 = nI n) (hm_n : n ≤ 30) (hu : ¬ u < 0 ∧ u < 1000000000000) (hv : ¬ v < 0 ∧ v < 1000000000000) (hf : n < 30) : z_cl E (d + 2) 181 [.ref 127, .long u, .long v] (161, I, J, RF w) = some (some (.int (nI n)), 161, (z_u2 (z_ur I 128 (z_fil (z_fil (I 128) (8 * n) 4 (fun c => (z_dig u c - z_dig u c / 1000 * 1000).toInt32)) (8 * n + 4) 4 (fun c => (z_dig v c - z_dig v c / 1000 * 1000).toInt32))) 127 1 (nI (n + 1))), J, RF w) := by
  refine z_call (d := d + 1) (M := z_m181) rfl rfl ?_
  refine z_evG 2 (y := z_ret (z_cl E (d + 1) 180 [.long u] (161, (I, J, RF w))) 4 [some (.ref 127), some (.long u), none, some (.long v), none, none, none, none, none, none] []) (fun _ => rfl) ?_
  refine z_evK (v := .int (z_bo (¬ u < 0 ∧ u < 1000000000000))) (z' := 161) (σ' := (I, J, RF w)) (m_isFour E d I J w u) ?_
  refine z_evG 1 (y := if (z_bo (¬ u < 0 ∧ u < 1000000000000)) = 0 then z_go 14 [some (.ref 127), some (.long u), none, some (.long v), none, none, none, none, none, none] [] 161 (I, J, RF w) else z_go 7 [some (.ref 127), some (.long u), none, some (.long v), none, none, none, none, none, none] [] 161 (I, J, RF w)) (fun _ => rfl) ?_
  refine z_evF (fun q => z_bo_0.mp q hu) ?_
  refine z_evL ?_
  refine z_evG 2 (y := z_ret (z_cl E (d + 1) 180 [.long v] (161, (I, J, RF w))) 11 [some (.ref 127), some (.long u), none, some (.long v), none, none, none, none, none, none] []) (fun _ => rfl) ?_
  refine z_evK (v := .int (z_bo (¬ v < 0 ∧ v < 1000000000000))) (z' := 161) (σ' := (I, J, RF w)) (m_isFour E d I J w v) ?_
  refine z_evG 1 (y := if (z_bo (¬ v < 0 ∧ v < 1000000000000)) = 0 then z_go 14 [some (.ref 127), some (.long u), none, some (.long v), none, none, none, none, none, none] [] 161 (I, J, RF w) else z_go 17 [some (.ref 127), some (.long u), none, some (.long v), none, none, none, none, none, none] [] 161 (I, J, RF w)) (fun _ => rfl) ?_
  refine z_evF (fun q => z_bo_0.mp q hv) ?_
  refine z_evL ?_
  refine z_evG 4 (y := if (I 127 1) = 30 then z_go 26 [some (.ref 127), some (.long u), none, some (.long v), none, none, none, none, none, none] [] 161 (I, J, RF w) else z_go 29 [some (.ref 127), some (.long u), none, some (.long v), none, none, none, none, none, none] [] 161 (I, J, RF w)) (fun _ => rfl) ?_
  refine z_evF ((mt (show _ ↔ n = 30 from z_eqN h_n rfl (by omega) (by omega)).mp (by omega))) ?_
  refine z_evL ?_
  refine z_evG 6 (y := z_go 38 [some (.ref 127), some (.long u), none, some (.long v), none, some (.long u), none, some (.long v), none, some (.int 0)] [] 161 (I, J, RF w)) (fun _ => rfl) ?_
  refine z_evL ?_
  have st0 : ∀ m0, m0 = 0 → ∀ q, z_Ev E (d + 1) z_m181 38 [some (.ref 127), some (.long u), none, some (.long v), none, some (.long (z_dig u m0)), none, some (.long (z_dig v m0)), none, some (.int (nI m0))] [] 161 ((z_ur I 128 (z_fil (z_fil (I 128) (8 * n) m0 (fun c => (z_dig u c - z_dig u c / 1000 * 1000).toInt32)) (8 * n + 4) m0 (fun c => (z_dig v c - z_dig v c / 1000 * 1000).toInt32))), J, RF w) q → z_Ev E (d + 1) z_m181 38 [some (.ref 127), some (.long u), none, some (.long v), none, some (.long u), none, some (.long v), none, some (.int 0)] [] 161 (I, J, RF w) q := by intro m0 hm0 q h; rw [hm0, z_fil_00] at h; subst hm0; exact h
  refine st0 0 rfl _ ?_
  refine z_loop (F := fun k => ([some (.ref 127), some (.long u), none, some (.long v), none, some (.long (z_dig u k)), none, some (.long (z_dig v k)), none, some (.int (nI k))], ((z_ur I 128 (z_fil (z_fil (I 128) (8 * n) k (fun c => (z_dig u c - z_dig u c / 1000 * 1000).toInt32)) (8 * n + 4) k (fun c => (z_dig v c - z_dig v c / 1000 * 1000).toInt32))), J, RF w))) (P := fun k => True) 4 trivial (fun hP => ?_) (fun k hk hP next => ?_)
  · show z_Ev E (d + 1) z_m181 38 [some (.ref 127), some (.long u), none, some (.long v), none, some (.long (z_dig u 4)), none, some (.long (z_dig v 4)), none, some (.int (nI 4))] [] 161 ((z_ur I 128 (z_fil (z_fil (I 128) (8 * n) 4 (fun c => (z_dig u c - z_dig u c / 1000 * 1000).toInt32)) (8 * n + 4) 4 (fun c => (z_dig v c - z_dig v c / 1000 * 1000).toInt32))), J, RF w) _
    refine z_evG 3 (y := if (nI 4) < 4 then z_go 44 [some (.ref 127), some (.long u), none, some (.long v), none, some (.long (z_dig u 4)), none, some (.long (z_dig v 4)), none, some (.int (nI 4))] [] 161 ((z_ur I 128 (z_fil (z_fil (I 128) (8 * n) 4 (fun c => (z_dig u c - z_dig u c / 1000 * 1000).toInt32)) (8 * n + 4) 4 (fun c => (z_dig v c - z_dig v c / 1000 * 1000).toInt32))), J, RF w) else z_go 112 [some (.ref 127), some (.long u), none, some (.long v), none, some (.long (z_dig u 4)), none, some (.long (z_dig v 4)), none, some (.int (nI 4))] [] 161 ((z_ur I 128 (z_fil (z_fil (I 128) (8 * n) 4 (fun c => (z_dig u c - z_dig u c / 1000 * 1000).toInt32)) (8 * n + 4) 4 (fun c => (z_dig v c - z_dig v c / 1000 * 1000).toInt32))), J, RF w)) (fun _ => rfl) ?_
    refine z_evF (mt (show _ ↔ 4 < 4 from z_ltN rfl rfl (by omega) (by omega)).mp (by omega)) ?_
    refine z_evL ?_
    refine z_evG 11 (y := some (.inr (some (.int (((I 127 1) + 1) - 1)), 161, (z_u2 (z_ur I 128 (z_fil (z_fil (I 128) (8 * n) 4 (fun c => (z_dig u c - z_dig u c / 1000 * 1000).toInt32)) (8 * n + 4) 4 (fun c => (z_dig v c - z_dig v c / 1000 * 1000).toInt32))) 127 1 ((I 127 1) + 1)), J, RF w))) (fun _ => rfl) ?_
    rw [h_n, nI_1, nI_pred]
    exact z_evR rfl
  · show z_Ev E (d + 1) z_m181 38 [some (.ref 127), some (.long u), none, some (.long v), none, some (.long (z_dig u k)), none, some (.long (z_dig v k)), none, some (.int (nI k))] [] 161 ((z_ur I 128 (z_fil (z_fil (I 128) (8 * n) k (fun c => (z_dig u c - z_dig u c / 1000 * 1000).toInt32)) (8 * n + 4) k (fun c => (z_dig v c - z_dig v c / 1000 * 1000).toInt32))), J, RF w) _
    have nx : (True) → z_Ev E (d + 1) z_m181 38 [some (.ref 127), some (.long u), none, some (.long v), none, some (.long (z_dig u (k + 1))), none, some (.long (z_dig v (k + 1))), none, some (.int (nI (k + 1)))] [] 161 ((z_ur I 128 (z_fil (z_fil (I 128) (8 * n) (k + 1) (fun c => (z_dig u c - z_dig u c / 1000 * 1000).toInt32)) (8 * n + 4) (k + 1) (fun c => (z_dig v c - z_dig v c / 1000 * 1000).toInt32))), J, RF w) _ := next
    refine z_evG 3 (y := if (nI k) < 4 then z_go 44 [some (.ref 127), some (.long u), none, some (.long v), none, some (.long (z_dig u k)), none, some (.long (z_dig v k)), none, some (.int (nI k))] [] 161 ((z_ur I 128 (z_fil (z_fil (I 128) (8 * n) k (fun c => (z_dig u c - z_dig u c / 1000 * 1000).toInt32)) (8 * n + 4) k (fun c => (z_dig v c - z_dig v c / 1000 * 1000).toInt32))), J, RF w) else z_go 112 [some (.ref 127), some (.long u), none, some (.long v), none, some (.long (z_dig u k)), none, some (.long (z_dig v k)), none, some (.int (nI k))] [] 161 ((z_ur I 128 (z_fil (z_fil (I 128) (8 * n) k (fun c => (z_dig u c - z_dig u c / 1000 * 1000).toInt32)) (8 * n + 4) k (fun c => (z_dig v c - z_dig v c / 1000 * 1000).toInt32))), J, RF w)) (fun _ => rfl) ?_
    refine z_evT ((show _ ↔ k < 4 from z_ltN rfl rfl (by omega) (by omega)).mpr (by omega)) ?_
    refine z_evL ?_
    refine z_evG 11 (y := z_ck (!decide ((1000 : Int64) = 0)) (z_go 64 [some (.ref 127), some (.long u), none, some (.long v), none, some (.long (z_dig u k)), none, some (.long (z_dig v k)), none, some (.int (nI k))] [.long ((z_dig u k) - (z_dig u k) / 1000 * 1000), .int ((8 * (I 127 1)) + (nI k)), .ref 128] 161 ((z_ur I 128 (z_fil (z_fil (I 128) (8 * n) k (fun c => (z_dig u c - z_dig u c / 1000 * 1000).toInt32)) (8 * n + 4) k (fun c => (z_dig v c - z_dig v c / 1000 * 1000).toInt32))), J, RF w))) (fun _ => rfl) ?_
    refine z_evC (by decide) ?_
    refine z_evL ?_
    refine z_evG 2 (y := z_ck (z_in ((8 * (I 127 1)) + (nI k)) 240) (z_go 66 [some (.ref 127), some (.long u), none, some (.long v), none, some (.long (z_dig u k)), none, some (.long (z_dig v k)), none, some (.int (nI k))] [] 161 ((z_u2 (z_ur I 128 (z_fil (z_fil (I 128) (8 * n) k (fun c => (z_dig u c - z_dig u c / 1000 * 1000).toInt32)) (8 * n + 4) k (fun c => (z_dig v c - z_dig v c / 1000 * 1000).toInt32))) 128 (((8 * (I 127 1)) + (nI k)).toNatClampNeg) (((z_dig u k) - (z_dig u k) / 1000 * 1000).toInt32)), J, RF w))) (fun _ => rfl) ?_
    refine z_evC (z_inN (k := 8 * n + k) (z_addE (z_mulE rfl h_n) rfl) (by omega) (by decide)) ?_
    refine z_evL ?_
    rw [show (((8 * (I 127 1)) + (nI k) : Int32)).toNatClampNeg = 8 * n + k from z_natE (z_addE (z_mulE rfl h_n) rfl) (by omega)]
    refine z_evG 13 (y := z_ck (!decide ((1000 : Int64) = 0)) (z_go 88 [some (.ref 127), some (.long u), none, some (.long v), none, some (.long (z_dig u k)), none, some (.long (z_dig v k)), none, some (.int (nI k))] [.long ((z_dig v k) - (z_dig v k) / 1000 * 1000), .int (((8 * (I 127 1)) + 4) + (nI k)), .ref 128] 161 ((z_u2 (z_ur I 128 (z_fil (z_fil (I 128) (8 * n) k (fun c => (z_dig u c - z_dig u c / 1000 * 1000).toInt32)) (8 * n + 4) k (fun c => (z_dig v c - z_dig v c / 1000 * 1000).toInt32))) 128 (8 * n + k) (((z_dig u k) - (z_dig u k) / 1000 * 1000).toInt32)), J, RF w))) (fun _ => rfl) ?_
    refine z_evC (by decide) ?_
    refine z_evL ?_
    refine z_evG 2 (y := z_ck (z_in (((8 * (I 127 1)) + 4) + (nI k)) 240) (z_go 90 [some (.ref 127), some (.long u), none, some (.long v), none, some (.long (z_dig u k)), none, some (.long (z_dig v k)), none, some (.int (nI k))] [] 161 ((z_u2 (z_u2 (z_ur I 128 (z_fil (z_fil (I 128) (8 * n) k (fun c => (z_dig u c - z_dig u c / 1000 * 1000).toInt32)) (8 * n + 4) k (fun c => (z_dig v c - z_dig v c / 1000 * 1000).toInt32))) 128 (8 * n + k) (((z_dig u k) - (z_dig u k) / 1000 * 1000).toInt32)) 128 ((((8 * (I 127 1)) + 4) + (nI k)).toNatClampNeg) (((z_dig v k) - (z_dig v k) / 1000 * 1000).toInt32)), J, RF w))) (fun _ => rfl) ?_
    refine z_evC (z_inN (k := 8 * n + 4 + k) (z_addE (z_addE (z_mulE rfl h_n) rfl) rfl) (by omega) (by decide)) ?_
    refine z_evL ?_
    rw [show ((((8 * (I 127 1)) + 4) + (nI k) : Int32)).toNatClampNeg = 8 * n + 4 + k from z_natE (z_addE (z_addE (z_mulE rfl h_n) rfl) rfl) (by omega)]
    refine z_evG 3 (y := z_ck (!decide ((1000 : Int64) = 0)) (z_go 96 [some (.ref 127), some (.long u), none, some (.long v), none, some (.long (z_dig u k)), none, some (.long (z_dig v k)), none, some (.int (nI k))] [.long ((z_dig u k) / 1000)] 161 ((z_u2 (z_u2 (z_ur I 128 (z_fil (z_fil (I 128) (8 * n) k (fun c => (z_dig u c - z_dig u c / 1000 * 1000).toInt32)) (8 * n + 4) k (fun c => (z_dig v c - z_dig v c / 1000 * 1000).toInt32))) 128 (8 * n + k) (((z_dig u k) - (z_dig u k) / 1000 * 1000).toInt32)) 128 (8 * n + 4 + k) (((z_dig v k) - (z_dig v k) / 1000 * 1000).toInt32)), J, RF w))) (fun _ => rfl) ?_
    refine z_evC (by decide) ?_
    refine z_evL ?_
    refine z_evG 4 (y := z_ck (!decide ((1000 : Int64) = 0)) (z_go 104 [some (.ref 127), some (.long u), none, some (.long v), none, some (.long ((z_dig u k) / 1000)), none, some (.long (z_dig v k)), none, some (.int (nI k))] [.long ((z_dig v k) / 1000)] 161 ((z_u2 (z_u2 (z_ur I 128 (z_fil (z_fil (I 128) (8 * n) k (fun c => (z_dig u c - z_dig u c / 1000 * 1000).toInt32)) (8 * n + 4) k (fun c => (z_dig v c - z_dig v c / 1000 * 1000).toInt32))) 128 (8 * n + k) (((z_dig u k) - (z_dig u k) / 1000 * 1000).toInt32)) 128 (8 * n + 4 + k) (((z_dig v k) - (z_dig v k) / 1000 * 1000).toInt32)), J, RF w))) (fun _ => rfl) ?_
    refine z_evC (by decide) ?_
    refine z_evL ?_
    refine z_evG 3 (y := z_go 38 [some (.ref 127), some (.long u), none, some (.long v), none, some (.long ((z_dig u k) / 1000)), none, some (.long ((z_dig v k) / 1000)), none, some (.int ((nI k) + 1))] [] 161 ((z_u2 (z_u2 (z_ur I 128 (z_fil (z_fil (I 128) (8 * n) k (fun c => (z_dig u c - z_dig u c / 1000 * 1000).toInt32)) (8 * n + 4) k (fun c => (z_dig v c - z_dig v c / 1000 * 1000).toInt32))) 128 (8 * n + k) (((z_dig u k) - (z_dig u k) / 1000 * 1000).toInt32)) 128 (8 * n + 4 + k) (((z_dig v k) - (z_dig v k) / 1000 * 1000).toInt32)), J, RF w)) (fun _ => rfl) ?_
    refine z_evL ?_
    rw [nI_1, z_fil_ss _ _ _ _ _ _ (by omega)]
    exact nx trivial
theorem z_u2_id {α : Type} {f : Nat → Nat → α} {a i : Nat} {x : α} (h : f a i = x) : z_u2 f a i x = f := by
  funext b j
  unfold z_u2
  split
  · split
    · rename_i e1 e2; subst e1 e2; exact h.symm
    · rfl
  · rfl
theorem z_u2_sw {α : Type} (f : Nat → Nat → α) {a b : Nat} (i j : Nat) (x y v : α) (h : a ≠ b) : z_u2 (z_u2 (z_u2 f a i x) b j v) a i y = z_u2 (z_u2 f b j v) a i y := by
  funext c k
  unfold z_u2
  by_cases h1 : c = a
  · subst h1
    simp only [if_true, h, if_false]
    split
    · rfl
    · rfl
  · simp only [h1, if_false]
set_option maxRecDepth 20000 in
/-- LampHouse$Reader.append -/
theorem x_append (E : zE) (d : Nat) (I : Nat → Nat → Int32) (J : Nat → Nat → Int64) (w : Nat) (b n : Nat) (v : Int64) (h_n : I 76 1 = nI n) (hm_n : n ≤ 160) (h1 : 1 ≤ b) (h8 : b ≤ 8) (hf : n + b ≤ 160) : z_cl E (d + 1) 58 [.ref 76, .int (nI b), .long v] (161, I, J, RF w) = some (some (.int (nI (n + b))), 161, (z_u2 (z_ur I 77 (z_fil (I 77) n b (fun c => (v >>> ((8 * nI c).toInt64 &&& 63)).toInt32 &&& 255))) 76 1 (nI (n + b))), J, RF w) := by
  refine z_call (d := d + 0) (M := z_m58) rfl rfl ?_
  refine z_evG 2 (y := z_go 3 [some (.ref 76), some (.int (nI b)), some (.long v), none, some (.int 0)] [] 161 (I, J, RF w)) (fun _ => rfl) ?_
  refine z_evL ?_
  have st0 : ∀ m0, m0 = 0 → ∀ q, z_Ev E d z_m58 3 [some (.ref 76), some (.int (nI b)), some (.long v), none, some (.int (nI m0))] [] 161 ((z_u2 (z_ur I 77 (z_fil (I 77) n m0 (fun c => (v >>> ((8 * nI c).toInt64 &&& 63)).toInt32 &&& 255))) 76 1 (nI (n + m0))), J, RF w) q → z_Ev E d z_m58 3 [some (.ref 76), some (.int (nI b)), some (.long v), none, some (.int 0)] [] 161 (I, J, RF w) q := by intro m0 hm0 q h; rw [hm0, z_fil_0, z_u2_id (show I 76 1 = nI (n + 0) from h_n)] at h; subst hm0; exact h
  refine st0 0 rfl _ ?_
  refine z_loop (F := fun k => ([some (.ref 76), some (.int (nI b)), some (.long v), none, some (.int (nI k))], ((z_u2 (z_ur I 77 (z_fil (I 77) n k (fun c => (v >>> ((8 * nI c).toInt64 &&& 63)).toInt32 &&& 255))) 76 1 (nI (n + k))), J, RF w))) (P := fun k => True) b trivial (fun hP => ?_) (fun k hk hP next => ?_)
  · show z_Ev E d z_m58 3 [some (.ref 76), some (.int (nI b)), some (.long v), none, some (.int (nI b))] [] 161 ((z_u2 (z_ur I 77 (z_fil (I 77) n b (fun c => (v >>> ((8 * nI c).toInt64 &&& 63)).toInt32 &&& 255))) 76 1 (nI (n + b))), J, RF w) _
    refine z_evG 3 (y := if (nI b) < (nI b) then z_go 9 [some (.ref 76), some (.int (nI b)), some (.long v), none, some (.int (nI b))] [] 161 ((z_u2 (z_ur I 77 (z_fil (I 77) n b (fun c => (v >>> ((8 * nI c).toInt64 &&& 63)).toInt32 &&& 255))) 76 1 (nI (n + b))), J, RF w) else z_go 46 [some (.ref 76), some (.int (nI b)), some (.long v), none, some (.int (nI b))] [] 161 ((z_u2 (z_ur I 77 (z_fil (I 77) n b (fun c => (v >>> ((8 * nI c).toInt64 &&& 63)).toInt32 &&& 255))) 76 1 (nI (n + b))), J, RF w)) (fun _ => rfl) ?_
    refine z_evF (mt (show _ ↔ b < b from z_ltN rfl rfl (by omega) (by omega)).mp (by omega)) ?_
    refine z_evL ?_
    refine z_evG 3 (y := some (.inr (some (.int (nI (n + b))), 161, (z_u2 (z_ur I 77 (z_fil (I 77) n b (fun c => (v >>> ((8 * nI c).toInt64 &&& 63)).toInt32 &&& 255))) 76 1 (nI (n + b))), J, RF w))) (fun _ => rfl) ?_
    exact z_evR rfl
  · show z_Ev E d z_m58 3 [some (.ref 76), some (.int (nI b)), some (.long v), none, some (.int (nI k))] [] 161 ((z_u2 (z_ur I 77 (z_fil (I 77) n k (fun c => (v >>> ((8 * nI c).toInt64 &&& 63)).toInt32 &&& 255))) 76 1 (nI (n + k))), J, RF w) _
    have nx : (True) → z_Ev E d z_m58 3 [some (.ref 76), some (.int (nI b)), some (.long v), none, some (.int (nI (k + 1)))] [] 161 ((z_u2 (z_ur I 77 (z_fil (I 77) n (k + 1) (fun c => (v >>> ((8 * nI c).toInt64 &&& 63)).toInt32 &&& 255))) 76 1 (nI (n + (k + 1)))), J, RF w) _ := next
    refine z_evG 3 (y := if (nI k) < (nI b) then z_go 9 [some (.ref 76), some (.int (nI b)), some (.long v), none, some (.int (nI k))] [] 161 ((z_u2 (z_ur I 77 (z_fil (I 77) n k (fun c => (v >>> ((8 * nI c).toInt64 &&& 63)).toInt32 &&& 255))) 76 1 (nI (n + k))), J, RF w) else z_go 46 [some (.ref 76), some (.int (nI b)), some (.long v), none, some (.int (nI k))] [] 161 ((z_u2 (z_ur I 77 (z_fil (I 77) n k (fun c => (v >>> ((8 * nI c).toInt64 &&& 63)).toInt32 &&& 255))) 76 1 (nI (n + k))), J, RF w)) (fun _ => rfl) ?_
    refine z_evT ((show _ ↔ k < b from z_ltN rfl rfl (by omega) (by omega)).mpr (by omega)) ?_
    refine z_evL ?_
    refine z_evG 13 (y := z_ck (z_in (nI (n + k)) 160) (z_go 30 [some (.ref 76), some (.int (nI b)), some (.long v), none, some (.int (nI k))] [] 161 ((z_u2 (z_u2 (z_ur I 77 (z_fil (I 77) n k (fun c => (v >>> ((8 * nI c).toInt64 &&& 63)).toInt32 &&& 255))) 76 1 (nI (n + k))) 77 ((nI (n + k)).toNatClampNeg) (((v >>> ((8 * (nI k)).toInt64 &&& 63)).toInt32) &&& 255)), J, RF w))) (fun _ => rfl) ?_
    refine z_evC (z_inN (k := (n + k)) rfl (by omega) (by decide)) ?_
    refine z_evL ?_
    rw [show ((nI (n + k) : Int32)).toNatClampNeg = (n + k) from z_natE rfl (by omega)]
    refine z_evG 8 (y := z_go 3 [some (.ref 76), some (.int (nI b)), some (.long v), none, some (.int ((nI k) + 1))] [] 161 ((z_u2 (z_u2 (z_u2 (z_ur I 77 (z_fil (I 77) n k (fun c => (v >>> ((8 * nI c).toInt64 &&& 63)).toInt32 &&& 255))) 76 1 (nI (n + k))) 77 (n + k) (((v >>> ((8 * (nI k)).toInt64 &&& 63)).toInt32) &&& 255)) 76 1 ((nI (n + k)) + 1)), J, RF w)) (fun _ => rfl) ?_
    refine z_evL ?_
    rw [z_u2_sw _ _ _ _ _ _ (by decide), z_fil_s I 77 n k (fun c => (v >>> ((8 * nI c).toInt64 &&& 63)).toInt32 &&& 255), nI_1 k, nI_1 (n + k)]
    exact nx trivial
set_option maxRecDepth 20000 in
/-- LampHouseModel.feed -/
theorem m_feed_ok (E : zE) (d : Nat) (I : Nat → Nat → Int32) (J : Nat → Nat → Int64) (w : Nat) (b n : Nat) (v : Int64) (h_n : I 127 15 = nI n) (hm_n : n ≤ 160) (h1 : 1 ≤ b) (h8 : b ≤ 8) (hf : n + b ≤ 160) : z_cl E (d + 2) 201 [.ref 127, .int (nI b), .long v] (161, I, J, RF w) = some (some (.int (nI (n + b))), 161, (z_u2 (z_ur I 137 (z_fil (I 137) n b (fun c => ((v >>> ((8 * nI c).toInt64 &&& 63)) &&& 255).toInt32))) 127 15 (nI (n + b))), J, RF w) := by
  refine z_call (d := d + 1) (M := z_m201) rfl rfl ?_
  refine z_evG 4 (y := z_ret (z_cl E (d + 1) 178 [.int (nI b), .int 1, .int 8] (161, (I, J, RF w))) 7 [some (.ref 127), some (.int (nI b)), some (.long v), none, none] []) (fun _ => rfl) ?_
  refine z_evK (v := .int (z_bo (¬ (nI b) < 1 ∧ ¬ 8 < (nI b)))) (z' := 161) (σ' := (I, J, RF w)) (m_in E d I J w (nI b) 1 8) ?_
  refine z_evG 1 (y := if (z_bo (¬ (nI b) < 1 ∧ ¬ 8 < (nI b))) = 0 then z_go 10 [some (.ref 127), some (.int (nI b)), some (.long v), none, none] [] 161 (I, J, RF w) else z_go 13 [some (.ref 127), some (.int (nI b)), some (.long v), none, none] [] 161 (I, J, RF w)) (fun _ => rfl) ?_
  refine z_evF (fun q => z_bo_0.mp q ⟨(mt (show _ ↔ b < 1 from z_ltN rfl rfl (by omega) (by omega)).mp (by omega)), (mt (show _ ↔ 8 < b from z_ltN rfl rfl (by omega) (by omega)).mp (by omega))⟩) ?_
  refine z_evL ?_
  refine z_evG 6 (y := if 160 < ((I 127 15) + (nI b)) then z_go 25 [some (.ref 127), some (.int (nI b)), some (.long v), none, none] [] 161 (I, J, RF w) else z_go 28 [some (.ref 127), some (.int (nI b)), some (.long v), none, none] [] 161 (I, J, RF w)) (fun _ => rfl) ?_
  refine z_evF ((mt (show _ ↔ 160 < n + b from z_ltN rfl (z_addE h_n rfl) (by omega) (by omega)).mp (by omega))) ?_
  refine z_evL ?_
  refine z_evG 2 (y := z_go 31 [some (.ref 127), some (.int (nI b)), some (.long v), none, some (.int 0)] [] 161 (I, J, RF w)) (fun _ => rfl) ?_
  refine z_evL ?_
  have st0 : ∀ m0, m0 = 0 → ∀ q, z_Ev E (d + 1) z_m201 31 [some (.ref 127), some (.int (nI b)), some (.long v), none, some (.int (nI m0))] [] 161 ((z_u2 (z_ur I 137 (z_fil (I 137) n m0 (fun c => ((v >>> ((8 * nI c).toInt64 &&& 63)) &&& 255).toInt32))) 127 15 (nI (n + m0))), J, RF w) q → z_Ev E (d + 1) z_m201 31 [some (.ref 127), some (.int (nI b)), some (.long v), none, some (.int 0)] [] 161 (I, J, RF w) q := by intro m0 hm0 q h; rw [hm0, z_fil_0, z_u2_id (show I 127 15 = nI (n + 0) from h_n)] at h; subst hm0; exact h
  refine st0 0 rfl _ ?_
  refine z_loop (F := fun k => ([some (.ref 127), some (.int (nI b)), some (.long v), none, some (.int (nI k))], ((z_u2 (z_ur I 137 (z_fil (I 137) n k (fun c => ((v >>> ((8 * nI c).toInt64 &&& 63)) &&& 255).toInt32))) 127 15 (nI (n + k))), J, RF w))) (P := fun k => True) b trivial (fun hP => ?_) (fun k hk hP next => ?_)
  · show z_Ev E (d + 1) z_m201 31 [some (.ref 127), some (.int (nI b)), some (.long v), none, some (.int (nI b))] [] 161 ((z_u2 (z_ur I 137 (z_fil (I 137) n b (fun c => ((v >>> ((8 * nI c).toInt64 &&& 63)) &&& 255).toInt32))) 127 15 (nI (n + b))), J, RF w) _
    refine z_evG 3 (y := if (nI b) < (nI b) then z_go 37 [some (.ref 127), some (.int (nI b)), some (.long v), none, some (.int (nI b))] [] 161 ((z_u2 (z_ur I 137 (z_fil (I 137) n b (fun c => ((v >>> ((8 * nI c).toInt64 &&& 63)) &&& 255).toInt32))) 127 15 (nI (n + b))), J, RF w) else z_go 74 [some (.ref 127), some (.int (nI b)), some (.long v), none, some (.int (nI b))] [] 161 ((z_u2 (z_ur I 137 (z_fil (I 137) n b (fun c => ((v >>> ((8 * nI c).toInt64 &&& 63)) &&& 255).toInt32))) 127 15 (nI (n + b))), J, RF w)) (fun _ => rfl) ?_
    refine z_evF (mt (show _ ↔ b < b from z_ltN rfl rfl (by omega) (by omega)).mp (by omega)) ?_
    refine z_evL ?_
    refine z_evG 3 (y := some (.inr (some (.int (nI (n + b))), 161, (z_u2 (z_ur I 137 (z_fil (I 137) n b (fun c => ((v >>> ((8 * nI c).toInt64 &&& 63)) &&& 255).toInt32))) 127 15 (nI (n + b))), J, RF w))) (fun _ => rfl) ?_
    exact z_evR rfl
  · show z_Ev E (d + 1) z_m201 31 [some (.ref 127), some (.int (nI b)), some (.long v), none, some (.int (nI k))] [] 161 ((z_u2 (z_ur I 137 (z_fil (I 137) n k (fun c => ((v >>> ((8 * nI c).toInt64 &&& 63)) &&& 255).toInt32))) 127 15 (nI (n + k))), J, RF w) _
    have nx : (True) → z_Ev E (d + 1) z_m201 31 [some (.ref 127), some (.int (nI b)), some (.long v), none, some (.int (nI (k + 1)))] [] 161 ((z_u2 (z_ur I 137 (z_fil (I 137) n (k + 1) (fun c => ((v >>> ((8 * nI c).toInt64 &&& 63)) &&& 255).toInt32))) 127 15 (nI (n + (k + 1)))), J, RF w) _ := next
    refine z_evG 3 (y := if (nI k) < (nI b) then z_go 37 [some (.ref 127), some (.int (nI b)), some (.long v), none, some (.int (nI k))] [] 161 ((z_u2 (z_ur I 137 (z_fil (I 137) n k (fun c => ((v >>> ((8 * nI c).toInt64 &&& 63)) &&& 255).toInt32))) 127 15 (nI (n + k))), J, RF w) else z_go 74 [some (.ref 127), some (.int (nI b)), some (.long v), none, some (.int (nI k))] [] 161 ((z_u2 (z_ur I 137 (z_fil (I 137) n k (fun c => ((v >>> ((8 * nI c).toInt64 &&& 63)) &&& 255).toInt32))) 127 15 (nI (n + k))), J, RF w)) (fun _ => rfl) ?_
    refine z_evT ((show _ ↔ k < b from z_ltN rfl rfl (by omega) (by omega)).mpr (by omega)) ?_
    refine z_evL ?_
    refine z_evG 13 (y := z_ck (z_in (nI (n + k)) 160) (z_go 58 [some (.ref 127), some (.int (nI b)), some (.long v), none, some (.int (nI k))] [] 161 ((z_u2 (z_u2 (z_ur I 137 (z_fil (I 137) n k (fun c => ((v >>> ((8 * nI c).toInt64 &&& 63)) &&& 255).toInt32))) 127 15 (nI (n + k))) 137 ((nI (n + k)).toNatClampNeg) (((v >>> ((8 * (nI k)).toInt64 &&& 63)) &&& 255).toInt32)), J, RF w))) (fun _ => rfl) ?_
    refine z_evC (z_inN (k := (n + k)) rfl (by omega) (by decide)) ?_
    refine z_evL ?_
    rw [show ((nI (n + k) : Int32)).toNatClampNeg = (n + k) from z_natE rfl (by omega)]
    refine z_evG 8 (y := z_go 31 [some (.ref 127), some (.int (nI b)), some (.long v), none, some (.int ((nI k) + 1))] [] 161 ((z_u2 (z_u2 (z_u2 (z_ur I 137 (z_fil (I 137) n k (fun c => ((v >>> ((8 * nI c).toInt64 &&& 63)) &&& 255).toInt32))) 127 15 (nI (n + k))) 137 (n + k) (((v >>> ((8 * (nI k)).toInt64 &&& 63)) &&& 255).toInt32)) 127 15 ((nI (n + k)) + 1)), J, RF w)) (fun _ => rfl) ?_
    refine z_evL ?_
    rw [z_u2_sw _ _ _ _ _ _ (by decide), z_fil_s I 137 n k (fun c => ((v >>> ((8 * nI c).toInt64 &&& 63)) &&& 255).toInt32), nI_1 k, nI_1 (n + k)]
    exact nx trivial
set_option maxRecDepth 20000 in
/-- LampHouse.feed -/
theorem x_feed_bad (E : zE) (d : Nat) (I : Nat → Nat → Int32) (J : Nat → Nat → Int64) (w : Nat) (b : Int32) (v : Int64) (hbad : ¬ ((¬ b < 1) ∧ (¬ 8 < b))) : z_cl E (d + 2) 141 [.ref 0, .int b, .long v] (161, I, J, RF w) = some (some (.int (-2)), 161, I, J, RF w) := by
  refine z_call (d := d + 1) (M := z_m141) rfl rfl ?_
  refine z_evG 3 (y := if b < 1 then z_go 11 [some (.ref 0), some (.int b), some (.long v), none] [] 161 (I, J, RF w) else z_go 5 [some (.ref 0), some (.int b), some (.long v), none] [] 161 (I, J, RF w)) (fun _ => rfl) ?_
  refine z_evI (fun h1 => ?_) (fun h1 => ?_)
  · refine z_evL ?_
    refine z_evG 2 (y := some (.inr (some (.int (-2)), 161, I, J, RF w))) (fun _ => rfl) ?_
    exact z_evR rfl
  · refine z_evL ?_
    refine z_evG 3 (y := if 8 < b then z_go 11 [some (.ref 0), some (.int b), some (.long v), none] [] 161 (I, J, RF w) else z_go 14 [some (.ref 0), some (.int b), some (.long v), none] [] 161 (I, J, RF w)) (fun _ => rfl) ?_
    refine z_evI (fun h2 => ?_) (fun h2 => ?_)
    · refine z_evL ?_
      refine z_evG 2 (y := some (.inr (some (.int (-2)), 161, I, J, RF w))) (fun _ => rfl) ?_
      exact z_evR rfl
    · refine z_evL ?_
      exact absurd ⟨h1, h2⟩ hbad
set_option maxRecDepth 20000 in
/-- LampHouseModel.feed -/
theorem m_feed_bad (E : zE) (d : Nat) (I : Nat → Nat → Int32) (J : Nat → Nat → Int64) (w : Nat) (b : Int32) (v : Int64) (hbad : ¬ (¬ b < 1 ∧ ¬ 8 < b)) : z_cl E (d + 2) 201 [.ref 127, .int b, .long v] (161, I, J, RF w) = some (some (.int (-2)), 161, I, J, RF w) := by
  refine z_call (d := d + 1) (M := z_m201) rfl rfl ?_
  refine z_evG 4 (y := z_ret (z_cl E (d + 1) 178 [.int b, .int 1, .int 8] (161, (I, J, RF w))) 7 [some (.ref 127), some (.int b), some (.long v), none, none] []) (fun _ => rfl) ?_
  refine z_evK (v := .int (z_bo (¬ b < 1 ∧ ¬ 8 < b))) (z' := 161) (σ' := (I, J, RF w)) (m_in E d I J w b 1 8) ?_
  refine z_evG 1 (y := if (z_bo (¬ b < 1 ∧ ¬ 8 < b)) = 0 then z_go 10 [some (.ref 127), some (.int b), some (.long v), none, none] [] 161 (I, J, RF w) else z_go 13 [some (.ref 127), some (.int b), some (.long v), none, none] [] 161 (I, J, RF w)) (fun _ => rfl) ?_
  refine z_evO (fun h1 => ?_) (fun h1 => ?_)
  · refine z_evL ?_
    refine z_evG 2 (y := some (.inr (some (.int (-2)), 161, I, J, RF w))) (fun _ => rfl) ?_
    exact z_evR rfl
  · refine z_evL ?_
    exact absurd h1 hbad
set_option maxRecDepth 20000 in
/-- LampHouse.feed -/
theorem x_feed_full (E : zE) (d : Nat) (I : Nat → Nat → Int32) (J : Nat → Nat → Int64) (w : Nat) (b n : Nat) (v : Int64) (h_n : I 76 1 = nI n) (hm_n : n ≤ 160) (h1 : 1 ≤ b) (h8 : b ≤ 8) (hf : 160 < n + b) : z_cl E (d + 2) 141 [.ref 0, .int (nI b), .long v] (161, I, J, RF w) = some (some (.int (-4)), 161, I, J, RF w) := by
  refine z_call (d := d + 1) (M := z_m141) rfl rfl ?_
  refine z_evG 3 (y := if (nI b) < 1 then z_go 11 [some (.ref 0), some (.int (nI b)), some (.long v), none] [] 161 (I, J, RF w) else z_go 5 [some (.ref 0), some (.int (nI b)), some (.long v), none] [] 161 (I, J, RF w)) (fun _ => rfl) ?_
  refine z_evF ((mt (show _ ↔ b < 1 from z_ltN rfl rfl (by omega) (by omega)).mp (by omega))) ?_
  refine z_evL ?_
  refine z_evG 3 (y := if 8 < (nI b) then z_go 11 [some (.ref 0), some (.int (nI b)), some (.long v), none] [] 161 (I, J, RF w) else z_go 14 [some (.ref 0), some (.int (nI b)), some (.long v), none] [] 161 (I, J, RF w)) (fun _ => rfl) ?_
  refine z_evF ((mt (show _ ↔ 8 < b from z_ltN rfl rfl (by omega) (by omega)).mp (by omega))) ?_
  refine z_evL ?_
  refine z_evG 4 (y := z_ret (z_cl E (d + 1) 57 [.ref 76, .int (nI b)] (161, (I, J, RF w))) 22 [some (.ref 0), some (.int (nI b)), some (.long v), none] []) (fun _ => rfl) ?_
  refine z_evK (v := .int (z_bo (¬ 160 < I 76 1 + (nI b)))) (z' := 161) (σ' := (I, J, RF w)) (x_reader_hasRoom E d I J w (nI b)) ?_
  refine z_evG 1 (y := if (z_bo (¬ 160 < I 76 1 + (nI b))) = 0 then z_go 37 [some (.ref 0), some (.int (nI b)), some (.long v), none] [] 161 (I, J, RF w) else z_go 25 [some (.ref 0), some (.int (nI b)), some (.long v), none] [] 161 (I, J, RF w)) (fun _ => rfl) ?_
  refine z_evT (z_bo_0.mpr (fun q => q ((z_ltN rfl (z_addE h_n rfl) (by decide) (by omega)).mpr hf))) ?_
  refine z_evL ?_
  refine z_evG 2 (y := some (.inr (some (.int (-4)), 161, I, J, RF w))) (fun _ => rfl) ?_
  exact z_evR rfl
set_option maxRecDepth 20000 in
/-- LampHouse.feed -/
theorem x_feed_ok (E : zE) (d : Nat) (I : Nat → Nat → Int32) (J : Nat → Nat → Int64) (w : Nat) (b n : Nat) (v : Int64) (h_n : I 76 1 = nI n) (hm_n : n ≤ 160) (h1 : 1 ≤ b) (h8 : b ≤ 8) (hf : n + b ≤ 160) : z_cl E (d + 2) 141 [.ref 0, .int (nI b), .long v] (161, I, J, RF w) = some (some (.int (nI (n + b))), 161, (z_u2 (z_ur I 77 (z_fil (I 77) n b (fun c => (v >>> ((8 * nI c).toInt64 &&& 63)).toInt32 &&& 255))) 76 1 (nI (n + b))), J, RF w) := by
  refine z_call (d := d + 1) (M := z_m141) rfl rfl ?_
  refine z_evG 3 (y := if (nI b) < 1 then z_go 11 [some (.ref 0), some (.int (nI b)), some (.long v), none] [] 161 (I, J, RF w) else z_go 5 [some (.ref 0), some (.int (nI b)), some (.long v), none] [] 161 (I, J, RF w)) (fun _ => rfl) ?_
  refine z_evF ((mt (show _ ↔ b < 1 from z_ltN rfl rfl (by omega) (by omega)).mp (by omega))) ?_
  refine z_evL ?_
  refine z_evG 3 (y := if 8 < (nI b) then z_go 11 [some (.ref 0), some (.int (nI b)), some (.long v), none] [] 161 (I, J, RF w) else z_go 14 [some (.ref 0), some (.int (nI b)), some (.long v), none] [] 161 (I, J, RF w)) (fun _ => rfl) ?_
  refine z_evF ((mt (show _ ↔ 8 < b from z_ltN rfl rfl (by omega) (by omega)).mp (by omega))) ?_
  refine z_evL ?_
  refine z_evG 4 (y := z_ret (z_cl E (d + 1) 57 [.ref 76, .int (nI b)] (161, (I, J, RF w))) 22 [some (.ref 0), some (.int (nI b)), some (.long v), none] []) (fun _ => rfl) ?_
  refine z_evK (v := .int (z_bo (¬ 160 < I 76 1 + (nI b)))) (z' := 161) (σ' := (I, J, RF w)) (x_reader_hasRoom E d I J w (nI b)) ?_
  refine z_evG 1 (y := if (z_bo (¬ 160 < I 76 1 + (nI b))) = 0 then z_go 37 [some (.ref 0), some (.int (nI b)), some (.long v), none] [] 161 (I, J, RF w) else z_go 25 [some (.ref 0), some (.int (nI b)), some (.long v), none] [] 161 (I, J, RF w)) (fun _ => rfl) ?_
  refine z_evF (fun q => z_bo_0.mp q (mt (show _ ↔ 160 < n + b from z_ltN rfl (z_addE h_n rfl) (by decide) (by omega)).mp (by omega))) ?_
  refine z_evL ?_
  refine z_evG 5 (y := z_ret (z_cl E (d + 1) 58 [.ref 76, .int (nI b), .long v] (161, (I, J, RF w))) 34 [some (.ref 0), some (.int (nI b)), some (.long v), none] []) (fun _ => rfl) ?_
  refine z_evK (v := .int (nI (n + b))) (z' := 161) (σ' := ((z_u2 (z_ur I 77 (z_fil (I 77) n b (fun c => (v >>> ((8 * nI c).toInt64 &&& 63)).toInt32 &&& 255))) 76 1 (nI (n + b))), J, RF w)) (x_append E d I J w b n v h_n (by omega) (by omega) (by omega) (by omega)) ?_
  refine z_evG 2 (y := some (.inr (some (.int (nI (n + b))), 161, (z_u2 (z_ur I 77 (z_fil (I 77) n b (fun c => (v >>> ((8 * nI c).toInt64 &&& 63)).toInt32 &&& 255))) 76 1 (nI (n + b))), J, RF w))) (fun _ => rfl) ?_
  exact z_evR rfl
set_option maxRecDepth 20000 in
/-- LampHouseModel.feed -/
theorem m_feed_full (E : zE) (d : Nat) (I : Nat → Nat → Int32) (J : Nat → Nat → Int64) (w : Nat) (b n : Nat) (v : Int64) (h_n : I 127 15 = nI n) (hm_n : n ≤ 160) (h1 : 1 ≤ b) (h8 : b ≤ 8) (hf : 160 < n + b) : z_cl E (d + 2) 201 [.ref 127, .int (nI b), .long v] (161, I, J, RF w) = some (some (.int (-4)), 161, I, J, RF w) := by
  refine z_call (d := d + 1) (M := z_m201) rfl rfl ?_
  refine z_evG 4 (y := z_ret (z_cl E (d + 1) 178 [.int (nI b), .int 1, .int 8] (161, (I, J, RF w))) 7 [some (.ref 127), some (.int (nI b)), some (.long v), none, none] []) (fun _ => rfl) ?_
  refine z_evK (v := .int (z_bo (¬ (nI b) < 1 ∧ ¬ 8 < (nI b)))) (z' := 161) (σ' := (I, J, RF w)) (m_in E d I J w (nI b) 1 8) ?_
  refine z_evG 1 (y := if (z_bo (¬ (nI b) < 1 ∧ ¬ 8 < (nI b))) = 0 then z_go 10 [some (.ref 127), some (.int (nI b)), some (.long v), none, none] [] 161 (I, J, RF w) else z_go 13 [some (.ref 127), some (.int (nI b)), some (.long v), none, none] [] 161 (I, J, RF w)) (fun _ => rfl) ?_
  refine z_evF (fun q => z_bo_0.mp q ⟨(mt (show _ ↔ b < 1 from z_ltN rfl rfl (by omega) (by omega)).mp (by omega)), (mt (show _ ↔ 8 < b from z_ltN rfl rfl (by omega) (by omega)).mp (by omega))⟩) ?_
  refine z_evL ?_
  refine z_evG 6 (y := if 160 < ((I 127 15) + (nI b)) then z_go 25 [some (.ref 127), some (.int (nI b)), some (.long v), none, none] [] 161 (I, J, RF w) else z_go 28 [some (.ref 127), some (.int (nI b)), some (.long v), none, none] [] 161 (I, J, RF w)) (fun _ => rfl) ?_
  refine z_evT (((show _ ↔ 160 < n + b from z_ltN rfl (z_addE h_n rfl) (by omega) (by omega)).mpr (by omega))) ?_
  refine z_evL ?_
  refine z_evG 2 (y := some (.inr (some (.int (-4)), 161, I, J, RF w))) (fun _ => rfl) ?_
  exact z_evR rfl
