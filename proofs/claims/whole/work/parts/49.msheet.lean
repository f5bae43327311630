-- SHEET by the reference
theorem z_fil_0x {α : Type} {f : Nat → Nat → α} {a s : Nat} {h : Nat → α} (g : Nat → α) (e : f a = h) : z_ur f a (z_fil h s 0 g) = f := by
  subst e; exact z_fil_0 f a s g
theorem z_fil_sx {α : Type} {f : Nat → Nat → α} {a : Nat} {h : Nat → α} (s k : Nat) (g : Nat → α) (x : α) (e : f a = h) (ex : g k = x := by rfl) : z_u2 (z_ur f a (z_fil h s k g)) a (s + k) x = z_ur f a (z_fil h s (k + 1) g) := by
  subst e ex; exact z_fil_s f a s k g
set_option maxRecDepth 20000 in
/-- LampHouseModel.sheet -/
theorem m_sheet_remove (E : zE) (d : Nat) (I : Nat → Nat → Int32) (J : Nat → Nat → Int64) (w : Nat) (s : Nat) (n : Int32) (hl_s : s < 4) : z_cl E (d + 3) 248 [.ref 127, .int (nI s), .int (-1), .int n] (161, I, J, RF w) = some (some (.int 1), 161, (z_ur (z_u2 (z_u2 I 157 s (-1)) 158 s 0) 159 (z_fil (I 159) (40 * s) 40 (fun _ => 0))), J, RF w) := by
  refine z_call (d := d + 2) (M := z_m248) rfl rfl ?_
  refine z_evG 2 (y := z_ret (z_cl E (d + 2) 247 [.int (nI s)] (161, (I, J, RF w))) 4 [some (.ref 127), some (.int (nI s)), some (.int (-1)), some (.int n), none] []) (fun _ => rfl) ?_
  refine z_evK (v := .int (z_bo (¬ (nI s) < 0 ∧ ¬ 3 < (nI s)))) (z' := 161) (σ' := (I, J, RF w)) (m_isSheet E d I J w (nI s)) ?_
  refine z_evG 1 (y := if (z_bo (¬ (nI s) < 0 ∧ ¬ 3 < (nI s))) = 0 then z_go 26 [some (.ref 127), some (.int (nI s)), some (.int (-1)), some (.int n), none] [] 161 (I, J, RF w) else z_go 7 [some (.ref 127), some (.int (nI s)), some (.int (-1)), some (.int n), none] [] 161 (I, J, RF w)) (fun _ => rfl) ?_
  refine z_evF (fun q0 => z_bo_0.mp q0 ⟨(mt (show _ ↔ s < 0 from z_ltN rfl rfl (by omega) (by omega)).mp (by omega)), (mt (show _ ↔ 3 < s from z_ltN rfl rfl (by omega) (by omega)).mp (by omega))⟩) ?_
  refine z_evL ?_
  refine z_evG 4 (y := z_ret (z_cl E (d + 2) 178 [.int (-1), .int (-1), .int 2] (161, (I, J, RF w))) 13 [some (.ref 127), some (.int (nI s)), some (.int (-1)), some (.int n), none] []) (fun _ => rfl) ?_
  refine z_evK (v := .int (z_bo (¬ (-1) < (-1) ∧ ¬ 2 < (-1)))) (z' := 161) (σ' := (I, J, RF w)) (m_in E (d + 1) I J w (-1) (-1) 2) ?_
  refine z_evG 1 (y := if (z_bo (¬ (-1) < (-1) ∧ ¬ 2 < (-1))) = 0 then z_go 26 [some (.ref 127), some (.int (nI s)), some (.int (-1)), some (.int n), none] [] 161 (I, J, RF w) else z_go 16 [some (.ref 127), some (.int (nI s)), some (.int (-1)), some (.int n), none] [] 161 (I, J, RF w)) (fun _ => rfl) ?_
  refine z_evF (fun q0 => z_bo_0.mp q0 ⟨(by decide), (by decide)⟩) ?_
  refine z_evL ?_
  refine z_evG 2 (y := if (-1) < 0 then z_go 29 [some (.ref 127), some (.int (nI s)), some (.int (-1)), some (.int n), none] [] 161 (I, J, RF w) else z_go 20 [some (.ref 127), some (.int (nI s)), some (.int (-1)), some (.int n), none] [] 161 (I, J, RF w)) (fun _ => rfl) ?_
  refine z_evI (fun _ => ?_) (fun q => absurd (by decide) q)
  refine z_evL ?_
  refine z_evG 2 (y := if (-1) < 0 then z_go 40 [some (.ref 127), some (.int (nI s)), some (.int (-1)), some (.int n), none] [] 161 (I, J, RF w) else z_go 33 [some (.ref 127), some (.int (nI s)), some (.int (-1)), some (.int n), none] [] 161 (I, J, RF w)) (fun _ => rfl) ?_
  refine z_evI (fun _ => ?_) (fun q => absurd (by decide) q)
  refine z_evL ?_
  refine z_evG 5 (y := z_ck (z_in (nI s) 4) (z_go 47 [some (.ref 127), some (.int (nI s)), some (.int (-1)), some (.int n), none] [] 161 ((z_u2 I 157 ((nI s).toNatClampNeg) (-1)), J, RF w))) (fun _ => rfl) ?_
  refine z_evC (z_inN (k := s) rfl (by omega) (by decide)) ?_
  refine z_evL ?_
  rw [show ((nI s : Int32)).toNatClampNeg = s from z_natE rfl (by omega)]
  refine z_evG 5 (y := if (-1) < 0 then z_go 56 [some (.ref 127), some (.int (nI s)), some (.int (-1)), some (.int n), none] [.int (nI s), .ref 158] 161 ((z_u2 I 157 s (-1)), J, RF w) else z_go 60 [some (.ref 127), some (.int (nI s)), some (.int (-1)), some (.int n), none] [.int (nI s), .ref 158] 161 ((z_u2 I 157 s (-1)), J, RF w)) (fun _ => rfl) ?_
  refine z_evI (fun _ => ?_) (fun q => absurd (by decide) q)
  refine z_evL ?_
  refine z_evG 3 (y := z_ck (z_in (nI s) 4) (z_go 62 [some (.ref 127), some (.int (nI s)), some (.int (-1)), some (.int n), none] [] 161 ((z_u2 (z_u2 I 157 s (-1)) 158 ((nI s).toNatClampNeg) 0), J, RF w))) (fun _ => rfl) ?_
  refine z_evC (z_inN (k := s) rfl (by omega) (by decide)) ?_
  refine z_evL ?_
  rw [show ((nI s : Int32)).toNatClampNeg = s from z_natE rfl (by omega)]
  refine z_evG 2 (y := z_go 65 [some (.ref 127), some (.int (nI s)), some (.int (-1)), some (.int n), some (.int 0)] [] 161 ((z_u2 (z_u2 I 157 s (-1)) 158 s 0), J, RF w)) (fun _ => rfl) ?_
  refine z_evL ?_
  have st0 : ∀ m0, m0 = 0 → ∀ q, z_Ev E (d + 2) z_m248 65 [some (.ref 127), some (.int (nI s)), some (.int (-1)), some (.int n), some (.int (nI m0))] [] 161 ((z_ur (z_u2 (z_u2 I 157 s (-1)) 158 s 0) 159 (z_fil (I 159) (40 * s) m0 (fun _ => 0))), J, RF w) q → z_Ev E (d + 2) z_m248 65 [some (.ref 127), some (.int (nI s)), some (.int (-1)), some (.int n), some (.int 0)] [] 161 ((z_u2 (z_u2 I 157 s (-1)) 158 s 0), J, RF w) q := by intro m0 hm0 q h; rw [hm0, z_fil_0x _ (by rfl)] at h; subst hm0; exact h
  refine st0 0 rfl _ ?_
  refine z_loop (F := fun k => ([some (.ref 127), some (.int (nI s)), some (.int (-1)), some (.int n), some (.int (nI k))], ((z_ur (z_u2 (z_u2 I 157 s (-1)) 158 s 0) 159 (z_fil (I 159) (40 * s) k (fun _ => 0))), J, RF w))) (P := fun k => True) 40 trivial (fun hP => ?_) (fun k hk hP next => ?_)
  · show z_Ev E (d + 2) z_m248 65 [some (.ref 127), some (.int (nI s)), some (.int (-1)), some (.int n), some (.int (nI 40))] [] 161 ((z_ur (z_u2 (z_u2 I 157 s (-1)) 158 s 0) 159 (z_fil (I 159) (40 * s) 40 (fun _ => 0))), J, RF w) _
    refine z_evG 3 (y := if (nI 40) < 40 then z_go 72 [some (.ref 127), some (.int (nI s)), some (.int (-1)), some (.int n), some (.int (nI 40))] [] 161 ((z_ur (z_u2 (z_u2 I 157 s (-1)) 158 s 0) 159 (z_fil (I 159) (40 * s) 40 (fun _ => 0))), J, RF w) else z_go 91 [some (.ref 127), some (.int (nI s)), some (.int (-1)), some (.int n), some (.int (nI 40))] [] 161 ((z_ur (z_u2 (z_u2 I 157 s (-1)) 158 s 0) 159 (z_fil (I 159) (40 * s) 40 (fun _ => 0))), J, RF w)) (fun _ => rfl) ?_
    refine z_evF (mt (show _ ↔ 40 < 40 from z_ltN rfl rfl (by omega) (by omega)).mp (by omega)) ?_
    refine z_evL ?_
    refine z_evG 2 (y := some (.inr (some (.int 1), 161, (z_ur (z_u2 (z_u2 I 157 s (-1)) 158 s 0) 159 (z_fil (I 159) (40 * s) 40 (fun _ => 0))), J, RF w))) (fun _ => rfl) ?_
    exact z_evR rfl
  · show z_Ev E (d + 2) z_m248 65 [some (.ref 127), some (.int (nI s)), some (.int (-1)), some (.int n), some (.int (nI k))] [] 161 ((z_ur (z_u2 (z_u2 I 157 s (-1)) 158 s 0) 159 (z_fil (I 159) (40 * s) k (fun _ => 0))), J, RF w) _
    have nx : (True) → z_Ev E (d + 2) z_m248 65 [some (.ref 127), some (.int (nI s)), some (.int (-1)), some (.int n), some (.int (nI (k + 1)))] [] 161 ((z_ur (z_u2 (z_u2 I 157 s (-1)) 158 s 0) 159 (z_fil (I 159) (40 * s) (k + 1) (fun _ => 0))), J, RF w) _ := next
    refine z_evG 3 (y := if (nI k) < 40 then z_go 72 [some (.ref 127), some (.int (nI s)), some (.int (-1)), some (.int n), some (.int (nI k))] [] 161 ((z_ur (z_u2 (z_u2 I 157 s (-1)) 158 s 0) 159 (z_fil (I 159) (40 * s) k (fun _ => 0))), J, RF w) else z_go 91 [some (.ref 127), some (.int (nI s)), some (.int (-1)), some (.int n), some (.int (nI k))] [] 161 ((z_ur (z_u2 (z_u2 I 157 s (-1)) 158 s 0) 159 (z_fil (I 159) (40 * s) k (fun _ => 0))), J, RF w)) (fun _ => rfl) ?_
    refine z_evT ((show _ ↔ k < 40 from z_ltN rfl rfl (by omega) (by omega)).mpr (by omega)) ?_
    refine z_evL ?_
    refine z_evG 9 (y := z_ck (z_in ((40 * (nI s)) + (nI k)) 160) (z_go 85 [some (.ref 127), some (.int (nI s)), some (.int (-1)), some (.int n), some (.int (nI k))] [] 161 ((z_u2 (z_ur (z_u2 (z_u2 I 157 s (-1)) 158 s 0) 159 (z_fil (I 159) (40 * s) k (fun _ => 0))) 159 (((40 * (nI s)) + (nI k)).toNatClampNeg) 0), J, RF w))) (fun _ => rfl) ?_
    refine z_evC (z_inN (k := 40 * s + k) (z_addE (z_mulE rfl rfl) rfl) (by omega) (by decide)) ?_
    refine z_evL ?_
    rw [show (((40 * (nI s)) + (nI k) : Int32)).toNatClampNeg = 40 * s + k from z_natE (z_addE (z_mulE rfl rfl) rfl) (by omega)]
    refine z_evG 2 (y := z_go 65 [some (.ref 127), some (.int (nI s)), some (.int (-1)), some (.int n), some (.int ((nI k) + 1))] [] 161 ((z_u2 (z_ur (z_u2 (z_u2 I 157 s (-1)) 158 s 0) 159 (z_fil (I 159) (40 * s) k (fun _ => 0))) 159 (40 * s + k) 0), J, RF w)) (fun _ => rfl) ?_
    refine z_evL ?_
    rw [nI_1 k, z_fil_sx _ _ _ _ (by rfl)]
    exact nx trivial
set_option maxRecDepth 20000 in
/-- LampHouseModel.sheet -/
theorem m_sheet_make_0 (E : zE) (d : Nat) (I : Nat → Nat → Int32) (J : Nat → Nat → Int64) (w : Nat) (s n : Nat) (hl_s : s < 4) (hl_n : n < 41) : z_cl E (d + 3) 248 [.ref 127, .int (nI s), .int 0, .int (nI n)] (161, I, J, RF w) = some (some (.int 1), 161, (z_ur (z_u2 (z_u2 I 157 s 0) 158 s (nI n)) 159 (z_fil (I 159) (40 * s) 40 (fun _ => 0))), J, RF w) := by
  refine z_call (d := d + 2) (M := z_m248) rfl rfl ?_
  refine z_evG 2 (y := z_ret (z_cl E (d + 2) 247 [.int (nI s)] (161, (I, J, RF w))) 4 [some (.ref 127), some (.int (nI s)), some (.int 0), some (.int (nI n)), none] []) (fun _ => rfl) ?_
  refine z_evK (v := .int (z_bo (¬ (nI s) < 0 ∧ ¬ 3 < (nI s)))) (z' := 161) (σ' := (I, J, RF w)) (m_isSheet E d I J w (nI s)) ?_
  refine z_evG 1 (y := if (z_bo (¬ (nI s) < 0 ∧ ¬ 3 < (nI s))) = 0 then z_go 26 [some (.ref 127), some (.int (nI s)), some (.int 0), some (.int (nI n)), none] [] 161 (I, J, RF w) else z_go 7 [some (.ref 127), some (.int (nI s)), some (.int 0), some (.int (nI n)), none] [] 161 (I, J, RF w)) (fun _ => rfl) ?_
  refine z_evF (fun q0 => z_bo_0.mp q0 ⟨(mt (show _ ↔ s < 0 from z_ltN rfl rfl (by omega) (by omega)).mp (by omega)), (mt (show _ ↔ 3 < s from z_ltN rfl rfl (by omega) (by omega)).mp (by omega))⟩) ?_
  refine z_evL ?_
  refine z_evG 4 (y := z_ret (z_cl E (d + 2) 178 [.int 0, .int (-1), .int 2] (161, (I, J, RF w))) 13 [some (.ref 127), some (.int (nI s)), some (.int 0), some (.int (nI n)), none] []) (fun _ => rfl) ?_
  refine z_evK (v := .int (z_bo (¬ 0 < (-1) ∧ ¬ 2 < 0))) (z' := 161) (σ' := (I, J, RF w)) (m_in E (d + 1) I J w 0 (-1) 2) ?_
  refine z_evG 1 (y := if (z_bo (¬ 0 < (-1) ∧ ¬ 2 < 0)) = 0 then z_go 26 [some (.ref 127), some (.int (nI s)), some (.int 0), some (.int (nI n)), none] [] 161 (I, J, RF w) else z_go 16 [some (.ref 127), some (.int (nI s)), some (.int 0), some (.int (nI n)), none] [] 161 (I, J, RF w)) (fun _ => rfl) ?_
  refine z_evF (fun q0 => z_bo_0.mp q0 ⟨(by decide), (by decide)⟩) ?_
  refine z_evL ?_
  refine z_evG 2 (y := if 0 < 0 then z_go 29 [some (.ref 127), some (.int (nI s)), some (.int 0), some (.int (nI n)), none] [] 161 (I, J, RF w) else z_go 20 [some (.ref 127), some (.int (nI s)), some (.int 0), some (.int (nI n)), none] [] 161 (I, J, RF w)) (fun _ => rfl) ?_
  refine z_evI (fun q => absurd q (by decide)) (fun _ => ?_)
  refine z_evL ?_
  refine z_evG 3 (y := if 40 < (nI n) then z_go 26 [some (.ref 127), some (.int (nI s)), some (.int 0), some (.int (nI n)), none] [] 161 (I, J, RF w) else z_go 29 [some (.ref 127), some (.int (nI s)), some (.int 0), some (.int (nI n)), none] [] 161 (I, J, RF w)) (fun _ => rfl) ?_
  refine z_evF ((mt (show _ ↔ 40 < n from z_ltN rfl rfl (by omega) (by omega)).mp (by omega))) ?_
  refine z_evL ?_
  refine z_evG 2 (y := if 0 < 0 then z_go 40 [some (.ref 127), some (.int (nI s)), some (.int 0), some (.int (nI n)), none] [] 161 (I, J, RF w) else z_go 33 [some (.ref 127), some (.int (nI s)), some (.int 0), some (.int (nI n)), none] [] 161 (I, J, RF w)) (fun _ => rfl) ?_
  refine z_evI (fun q => absurd q (by decide)) (fun _ => ?_)
  refine z_evL ?_
  refine z_evG 2 (y := if (nI n) < 0 then z_go 37 [some (.ref 127), some (.int (nI s)), some (.int 0), some (.int (nI n)), none] [] 161 (I, J, RF w) else z_go 40 [some (.ref 127), some (.int (nI s)), some (.int 0), some (.int (nI n)), none] [] 161 (I, J, RF w)) (fun _ => rfl) ?_
  refine z_evF ((mt (show _ ↔ n < 0 from z_ltN rfl rfl (by omega) (by omega)).mp (by omega))) ?_
  refine z_evL ?_
  refine z_evG 5 (y := z_ck (z_in (nI s) 4) (z_go 47 [some (.ref 127), some (.int (nI s)), some (.int 0), some (.int (nI n)), none] [] 161 ((z_u2 I 157 ((nI s).toNatClampNeg) 0), J, RF w))) (fun _ => rfl) ?_
  refine z_evC (z_inN (k := s) rfl (by omega) (by decide)) ?_
  refine z_evL ?_
  rw [show ((nI s : Int32)).toNatClampNeg = s from z_natE rfl (by omega)]
  refine z_evG 5 (y := if 0 < 0 then z_go 56 [some (.ref 127), some (.int (nI s)), some (.int 0), some (.int (nI n)), none] [.int (nI s), .ref 158] 161 ((z_u2 I 157 s 0), J, RF w) else z_go 60 [some (.ref 127), some (.int (nI s)), some (.int 0), some (.int (nI n)), none] [.int (nI s), .ref 158] 161 ((z_u2 I 157 s 0), J, RF w)) (fun _ => rfl) ?_
  refine z_evI (fun q => absurd q (by decide)) (fun _ => ?_)
  refine z_evL ?_
  refine z_evG 2 (y := z_ck (z_in (nI s) 4) (z_go 62 [some (.ref 127), some (.int (nI s)), some (.int 0), some (.int (nI n)), none] [] 161 ((z_u2 (z_u2 I 157 s 0) 158 ((nI s).toNatClampNeg) (nI n)), J, RF w))) (fun _ => rfl) ?_
  refine z_evC (z_inN (k := s) rfl (by omega) (by decide)) ?_
  refine z_evL ?_
  rw [show ((nI s : Int32)).toNatClampNeg = s from z_natE rfl (by omega)]
  refine z_evG 2 (y := z_go 65 [some (.ref 127), some (.int (nI s)), some (.int 0), some (.int (nI n)), some (.int 0)] [] 161 ((z_u2 (z_u2 I 157 s 0) 158 s (nI n)), J, RF w)) (fun _ => rfl) ?_
  refine z_evL ?_
  have st0 : ∀ m0, m0 = 0 → ∀ q, z_Ev E (d + 2) z_m248 65 [some (.ref 127), some (.int (nI s)), some (.int 0), some (.int (nI n)), some (.int (nI m0))] [] 161 ((z_ur (z_u2 (z_u2 I 157 s 0) 158 s (nI n)) 159 (z_fil (I 159) (40 * s) m0 (fun _ => 0))), J, RF w) q → z_Ev E (d + 2) z_m248 65 [some (.ref 127), some (.int (nI s)), some (.int 0), some (.int (nI n)), some (.int 0)] [] 161 ((z_u2 (z_u2 I 157 s 0) 158 s (nI n)), J, RF w) q := by intro m0 hm0 q h; rw [hm0, z_fil_0x _ (by rfl)] at h; subst hm0; exact h
  refine st0 0 rfl _ ?_
  refine z_loop (F := fun k => ([some (.ref 127), some (.int (nI s)), some (.int 0), some (.int (nI n)), some (.int (nI k))], ((z_ur (z_u2 (z_u2 I 157 s 0) 158 s (nI n)) 159 (z_fil (I 159) (40 * s) k (fun _ => 0))), J, RF w))) (P := fun k => True) 40 trivial (fun hP => ?_) (fun k hk hP next => ?_)
  · show z_Ev E (d + 2) z_m248 65 [some (.ref 127), some (.int (nI s)), some (.int 0), some (.int (nI n)), some (.int (nI 40))] [] 161 ((z_ur (z_u2 (z_u2 I 157 s 0) 158 s (nI n)) 159 (z_fil (I 159) (40 * s) 40 (fun _ => 0))), J, RF w) _
    refine z_evG 3 (y := if (nI 40) < 40 then z_go 72 [some (.ref 127), some (.int (nI s)), some (.int 0), some (.int (nI n)), some (.int (nI 40))] [] 161 ((z_ur (z_u2 (z_u2 I 157 s 0) 158 s (nI n)) 159 (z_fil (I 159) (40 * s) 40 (fun _ => 0))), J, RF w) else z_go 91 [some (.ref 127), some (.int (nI s)), some (.int 0), some (.int (nI n)), some (.int (nI 40))] [] 161 ((z_ur (z_u2 (z_u2 I 157 s 0) 158 s (nI n)) 159 (z_fil (I 159) (40 * s) 40 (fun _ => 0))), J, RF w)) (fun _ => rfl) ?_
    refine z_evF (mt (show _ ↔ 40 < 40 from z_ltN rfl rfl (by omega) (by omega)).mp (by omega)) ?_
    refine z_evL ?_
    refine z_evG 2 (y := some (.inr (some (.int 1), 161, (z_ur (z_u2 (z_u2 I 157 s 0) 158 s (nI n)) 159 (z_fil (I 159) (40 * s) 40 (fun _ => 0))), J, RF w))) (fun _ => rfl) ?_
    exact z_evR rfl
  · show z_Ev E (d + 2) z_m248 65 [some (.ref 127), some (.int (nI s)), some (.int 0), some (.int (nI n)), some (.int (nI k))] [] 161 ((z_ur (z_u2 (z_u2 I 157 s 0) 158 s (nI n)) 159 (z_fil (I 159) (40 * s) k (fun _ => 0))), J, RF w) _
    have nx : (True) → z_Ev E (d + 2) z_m248 65 [some (.ref 127), some (.int (nI s)), some (.int 0), some (.int (nI n)), some (.int (nI (k + 1)))] [] 161 ((z_ur (z_u2 (z_u2 I 157 s 0) 158 s (nI n)) 159 (z_fil (I 159) (40 * s) (k + 1) (fun _ => 0))), J, RF w) _ := next
    refine z_evG 3 (y := if (nI k) < 40 then z_go 72 [some (.ref 127), some (.int (nI s)), some (.int 0), some (.int (nI n)), some (.int (nI k))] [] 161 ((z_ur (z_u2 (z_u2 I 157 s 0) 158 s (nI n)) 159 (z_fil (I 159) (40 * s) k (fun _ => 0))), J, RF w) else z_go 91 [some (.ref 127), some (.int (nI s)), some (.int 0), some (.int (nI n)), some (.int (nI k))] [] 161 ((z_ur (z_u2 (z_u2 I 157 s 0) 158 s (nI n)) 159 (z_fil (I 159) (40 * s) k (fun _ => 0))), J, RF w)) (fun _ => rfl) ?_
    refine z_evT ((show _ ↔ k < 40 from z_ltN rfl rfl (by omega) (by omega)).mpr (by omega)) ?_
    refine z_evL ?_
    refine z_evG 9 (y := z_ck (z_in ((40 * (nI s)) + (nI k)) 160) (z_go 85 [some (.ref 127), some (.int (nI s)), some (.int 0), some (.int (nI n)), some (.int (nI k))] [] 161 ((z_u2 (z_ur (z_u2 (z_u2 I 157 s 0) 158 s (nI n)) 159 (z_fil (I 159) (40 * s) k (fun _ => 0))) 159 (((40 * (nI s)) + (nI k)).toNatClampNeg) 0), J, RF w))) (fun _ => rfl) ?_
    refine z_evC (z_inN (k := 40 * s + k) (z_addE (z_mulE rfl rfl) rfl) (by omega) (by decide)) ?_
    refine z_evL ?_
    rw [show (((40 * (nI s)) + (nI k) : Int32)).toNatClampNeg = 40 * s + k from z_natE (z_addE (z_mulE rfl rfl) rfl) (by omega)]
    refine z_evG 2 (y := z_go 65 [some (.ref 127), some (.int (nI s)), some (.int 0), some (.int (nI n)), some (.int ((nI k) + 1))] [] 161 ((z_u2 (z_ur (z_u2 (z_u2 I 157 s 0) 158 s (nI n)) 159 (z_fil (I 159) (40 * s) k (fun _ => 0))) 159 (40 * s + k) 0), J, RF w)) (fun _ => rfl) ?_
    refine z_evL ?_
    rw [nI_1 k, z_fil_sx _ _ _ _ (by rfl)]
    exact nx trivial
set_option maxRecDepth 20000 in
/-- LampHouseModel.sheet -/
theorem m_sheet_make_1 (E : zE) (d : Nat) (I : Nat → Nat → Int32) (J : Nat → Nat → Int64) (w : Nat) (s n : Nat) (hl_s : s < 4) (hl_n : n < 41) : z_cl E (d + 3) 248 [.ref 127, .int (nI s), .int 1, .int (nI n)] (161, I, J, RF w) = some (some (.int 1), 161, (z_ur (z_u2 (z_u2 I 157 s 1) 158 s (nI n)) 159 (z_fil (I 159) (40 * s) 40 (fun _ => 0))), J, RF w) := by
  refine z_call (d := d + 2) (M := z_m248) rfl rfl ?_
  refine z_evG 2 (y := z_ret (z_cl E (d + 2) 247 [.int (nI s)] (161, (I, J, RF w))) 4 [some (.ref 127), some (.int (nI s)), some (.int 1), some (.int (nI n)), none] []) (fun _ => rfl) ?_
  refine z_evK (v := .int (z_bo (¬ (nI s) < 0 ∧ ¬ 3 < (nI s)))) (z' := 161) (σ' := (I, J, RF w)) (m_isSheet E d I J w (nI s)) ?_
  refine z_evG 1 (y := if (z_bo (¬ (nI s) < 0 ∧ ¬ 3 < (nI s))) = 0 then z_go 26 [some (.ref 127), some (.int (nI s)), some (.int 1), some (.int (nI n)), none] [] 161 (I, J, RF w) else z_go 7 [some (.ref 127), some (.int (nI s)), some (.int 1), some (.int (nI n)), none] [] 161 (I, J, RF w)) (fun _ => rfl) ?_
  refine z_evF (fun q0 => z_bo_0.mp q0 ⟨(mt (show _ ↔ s < 0 from z_ltN rfl rfl (by omega) (by omega)).mp (by omega)), (mt (show _ ↔ 3 < s from z_ltN rfl rfl (by omega) (by omega)).mp (by omega))⟩) ?_
  refine z_evL ?_
  refine z_evG 4 (y := z_ret (z_cl E (d + 2) 178 [.int 1, .int (-1), .int 2] (161, (I, J, RF w))) 13 [some (.ref 127), some (.int (nI s)), some (.int 1), some (.int (nI n)), none] []) (fun _ => rfl) ?_
  refine z_evK (v := .int (z_bo (¬ 1 < (-1) ∧ ¬ 2 < 1))) (z' := 161) (σ' := (I, J, RF w)) (m_in E (d + 1) I J w 1 (-1) 2) ?_
  refine z_evG 1 (y := if (z_bo (¬ 1 < (-1) ∧ ¬ 2 < 1)) = 0 then z_go 26 [some (.ref 127), some (.int (nI s)), some (.int 1), some (.int (nI n)), none] [] 161 (I, J, RF w) else z_go 16 [some (.ref 127), some (.int (nI s)), some (.int 1), some (.int (nI n)), none] [] 161 (I, J, RF w)) (fun _ => rfl) ?_
  refine z_evF (fun q0 => z_bo_0.mp q0 ⟨(by decide), (by decide)⟩) ?_
  refine z_evL ?_
  refine z_evG 2 (y := if 1 < 0 then z_go 29 [some (.ref 127), some (.int (nI s)), some (.int 1), some (.int (nI n)), none] [] 161 (I, J, RF w) else z_go 20 [some (.ref 127), some (.int (nI s)), some (.int 1), some (.int (nI n)), none] [] 161 (I, J, RF w)) (fun _ => rfl) ?_
  refine z_evI (fun q => absurd q (by decide)) (fun _ => ?_)
  refine z_evL ?_
  refine z_evG 3 (y := if 40 < (nI n) then z_go 26 [some (.ref 127), some (.int (nI s)), some (.int 1), some (.int (nI n)), none] [] 161 (I, J, RF w) else z_go 29 [some (.ref 127), some (.int (nI s)), some (.int 1), some (.int (nI n)), none] [] 161 (I, J, RF w)) (fun _ => rfl) ?_
  refine z_evF ((mt (show _ ↔ 40 < n from z_ltN rfl rfl (by omega) (by omega)).mp (by omega))) ?_
  refine z_evL ?_
  refine z_evG 2 (y := if 1 < 0 then z_go 40 [some (.ref 127), some (.int (nI s)), some (.int 1), some (.int (nI n)), none] [] 161 (I, J, RF w) else z_go 33 [some (.ref 127), some (.int (nI s)), some (.int 1), some (.int (nI n)), none] [] 161 (I, J, RF w)) (fun _ => rfl) ?_
  refine z_evI (fun q => absurd q (by decide)) (fun _ => ?_)
  refine z_evL ?_
  refine z_evG 2 (y := if (nI n) < 0 then z_go 37 [some (.ref 127), some (.int (nI s)), some (.int 1), some (.int (nI n)), none] [] 161 (I, J, RF w) else z_go 40 [some (.ref 127), some (.int (nI s)), some (.int 1), some (.int (nI n)), none] [] 161 (I, J, RF w)) (fun _ => rfl) ?_
  refine z_evF ((mt (show _ ↔ n < 0 from z_ltN rfl rfl (by omega) (by omega)).mp (by omega))) ?_
  refine z_evL ?_
  refine z_evG 5 (y := z_ck (z_in (nI s) 4) (z_go 47 [some (.ref 127), some (.int (nI s)), some (.int 1), some (.int (nI n)), none] [] 161 ((z_u2 I 157 ((nI s).toNatClampNeg) 1), J, RF w))) (fun _ => rfl) ?_
  refine z_evC (z_inN (k := s) rfl (by omega) (by decide)) ?_
  refine z_evL ?_
  rw [show ((nI s : Int32)).toNatClampNeg = s from z_natE rfl (by omega)]
  refine z_evG 5 (y := if 1 < 0 then z_go 56 [some (.ref 127), some (.int (nI s)), some (.int 1), some (.int (nI n)), none] [.int (nI s), .ref 158] 161 ((z_u2 I 157 s 1), J, RF w) else z_go 60 [some (.ref 127), some (.int (nI s)), some (.int 1), some (.int (nI n)), none] [.int (nI s), .ref 158] 161 ((z_u2 I 157 s 1), J, RF w)) (fun _ => rfl) ?_
  refine z_evI (fun q => absurd q (by decide)) (fun _ => ?_)
  refine z_evL ?_
  refine z_evG 2 (y := z_ck (z_in (nI s) 4) (z_go 62 [some (.ref 127), some (.int (nI s)), some (.int 1), some (.int (nI n)), none] [] 161 ((z_u2 (z_u2 I 157 s 1) 158 ((nI s).toNatClampNeg) (nI n)), J, RF w))) (fun _ => rfl) ?_
  refine z_evC (z_inN (k := s) rfl (by omega) (by decide)) ?_
  refine z_evL ?_
  rw [show ((nI s : Int32)).toNatClampNeg = s from z_natE rfl (by omega)]
  refine z_evG 2 (y := z_go 65 [some (.ref 127), some (.int (nI s)), some (.int 1), some (.int (nI n)), some (.int 0)] [] 161 ((z_u2 (z_u2 I 157 s 1) 158 s (nI n)), J, RF w)) (fun _ => rfl) ?_
  refine z_evL ?_
  have st0 : ∀ m0, m0 = 0 → ∀ q, z_Ev E (d + 2) z_m248 65 [some (.ref 127), some (.int (nI s)), some (.int 1), some (.int (nI n)), some (.int (nI m0))] [] 161 ((z_ur (z_u2 (z_u2 I 157 s 1) 158 s (nI n)) 159 (z_fil (I 159) (40 * s) m0 (fun _ => 0))), J, RF w) q → z_Ev E (d + 2) z_m248 65 [some (.ref 127), some (.int (nI s)), some (.int 1), some (.int (nI n)), some (.int 0)] [] 161 ((z_u2 (z_u2 I 157 s 1) 158 s (nI n)), J, RF w) q := by intro m0 hm0 q h; rw [hm0, z_fil_0x _ (by rfl)] at h; subst hm0; exact h
  refine st0 0 rfl _ ?_
  refine z_loop (F := fun k => ([some (.ref 127), some (.int (nI s)), some (.int 1), some (.int (nI n)), some (.int (nI k))], ((z_ur (z_u2 (z_u2 I 157 s 1) 158 s (nI n)) 159 (z_fil (I 159) (40 * s) k (fun _ => 0))), J, RF w))) (P := fun k => True) 40 trivial (fun hP => ?_) (fun k hk hP next => ?_)
  · show z_Ev E (d + 2) z_m248 65 [some (.ref 127), some (.int (nI s)), some (.int 1), some (.int (nI n)), some (.int (nI 40))] [] 161 ((z_ur (z_u2 (z_u2 I 157 s 1) 158 s (nI n)) 159 (z_fil (I 159) (40 * s) 40 (fun _ => 0))), J, RF w) _
    refine z_evG 3 (y := if (nI 40) < 40 then z_go 72 [some (.ref 127), some (.int (nI s)), some (.int 1), some (.int (nI n)), some (.int (nI 40))] [] 161 ((z_ur (z_u2 (z_u2 I 157 s 1) 158 s (nI n)) 159 (z_fil (I 159) (40 * s) 40 (fun _ => 0))), J, RF w) else z_go 91 [some (.ref 127), some (.int (nI s)), some (.int 1), some (.int (nI n)), some (.int (nI 40))] [] 161 ((z_ur (z_u2 (z_u2 I 157 s 1) 158 s (nI n)) 159 (z_fil (I 159) (40 * s) 40 (fun _ => 0))), J, RF w)) (fun _ => rfl) ?_
    refine z_evF (mt (show _ ↔ 40 < 40 from z_ltN rfl rfl (by omega) (by omega)).mp (by omega)) ?_
    refine z_evL ?_
    refine z_evG 2 (y := some (.inr (some (.int 1), 161, (z_ur (z_u2 (z_u2 I 157 s 1) 158 s (nI n)) 159 (z_fil (I 159) (40 * s) 40 (fun _ => 0))), J, RF w))) (fun _ => rfl) ?_
    exact z_evR rfl
  · show z_Ev E (d + 2) z_m248 65 [some (.ref 127), some (.int (nI s)), some (.int 1), some (.int (nI n)), some (.int (nI k))] [] 161 ((z_ur (z_u2 (z_u2 I 157 s 1) 158 s (nI n)) 159 (z_fil (I 159) (40 * s) k (fun _ => 0))), J, RF w) _
    have nx : (True) → z_Ev E (d + 2) z_m248 65 [some (.ref 127), some (.int (nI s)), some (.int 1), some (.int (nI n)), some (.int (nI (k + 1)))] [] 161 ((z_ur (z_u2 (z_u2 I 157 s 1) 158 s (nI n)) 159 (z_fil (I 159) (40 * s) (k + 1) (fun _ => 0))), J, RF w) _ := next
    refine z_evG 3 (y := if (nI k) < 40 then z_go 72 [some (.ref 127), some (.int (nI s)), some (.int 1), some (.int (nI n)), some (.int (nI k))] [] 161 ((z_ur (z_u2 (z_u2 I 157 s 1) 158 s (nI n)) 159 (z_fil (I 159) (40 * s) k (fun _ => 0))), J, RF w) else z_go 91 [some (.ref 127), some (.int (nI s)), some (.int 1), some (.int (nI n)), some (.int (nI k))] [] 161 ((z_ur (z_u2 (z_u2 I 157 s 1) 158 s (nI n)) 159 (z_fil (I 159) (40 * s) k (fun _ => 0))), J, RF w)) (fun _ => rfl) ?_
    refine z_evT ((show _ ↔ k < 40 from z_ltN rfl rfl (by omega) (by omega)).mpr (by omega)) ?_
    refine z_evL ?_
    refine z_evG 9 (y := z_ck (z_in ((40 * (nI s)) + (nI k)) 160) (z_go 85 [some (.ref 127), some (.int (nI s)), some (.int 1), some (.int (nI n)), some (.int (nI k))] [] 161 ((z_u2 (z_ur (z_u2 (z_u2 I 157 s 1) 158 s (nI n)) 159 (z_fil (I 159) (40 * s) k (fun _ => 0))) 159 (((40 * (nI s)) + (nI k)).toNatClampNeg) 0), J, RF w))) (fun _ => rfl) ?_
    refine z_evC (z_inN (k := 40 * s + k) (z_addE (z_mulE rfl rfl) rfl) (by omega) (by decide)) ?_
    refine z_evL ?_
    rw [show (((40 * (nI s)) + (nI k) : Int32)).toNatClampNeg = 40 * s + k from z_natE (z_addE (z_mulE rfl rfl) rfl) (by omega)]
    refine z_evG 2 (y := z_go 65 [some (.ref 127), some (.int (nI s)), some (.int 1), some (.int (nI n)), some (.int ((nI k) + 1))] [] 161 ((z_u2 (z_ur (z_u2 (z_u2 I 157 s 1) 158 s (nI n)) 159 (z_fil (I 159) (40 * s) k (fun _ => 0))) 159 (40 * s + k) 0), J, RF w)) (fun _ => rfl) ?_
    refine z_evL ?_
    rw [nI_1 k, z_fil_sx _ _ _ _ (by rfl)]
    exact nx trivial
set_option maxRecDepth 20000 in
/-- LampHouseModel.sheet -/
theorem m_sheet_make_2 (E : zE) (d : Nat) (I : Nat → Nat → Int32) (J : Nat → Nat → Int64) (w : Nat) (s n : Nat) (hl_s : s < 4) (hl_n : n < 41) : z_cl E (d + 3) 248 [.ref 127, .int (nI s), .int 2, .int (nI n)] (161, I, J, RF w) = some (some (.int 1), 161, (z_ur (z_u2 (z_u2 I 157 s 2) 158 s (nI n)) 159 (z_fil (I 159) (40 * s) 40 (fun _ => 0))), J, RF w) := by
  refine z_call (d := d + 2) (M := z_m248) rfl rfl ?_
  refine z_evG 2 (y := z_ret (z_cl E (d + 2) 247 [.int (nI s)] (161, (I, J, RF w))) 4 [some (.ref 127), some (.int (nI s)), some (.int 2), some (.int (nI n)), none] []) (fun _ => rfl) ?_
  refine z_evK (v := .int (z_bo (¬ (nI s) < 0 ∧ ¬ 3 < (nI s)))) (z' := 161) (σ' := (I, J, RF w)) (m_isSheet E d I J w (nI s)) ?_
  refine z_evG 1 (y := if (z_bo (¬ (nI s) < 0 ∧ ¬ 3 < (nI s))) = 0 then z_go 26 [some (.ref 127), some (.int (nI s)), some (.int 2), some (.int (nI n)), none] [] 161 (I, J, RF w) else z_go 7 [some (.ref 127), some (.int (nI s)), some (.int 2), some (.int (nI n)), none] [] 161 (I, J, RF w)) (fun _ => rfl) ?_
  refine z_evF (fun q0 => z_bo_0.mp q0 ⟨(mt (show _ ↔ s < 0 from z_ltN rfl rfl (by omega) (by omega)).mp (by omega)), (mt (show _ ↔ 3 < s from z_ltN rfl rfl (by omega) (by omega)).mp (by omega))⟩) ?_
  refine z_evL ?_
  refine z_evG 4 (y := z_ret (z_cl E (d + 2) 178 [.int 2, .int (-1), .int 2] (161, (I, J, RF w))) 13 [some (.ref 127), some (.int (nI s)), some (.int 2), some (.int (nI n)), none] []) (fun _ => rfl) ?_
  refine z_evK (v := .int (z_bo (¬ 2 < (-1) ∧ ¬ 2 < 2))) (z' := 161) (σ' := (I, J, RF w)) (m_in E (d + 1) I J w 2 (-1) 2) ?_
  refine z_evG 1 (y := if (z_bo (¬ 2 < (-1) ∧ ¬ 2 < 2)) = 0 then z_go 26 [some (.ref 127), some (.int (nI s)), some (.int 2), some (.int (nI n)), none] [] 161 (I, J, RF w) else z_go 16 [some (.ref 127), some (.int (nI s)), some (.int 2), some (.int (nI n)), none] [] 161 (I, J, RF w)) (fun _ => rfl) ?_
  refine z_evF (fun q0 => z_bo_0.mp q0 ⟨(by decide), (by decide)⟩) ?_
  refine z_evL ?_
  refine z_evG 2 (y := if 2 < 0 then z_go 29 [some (.ref 127), some (.int (nI s)), some (.int 2), some (.int (nI n)), none] [] 161 (I, J, RF w) else z_go 20 [some (.ref 127), some (.int (nI s)), some (.int 2), some (.int (nI n)), none] [] 161 (I, J, RF w)) (fun _ => rfl) ?_
  refine z_evI (fun q => absurd q (by decide)) (fun _ => ?_)
  refine z_evL ?_
  refine z_evG 3 (y := if 40 < (nI n) then z_go 26 [some (.ref 127), some (.int (nI s)), some (.int 2), some (.int (nI n)), none] [] 161 (I, J, RF w) else z_go 29 [some (.ref 127), some (.int (nI s)), some (.int 2), some (.int (nI n)), none] [] 161 (I, J, RF w)) (fun _ => rfl) ?_
  refine z_evF ((mt (show _ ↔ 40 < n from z_ltN rfl rfl (by omega) (by omega)).mp (by omega))) ?_
  refine z_evL ?_
  refine z_evG 2 (y := if 2 < 0 then z_go 40 [some (.ref 127), some (.int (nI s)), some (.int 2), some (.int (nI n)), none] [] 161 (I, J, RF w) else z_go 33 [some (.ref 127), some (.int (nI s)), some (.int 2), some (.int (nI n)), none] [] 161 (I, J, RF w)) (fun _ => rfl) ?_
  refine z_evI (fun q => absurd q (by decide)) (fun _ => ?_)
  refine z_evL ?_
  refine z_evG 2 (y := if (nI n) < 0 then z_go 37 [some (.ref 127), some (.int (nI s)), some (.int 2), some (.int (nI n)), none] [] 161 (I, J, RF w) else z_go 40 [some (.ref 127), some (.int (nI s)), some (.int 2), some (.int (nI n)), none] [] 161 (I, J, RF w)) (fun _ => rfl) ?_
  refine z_evF ((mt (show _ ↔ n < 0 from z_ltN rfl rfl (by omega) (by omega)).mp (by omega))) ?_
  refine z_evL ?_
  refine z_evG 5 (y := z_ck (z_in (nI s) 4) (z_go 47 [some (.ref 127), some (.int (nI s)), some (.int 2), some (.int (nI n)), none] [] 161 ((z_u2 I 157 ((nI s).toNatClampNeg) 2), J, RF w))) (fun _ => rfl) ?_
  refine z_evC (z_inN (k := s) rfl (by omega) (by decide)) ?_
  refine z_evL ?_
  rw [show ((nI s : Int32)).toNatClampNeg = s from z_natE rfl (by omega)]
  refine z_evG 5 (y := if 2 < 0 then z_go 56 [some (.ref 127), some (.int (nI s)), some (.int 2), some (.int (nI n)), none] [.int (nI s), .ref 158] 161 ((z_u2 I 157 s 2), J, RF w) else z_go 60 [some (.ref 127), some (.int (nI s)), some (.int 2), some (.int (nI n)), none] [.int (nI s), .ref 158] 161 ((z_u2 I 157 s 2), J, RF w)) (fun _ => rfl) ?_
  refine z_evI (fun q => absurd q (by decide)) (fun _ => ?_)
  refine z_evL ?_
  refine z_evG 2 (y := z_ck (z_in (nI s) 4) (z_go 62 [some (.ref 127), some (.int (nI s)), some (.int 2), some (.int (nI n)), none] [] 161 ((z_u2 (z_u2 I 157 s 2) 158 ((nI s).toNatClampNeg) (nI n)), J, RF w))) (fun _ => rfl) ?_
  refine z_evC (z_inN (k := s) rfl (by omega) (by decide)) ?_
  refine z_evL ?_
  rw [show ((nI s : Int32)).toNatClampNeg = s from z_natE rfl (by omega)]
  refine z_evG 2 (y := z_go 65 [some (.ref 127), some (.int (nI s)), some (.int 2), some (.int (nI n)), some (.int 0)] [] 161 ((z_u2 (z_u2 I 157 s 2) 158 s (nI n)), J, RF w)) (fun _ => rfl) ?_
  refine z_evL ?_
  have st0 : ∀ m0, m0 = 0 → ∀ q, z_Ev E (d + 2) z_m248 65 [some (.ref 127), some (.int (nI s)), some (.int 2), some (.int (nI n)), some (.int (nI m0))] [] 161 ((z_ur (z_u2 (z_u2 I 157 s 2) 158 s (nI n)) 159 (z_fil (I 159) (40 * s) m0 (fun _ => 0))), J, RF w) q → z_Ev E (d + 2) z_m248 65 [some (.ref 127), some (.int (nI s)), some (.int 2), some (.int (nI n)), some (.int 0)] [] 161 ((z_u2 (z_u2 I 157 s 2) 158 s (nI n)), J, RF w) q := by intro m0 hm0 q h; rw [hm0, z_fil_0x _ (by rfl)] at h; subst hm0; exact h
  refine st0 0 rfl _ ?_
  refine z_loop (F := fun k => ([some (.ref 127), some (.int (nI s)), some (.int 2), some (.int (nI n)), some (.int (nI k))], ((z_ur (z_u2 (z_u2 I 157 s 2) 158 s (nI n)) 159 (z_fil (I 159) (40 * s) k (fun _ => 0))), J, RF w))) (P := fun k => True) 40 trivial (fun hP => ?_) (fun k hk hP next => ?_)
  · show z_Ev E (d + 2) z_m248 65 [some (.ref 127), some (.int (nI s)), some (.int 2), some (.int (nI n)), some (.int (nI 40))] [] 161 ((z_ur (z_u2 (z_u2 I 157 s 2) 158 s (nI n)) 159 (z_fil (I 159) (40 * s) 40 (fun _ => 0))), J, RF w) _
    refine z_evG 3 (y := if (nI 40) < 40 then z_go 72 [some (.ref 127), some (.int (nI s)), some (.int 2), some (.int (nI n)), some (.int (nI 40))] [] 161 ((z_ur (z_u2 (z_u2 I 157 s 2) 158 s (nI n)) 159 (z_fil (I 159) (40 * s) 40 (fun _ => 0))), J, RF w) else z_go 91 [some (.ref 127), some (.int (nI s)), some (.int 2), some (.int (nI n)), some (.int (nI 40))] [] 161 ((z_ur (z_u2 (z_u2 I 157 s 2) 158 s (nI n)) 159 (z_fil (I 159) (40 * s) 40 (fun _ => 0))), J, RF w)) (fun _ => rfl) ?_
    refine z_evF (mt (show _ ↔ 40 < 40 from z_ltN rfl rfl (by omega) (by omega)).mp (by omega)) ?_
    refine z_evL ?_
    refine z_evG 2 (y := some (.inr (some (.int 1), 161, (z_ur (z_u2 (z_u2 I 157 s 2) 158 s (nI n)) 159 (z_fil (I 159) (40 * s) 40 (fun _ => 0))), J, RF w))) (fun _ => rfl) ?_
    exact z_evR rfl
  · show z_Ev E (d + 2) z_m248 65 [some (.ref 127), some (.int (nI s)), some (.int 2), some (.int (nI n)), some (.int (nI k))] [] 161 ((z_ur (z_u2 (z_u2 I 157 s 2) 158 s (nI n)) 159 (z_fil (I 159) (40 * s) k (fun _ => 0))), J, RF w) _
    have nx : (True) → z_Ev E (d + 2) z_m248 65 [some (.ref 127), some (.int (nI s)), some (.int 2), some (.int (nI n)), some (.int (nI (k + 1)))] [] 161 ((z_ur (z_u2 (z_u2 I 157 s 2) 158 s (nI n)) 159 (z_fil (I 159) (40 * s) (k + 1) (fun _ => 0))), J, RF w) _ := next
    refine z_evG 3 (y := if (nI k) < 40 then z_go 72 [some (.ref 127), some (.int (nI s)), some (.int 2), some (.int (nI n)), some (.int (nI k))] [] 161 ((z_ur (z_u2 (z_u2 I 157 s 2) 158 s (nI n)) 159 (z_fil (I 159) (40 * s) k (fun _ => 0))), J, RF w) else z_go 91 [some (.ref 127), some (.int (nI s)), some (.int 2), some (.int (nI n)), some (.int (nI k))] [] 161 ((z_ur (z_u2 (z_u2 I 157 s 2) 158 s (nI n)) 159 (z_fil (I 159) (40 * s) k (fun _ => 0))), J, RF w)) (fun _ => rfl) ?_
    refine z_evT ((show _ ↔ k < 40 from z_ltN rfl rfl (by omega) (by omega)).mpr (by omega)) ?_
    refine z_evL ?_
    refine z_evG 9 (y := z_ck (z_in ((40 * (nI s)) + (nI k)) 160) (z_go 85 [some (.ref 127), some (.int (nI s)), some (.int 2), some (.int (nI n)), some (.int (nI k))] [] 161 ((z_u2 (z_ur (z_u2 (z_u2 I 157 s 2) 158 s (nI n)) 159 (z_fil (I 159) (40 * s) k (fun _ => 0))) 159 (((40 * (nI s)) + (nI k)).toNatClampNeg) 0), J, RF w))) (fun _ => rfl) ?_
    refine z_evC (z_inN (k := 40 * s + k) (z_addE (z_mulE rfl rfl) rfl) (by omega) (by decide)) ?_
    refine z_evL ?_
    rw [show (((40 * (nI s)) + (nI k) : Int32)).toNatClampNeg = 40 * s + k from z_natE (z_addE (z_mulE rfl rfl) rfl) (by omega)]
    refine z_evG 2 (y := z_go 65 [some (.ref 127), some (.int (nI s)), some (.int 2), some (.int (nI n)), some (.int ((nI k) + 1))] [] 161 ((z_u2 (z_ur (z_u2 (z_u2 I 157 s 2) 158 s (nI n)) 159 (z_fil (I 159) (40 * s) k (fun _ => 0))) 159 (40 * s + k) 0), J, RF w)) (fun _ => rfl) ?_
    refine z_evL ?_
    rw [nI_1 k, z_fil_sx _ _ _ _ (by rfl)]
    exact nx trivial
set_option maxRecDepth 20000 in
/-- LampHouseModel.sheet -/
theorem m_sheet_neg_0 (E : zE) (d : Nat) (I : Nat → Nat → Int32) (J : Nat → Nat → Int64) (w : Nat) (s : Nat) (n : Int32) (hl_s : s < 4) (hn : n < 0) (hn2 : ¬ 40 < n) : z_cl E (d + 3) 248 [.ref 127, .int (nI s), .int 0, .int n] (161, I, J, RF w) = some (some (.int (-14)), 161, I, J, RF w) := by
  refine z_call (d := d + 2) (M := z_m248) rfl rfl ?_
  refine z_evG 2 (y := z_ret (z_cl E (d + 2) 247 [.int (nI s)] (161, (I, J, RF w))) 4 [some (.ref 127), some (.int (nI s)), some (.int 0), some (.int n), none] []) (fun _ => rfl) ?_
  refine z_evK (v := .int (z_bo (¬ (nI s) < 0 ∧ ¬ 3 < (nI s)))) (z' := 161) (σ' := (I, J, RF w)) (m_isSheet E d I J w (nI s)) ?_
  refine z_evG 1 (y := if (z_bo (¬ (nI s) < 0 ∧ ¬ 3 < (nI s))) = 0 then z_go 26 [some (.ref 127), some (.int (nI s)), some (.int 0), some (.int n), none] [] 161 (I, J, RF w) else z_go 7 [some (.ref 127), some (.int (nI s)), some (.int 0), some (.int n), none] [] 161 (I, J, RF w)) (fun _ => rfl) ?_
  refine z_evF (fun q0 => z_bo_0.mp q0 ⟨(mt (show _ ↔ s < 0 from z_ltN rfl rfl (by omega) (by omega)).mp (by omega)), (mt (show _ ↔ 3 < s from z_ltN rfl rfl (by omega) (by omega)).mp (by omega))⟩) ?_
  refine z_evL ?_
  refine z_evG 4 (y := z_ret (z_cl E (d + 2) 178 [.int 0, .int (-1), .int 2] (161, (I, J, RF w))) 13 [some (.ref 127), some (.int (nI s)), some (.int 0), some (.int n), none] []) (fun _ => rfl) ?_
  refine z_evK (v := .int (z_bo (¬ 0 < (-1) ∧ ¬ 2 < 0))) (z' := 161) (σ' := (I, J, RF w)) (m_in E (d + 1) I J w 0 (-1) 2) ?_
  refine z_evG 1 (y := if (z_bo (¬ 0 < (-1) ∧ ¬ 2 < 0)) = 0 then z_go 26 [some (.ref 127), some (.int (nI s)), some (.int 0), some (.int n), none] [] 161 (I, J, RF w) else z_go 16 [some (.ref 127), some (.int (nI s)), some (.int 0), some (.int n), none] [] 161 (I, J, RF w)) (fun _ => rfl) ?_
  refine z_evF (fun q0 => z_bo_0.mp q0 ⟨(by decide), (by decide)⟩) ?_
  refine z_evL ?_
  refine z_evG 2 (y := if 0 < 0 then z_go 29 [some (.ref 127), some (.int (nI s)), some (.int 0), some (.int n), none] [] 161 (I, J, RF w) else z_go 20 [some (.ref 127), some (.int (nI s)), some (.int 0), some (.int n), none] [] 161 (I, J, RF w)) (fun _ => rfl) ?_
  refine z_evI (fun q => absurd q (by decide)) (fun _ => ?_)
  refine z_evL ?_
  refine z_evG 3 (y := if 40 < n then z_go 26 [some (.ref 127), some (.int (nI s)), some (.int 0), some (.int n), none] [] 161 (I, J, RF w) else z_go 29 [some (.ref 127), some (.int (nI s)), some (.int 0), some (.int n), none] [] 161 (I, J, RF w)) (fun _ => rfl) ?_
  refine z_evF (hn2) ?_
  refine z_evL ?_
  refine z_evG 2 (y := if 0 < 0 then z_go 40 [some (.ref 127), some (.int (nI s)), some (.int 0), some (.int n), none] [] 161 (I, J, RF w) else z_go 33 [some (.ref 127), some (.int (nI s)), some (.int 0), some (.int n), none] [] 161 (I, J, RF w)) (fun _ => rfl) ?_
  refine z_evI (fun q => absurd q (by decide)) (fun _ => ?_)
  refine z_evL ?_
  refine z_evG 2 (y := if n < 0 then z_go 37 [some (.ref 127), some (.int (nI s)), some (.int 0), some (.int n), none] [] 161 (I, J, RF w) else z_go 40 [some (.ref 127), some (.int (nI s)), some (.int 0), some (.int n), none] [] 161 (I, J, RF w)) (fun _ => rfl) ?_
  refine z_evT (hn) ?_
  refine z_evL ?_
  refine z_evG 2 (y := some (.inr (some (.int (-14)), 161, I, J, RF w))) (fun _ => rfl) ?_
  exact z_evR rfl
set_option maxRecDepth 20000 in
/-- LampHouseModel.sheet -/
theorem m_sheet_neg_1 (E : zE) (d : Nat) (I : Nat → Nat → Int32) (J : Nat → Nat → Int64) (w : Nat) (s : Nat) (n : Int32) (hl_s : s < 4) (hn : n < 0) (hn2 : ¬ 40 < n) : z_cl E (d + 3) 248 [.ref 127, .int (nI s), .int 1, .int n] (161, I, J, RF w) = some (some (.int (-14)), 161, I, J, RF w) := by
  refine z_call (d := d + 2) (M := z_m248) rfl rfl ?_
  refine z_evG 2 (y := z_ret (z_cl E (d + 2) 247 [.int (nI s)] (161, (I, J, RF w))) 4 [some (.ref 127), some (.int (nI s)), some (.int 1), some (.int n), none] []) (fun _ => rfl) ?_
  refine z_evK (v := .int (z_bo (¬ (nI s) < 0 ∧ ¬ 3 < (nI s)))) (z' := 161) (σ' := (I, J, RF w)) (m_isSheet E d I J w (nI s)) ?_
  refine z_evG 1 (y := if (z_bo (¬ (nI s) < 0 ∧ ¬ 3 < (nI s))) = 0 then z_go 26 [some (.ref 127), some (.int (nI s)), some (.int 1), some (.int n), none] [] 161 (I, J, RF w) else z_go 7 [some (.ref 127), some (.int (nI s)), some (.int 1), some (.int n), none] [] 161 (I, J, RF w)) (fun _ => rfl) ?_
  refine z_evF (fun q0 => z_bo_0.mp q0 ⟨(mt (show _ ↔ s < 0 from z_ltN rfl rfl (by omega) (by omega)).mp (by omega)), (mt (show _ ↔ 3 < s from z_ltN rfl rfl (by omega) (by omega)).mp (by omega))⟩) ?_
  refine z_evL ?_
  refine z_evG 4 (y := z_ret (z_cl E (d + 2) 178 [.int 1, .int (-1), .int 2] (161, (I, J, RF w))) 13 [some (.ref 127), some (.int (nI s)), some (.int 1), some (.int n), none] []) (fun _ => rfl) ?_
  refine z_evK (v := .int (z_bo (¬ 1 < (-1) ∧ ¬ 2 < 1))) (z' := 161) (σ' := (I, J, RF w)) (m_in E (d + 1) I J w 1 (-1) 2) ?_
  refine z_evG 1 (y := if (z_bo (¬ 1 < (-1) ∧ ¬ 2 < 1)) = 0 then z_go 26 [some (.ref 127), some (.int (nI s)), some (.int 1), some (.int n), none] [] 161 (I, J, RF w) else z_go 16 [some (.ref 127), some (.int (nI s)), some (.int 1), some (.int n), none] [] 161 (I, J, RF w)) (fun _ => rfl) ?_
  refine z_evF (fun q0 => z_bo_0.mp q0 ⟨(by decide), (by decide)⟩) ?_
  refine z_evL ?_
  refine z_evG 2 (y := if 1 < 0 then z_go 29 [some (.ref 127), some (.int (nI s)), some (.int 1), some (.int n), none] [] 161 (I, J, RF w) else z_go 20 [some (.ref 127), some (.int (nI s)), some (.int 1), some (.int n), none] [] 161 (I, J, RF w)) (fun _ => rfl) ?_
  refine z_evI (fun q => absurd q (by decide)) (fun _ => ?_)
  refine z_evL ?_
  refine z_evG 3 (y := if 40 < n then z_go 26 [some (.ref 127), some (.int (nI s)), some (.int 1), some (.int n), none] [] 161 (I, J, RF w) else z_go 29 [some (.ref 127), some (.int (nI s)), some (.int 1), some (.int n), none] [] 161 (I, J, RF w)) (fun _ => rfl) ?_
  refine z_evF (hn2) ?_
  refine z_evL ?_
  refine z_evG 2 (y := if 1 < 0 then z_go 40 [some (.ref 127), some (.int (nI s)), some (.int 1), some (.int n), none] [] 161 (I, J, RF w) else z_go 33 [some (.ref 127), some (.int (nI s)), some (.int 1), some (.int n), none] [] 161 (I, J, RF w)) (fun _ => rfl) ?_
  refine z_evI (fun q => absurd q (by decide)) (fun _ => ?_)
  refine z_evL ?_
  refine z_evG 2 (y := if n < 0 then z_go 37 [some (.ref 127), some (.int (nI s)), some (.int 1), some (.int n), none] [] 161 (I, J, RF w) else z_go 40 [some (.ref 127), some (.int (nI s)), some (.int 1), some (.int n), none] [] 161 (I, J, RF w)) (fun _ => rfl) ?_
  refine z_evT (hn) ?_
  refine z_evL ?_
  refine z_evG 2 (y := some (.inr (some (.int (-14)), 161, I, J, RF w))) (fun _ => rfl) ?_
  exact z_evR rfl
set_option maxRecDepth 20000 in
/-- LampHouseModel.sheet -/
theorem m_sheet_neg_2 (E : zE) (d : Nat) (I : Nat → Nat → Int32) (J : Nat → Nat → Int64) (w : Nat) (s : Nat) (n : Int32) (hl_s : s < 4) (hn : n < 0) (hn2 : ¬ 40 < n) : z_cl E (d + 3) 248 [.ref 127, .int (nI s), .int 2, .int n] (161, I, J, RF w) = some (some (.int (-14)), 161, I, J, RF w) := by
  refine z_call (d := d + 2) (M := z_m248) rfl rfl ?_
  refine z_evG 2 (y := z_ret (z_cl E (d + 2) 247 [.int (nI s)] (161, (I, J, RF w))) 4 [some (.ref 127), some (.int (nI s)), some (.int 2), some (.int n), none] []) (fun _ => rfl) ?_
  refine z_evK (v := .int (z_bo (¬ (nI s) < 0 ∧ ¬ 3 < (nI s)))) (z' := 161) (σ' := (I, J, RF w)) (m_isSheet E d I J w (nI s)) ?_
  refine z_evG 1 (y := if (z_bo (¬ (nI s) < 0 ∧ ¬ 3 < (nI s))) = 0 then z_go 26 [some (.ref 127), some (.int (nI s)), some (.int 2), some (.int n), none] [] 161 (I, J, RF w) else z_go 7 [some (.ref 127), some (.int (nI s)), some (.int 2), some (.int n), none] [] 161 (I, J, RF w)) (fun _ => rfl) ?_
  refine z_evF (fun q0 => z_bo_0.mp q0 ⟨(mt (show _ ↔ s < 0 from z_ltN rfl rfl (by omega) (by omega)).mp (by omega)), (mt (show _ ↔ 3 < s from z_ltN rfl rfl (by omega) (by omega)).mp (by omega))⟩) ?_
  refine z_evL ?_
  refine z_evG 4 (y := z_ret (z_cl E (d + 2) 178 [.int 2, .int (-1), .int 2] (161, (I, J, RF w))) 13 [some (.ref 127), some (.int (nI s)), some (.int 2), some (.int n), none] []) (fun _ => rfl) ?_
  refine z_evK (v := .int (z_bo (¬ 2 < (-1) ∧ ¬ 2 < 2))) (z' := 161) (σ' := (I, J, RF w)) (m_in E (d + 1) I J w 2 (-1) 2) ?_
  refine z_evG 1 (y := if (z_bo (¬ 2 < (-1) ∧ ¬ 2 < 2)) = 0 then z_go 26 [some (.ref 127), some (.int (nI s)), some (.int 2), some (.int n), none] [] 161 (I, J, RF w) else z_go 16 [some (.ref 127), some (.int (nI s)), some (.int 2), some (.int n), none] [] 161 (I, J, RF w)) (fun _ => rfl) ?_
  refine z_evF (fun q0 => z_bo_0.mp q0 ⟨(by decide), (by decide)⟩) ?_
  refine z_evL ?_
  refine z_evG 2 (y := if 2 < 0 then z_go 29 [some (.ref 127), some (.int (nI s)), some (.int 2), some (.int n), none] [] 161 (I, J, RF w) else z_go 20 [some (.ref 127), some (.int (nI s)), some (.int 2), some (.int n), none] [] 161 (I, J, RF w)) (fun _ => rfl) ?_
  refine z_evI (fun q => absurd q (by decide)) (fun _ => ?_)
  refine z_evL ?_
  refine z_evG 3 (y := if 40 < n then z_go 26 [some (.ref 127), some (.int (nI s)), some (.int 2), some (.int n), none] [] 161 (I, J, RF w) else z_go 29 [some (.ref 127), some (.int (nI s)), some (.int 2), some (.int n), none] [] 161 (I, J, RF w)) (fun _ => rfl) ?_
  refine z_evF (hn2) ?_
  refine z_evL ?_
  refine z_evG 2 (y := if 2 < 0 then z_go 40 [some (.ref 127), some (.int (nI s)), some (.int 2), some (.int n), none] [] 161 (I, J, RF w) else z_go 33 [some (.ref 127), some (.int (nI s)), some (.int 2), some (.int n), none] [] 161 (I, J, RF w)) (fun _ => rfl) ?_
  refine z_evI (fun q => absurd q (by decide)) (fun _ => ?_)
  refine z_evL ?_
  refine z_evG 2 (y := if n < 0 then z_go 37 [some (.ref 127), some (.int (nI s)), some (.int 2), some (.int n), none] [] 161 (I, J, RF w) else z_go 40 [some (.ref 127), some (.int (nI s)), some (.int 2), some (.int n), none] [] 161 (I, J, RF w)) (fun _ => rfl) ?_
  refine z_evT (hn) ?_
  refine z_evL ?_
  refine z_evG 2 (y := some (.inr (some (.int (-14)), 161, I, J, RF w))) (fun _ => rfl) ?_
  exact z_evR rfl
