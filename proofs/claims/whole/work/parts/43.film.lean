-- LAY by the reference; FILM
theorem z_225 {i s : Nat} (hi : i < 16) (hs : s < 16) : i * s ≤ 225 := Nat.mul_le_mul (by omega : i ≤ 15) (by omega : s ≤ 15)
def z_on (S : Int32) (a w : Nat) : Int32 := z_fo (fun i s => s + ((S >>> (nI ((a + i) % 16) &&& 31)) &&& 1)) 0 w
set_option maxRecDepth 20000 in
/-- LampHouseModel.lay -/
theorem m_lay (E : zE) (d : Nat) (I : Nat → Nat → Int32) (J : Nat → Nat → Int64) (w : Nat) (f g : Nat) (hf : f < 24) (hg : g < 24) (hfg : f ≠ g) : z_cl E (d + 1) 190 [.ref 127, .int (nI f), .int (nI g)] (161, I, J, RF w) = some (none, 161, (z_ur I 134 (z_fil (I 134) (8 * g) 8 (fun c => I 134 (8 * f + c)))), J, RF w) := by
  refine z_call (d := d + 0) (M := z_m190) rfl rfl ?_
  refine z_evG 2 (y := z_go 2 [some (.ref 127), some (.int (nI f)), some (.int (nI g)), some (.int 0)] [] 161 (I, J, RF w)) (fun _ => rfl) ?_
  refine z_evL ?_
  have st0 : ∀ m0, m0 = 0 → ∀ q, z_Ev E d z_m190 2 [some (.ref 127), some (.int (nI f)), some (.int (nI g)), some (.int (nI m0))] [] 161 ((z_ur I 134 (z_fil (I 134) (8 * g) m0 (fun c => I 134 (8 * f + c)))), J, RF w) q → z_Ev E d z_m190 2 [some (.ref 127), some (.int (nI f)), some (.int (nI g)), some (.int 0)] [] 161 (I, J, RF w) q := by intro m0 hm0 q h; rw [hm0, z_fil_0] at h; subst hm0; exact h
  refine st0 0 rfl _ ?_
  refine z_loop (F := fun k => ([some (.ref 127), some (.int (nI f)), some (.int (nI g)), some (.int (nI k))], ((z_ur I 134 (z_fil (I 134) (8 * g) k (fun c => I 134 (8 * f + c)))), J, RF w))) (P := fun k => True) 8 trivial (fun hP => ?_) (fun k hk hP next => ?_)
  · show z_Ev E d z_m190 2 [some (.ref 127), some (.int (nI f)), some (.int (nI g)), some (.int (nI 8))] [] 161 ((z_ur I 134 (z_fil (I 134) (8 * g) 8 (fun c => I 134 (8 * f + c)))), J, RF w) _
    refine z_evG 3 (y := if (nI 8) < 8 then z_go 8 [some (.ref 127), some (.int (nI f)), some (.int (nI g)), some (.int (nI 8))] [] 161 ((z_ur I 134 (z_fil (I 134) (8 * g) 8 (fun c => I 134 (8 * f + c)))), J, RF w) else z_go 36 [some (.ref 127), some (.int (nI f)), some (.int (nI g)), some (.int (nI 8))] [] 161 ((z_ur I 134 (z_fil (I 134) (8 * g) 8 (fun c => I 134 (8 * f + c)))), J, RF w)) (fun _ => rfl) ?_
    refine z_evF (mt (show _ ↔ 8 < 8 from z_ltN rfl rfl (by omega) (by omega)).mp (by omega)) ?_
    refine z_evL ?_
    refine z_evG 1 (y := some (.inr (none, 161, (z_ur I 134 (z_fil (I 134) (8 * g) 8 (fun c => I 134 (8 * f + c)))), J, RF w))) (fun _ => rfl) ?_
    exact z_evR rfl
  · show z_Ev E d z_m190 2 [some (.ref 127), some (.int (nI f)), some (.int (nI g)), some (.int (nI k))] [] 161 ((z_ur I 134 (z_fil (I 134) (8 * g) k (fun c => I 134 (8 * f + c)))), J, RF w) _
    have nx : (True) → z_Ev E d z_m190 2 [some (.ref 127), some (.int (nI f)), some (.int (nI g)), some (.int (nI (k + 1)))] [] 161 ((z_ur I 134 (z_fil (I 134) (8 * g) (k + 1) (fun c => I 134 (8 * f + c)))), J, RF w) _ := next
    refine z_evG 3 (y := if (nI k) < 8 then z_go 8 [some (.ref 127), some (.int (nI f)), some (.int (nI g)), some (.int (nI k))] [] 161 ((z_ur I 134 (z_fil (I 134) (8 * g) k (fun c => I 134 (8 * f + c)))), J, RF w) else z_go 36 [some (.ref 127), some (.int (nI f)), some (.int (nI g)), some (.int (nI k))] [] 161 ((z_ur I 134 (z_fil (I 134) (8 * g) k (fun c => I 134 (8 * f + c)))), J, RF w)) (fun _ => rfl) ?_
    refine z_evT ((show _ ↔ k < 8 from z_ltN rfl rfl (by omega) (by omega)).mpr (by omega)) ?_
    refine z_evL ?_
    refine z_evG 15 (y := z_ild (z_ia E 161 ((z_ur I 134 (z_fil (I 134) (8 * g) k (fun c => I 134 (8 * f + c)))), J, RF w) 134) ((8 * (nI f)) + (nI k)) fun vv => z_go 29 [some (.ref 127), some (.int (nI f)), some (.int (nI g)), some (.int (nI k))] [.int vv, .int ((8 * (nI g)) + (nI k)), .ref 134] 161 ((z_ur I 134 (z_fil (I 134) (8 * g) k (fun c => I 134 (8 * f + c)))), J, RF w)) (fun _ => rfl) ?_
    refine z_evBn (N := 192) (f := ((z_ur I 134 (z_fil (I 134) (8 * g) k (fun c => I 134 (8 * f + c)))) 134)) (k := (8 * f + k)) rfl (z_addE (z_mulE rfl rfl) rfl) (by omega) ?_
    refine z_evL ?_
    rw [show (z_ur I 134 (z_fil (I 134) (8 * g) k (fun c => I 134 (8 * f + c)))) 134 (8 * f + k) = I 134 (8 * f + k) from ((congrFun (z_ur_same _ _ _) _).trans (z_fil_ge (by omega)))]
    refine z_evG 1 (y := z_ck (z_in ((8 * (nI g)) + (nI k)) 192) (z_go 30 [some (.ref 127), some (.int (nI f)), some (.int (nI g)), some (.int (nI k))] [] 161 ((z_u2 (z_ur I 134 (z_fil (I 134) (8 * g) k (fun c => I 134 (8 * f + c)))) 134 (((8 * (nI g)) + (nI k)).toNatClampNeg) (I 134 (8 * f + k))), J, RF w))) (fun _ => rfl) ?_
    refine z_evC (z_inN (k := 8 * g + k) (z_addE (z_mulE rfl rfl) rfl) (by omega) (by decide)) ?_
    refine z_evL ?_
    rw [show (((8 * (nI g)) + (nI k) : Int32)).toNatClampNeg = 8 * g + k from z_natE (z_addE (z_mulE rfl rfl) rfl) (by omega)]
    refine z_evG 2 (y := z_go 2 [some (.ref 127), some (.int (nI f)), some (.int (nI g)), some (.int ((nI k) + 1))] [] 161 ((z_u2 (z_ur I 134 (z_fil (I 134) (8 * g) k (fun c => I 134 (8 * f + c)))) 134 (8 * g + k) (I 134 (8 * f + k))), J, RF w)) (fun _ => rfl) ?_
    refine z_evL ?_
    rw [nI_1 k, z_fil_s I 134 (8 * g) k (fun c => I 134 (8 * f + c))]
    exact nx trivial
set_option maxRecDepth 20000 in
/-- LampHouse$Things.stepsOn -/
theorem x_stepsOn (E : zE) (d : Nat) (I : Nat → Nat → Int32) (J : Nat → Nat → Int64) (w : Nat) (t a b : Nat) (ht : t < 20) (ha : a ≤ 225) (hw : b ≤ 16) : z_cl E (d + 1) 125 [.ref 37, .int (nI t), .int (nI a), .int (nI b)] (161, I, J, RF w) = some (some (.int (z_on (I 42 t) a b)), 161, I, J, RF w) := by
  refine z_call (d := d + 0) (M := z_m125) rfl rfl ?_
  refine z_evG 4 (y := z_go 6 [some (.ref 37), some (.int (nI t)), some (.int (nI a)), some (.int (nI b)), some (.int 0), some (.int 0)] [] 161 (I, J, RF w)) (fun _ => rfl) ?_
  refine z_evL ?_
  refine z_loop (F := fun k => ([some (.ref 37), some (.int (nI t)), some (.int (nI a)), some (.int (nI b)), some (.int (z_on (I 42 t) a k)), some (.int (nI k))], (I, J, RF w))) (P := fun k => True) b trivial (fun hP => ?_) (fun k hk hP next => ?_)
  · show z_Ev E d z_m125 6 [some (.ref 37), some (.int (nI t)), some (.int (nI a)), some (.int (nI b)), some (.int (z_on (I 42 t) a b)), some (.int (nI b))] [] 161 (I, J, RF w) _
    refine z_evG 3 (y := if (nI b) < (nI b) then z_go 12 [some (.ref 37), some (.int (nI t)), some (.int (nI a)), some (.int (nI b)), some (.int (z_on (I 42 t) a b)), some (.int (nI b))] [] 161 (I, J, RF w) else z_go 39 [some (.ref 37), some (.int (nI t)), some (.int (nI a)), some (.int (nI b)), some (.int (z_on (I 42 t) a b)), some (.int (nI b))] [] 161 (I, J, RF w)) (fun _ => rfl) ?_
    refine z_evF (mt (show _ ↔ b < b from z_ltN rfl rfl (by omega) (by omega)).mp (by omega)) ?_
    refine z_evL ?_
    refine z_evG 2 (y := some (.inr (some (.int (z_on (I 42 t) a b)), 161, I, J, RF w))) (fun _ => rfl) ?_
    exact z_evR rfl
  · show z_Ev E d z_m125 6 [some (.ref 37), some (.int (nI t)), some (.int (nI a)), some (.int (nI b)), some (.int (z_on (I 42 t) a k)), some (.int (nI k))] [] 161 (I, J, RF w) _
    have nx : (True) → z_Ev E d z_m125 6 [some (.ref 37), some (.int (nI t)), some (.int (nI a)), some (.int (nI b)), some (.int (z_on (I 42 t) a (k + 1))), some (.int (nI (k + 1)))] [] 161 (I, J, RF w) _ := next
    refine z_evG 3 (y := if (nI k) < (nI b) then z_go 12 [some (.ref 37), some (.int (nI t)), some (.int (nI a)), some (.int (nI b)), some (.int (z_on (I 42 t) a k)), some (.int (nI k))] [] 161 (I, J, RF w) else z_go 39 [some (.ref 37), some (.int (nI t)), some (.int (nI a)), some (.int (nI b)), some (.int (z_on (I 42 t) a k)), some (.int (nI k))] [] 161 (I, J, RF w)) (fun _ => rfl) ?_
    refine z_evT ((show _ ↔ k < b from z_ltN rfl rfl (by omega) (by omega)).mpr (by omega)) ?_
    refine z_evL ?_
    refine z_evG 5 (y := z_ild (z_ia E 161 (I, J, RF w) 42) (nI t) fun vv => z_go 20 [some (.ref 37), some (.int (nI t)), some (.int (nI a)), some (.int (nI b)), some (.int (z_on (I 42 t) a k)), some (.int (nI k))] [.int vv, .int (z_on (I 42 t) a k)] 161 (I, J, RF w)) (fun _ => rfl) ?_
    refine z_evBn (N := 20) (f := (I 42)) (k := t) rfl rfl (by omega) ?_
    refine z_evL ?_
    refine z_evG 5 (y := z_ck (!decide ((16 : Int32) = 0)) (z_go 27 [some (.ref 37), some (.int (nI t)), some (.int (nI a)), some (.int (nI b)), some (.int (z_on (I 42 t) a k)), some (.int (nI k))] [.int (((nI a) + (nI k)) - ((nI a) + (nI k)) / 16 * 16), .int (I 42 t), .int (z_on (I 42 t) a k)] 161 (I, J, RF w))) (fun _ => rfl) ?_
    refine z_evC (by decide) ?_
    refine z_evL ?_
    refine z_evG 7 (y := z_go 6 [some (.ref 37), some (.int (nI t)), some (.int (nI a)), some (.int (nI b)), some (.int ((z_on (I 42 t) a k) + (((I 42 t) >>> ((((nI a) + (nI k)) - ((nI a) + (nI k)) / 16 * 16) &&& 31)) &&& 1))), some (.int ((nI k) + 1))] [] 161 (I, J, RF w)) (fun _ => rfl) ?_
    refine z_evL ?_
    rw [show (nI a + nI k) - (nI a + nI k) / 16 * 16 = nI ((a + k) % 16) from z_remE (m := 16) (z_addE rfl rfl) (by omega) (by decide) (by decide), nI_1 k]
    exact nx trivial
set_option maxRecDepth 20000 in
/-- LampHouseModel.takes -/
theorem m_takes (E : zE) (d : Nat) (I : Nat → Nat → Int32) (J : Nat → Nat → Int64) (w : Nat) (t s b i : Nat) (ht : t < 20) (ha : i * s ≤ 225) (hw : b ≤ 16) : z_cl E (d + 1) 237 [.ref 127, .int (nI t), .int (nI s), .int (nI b), .int (nI i)] (161, I, J, RF w) = some (some (.int (z_on (I 133 t) (i * s) b)), 161, I, J, RF w) := by
  refine z_call (d := d + 0) (M := z_m237) rfl rfl ?_
  refine z_evG 4 (y := z_go 6 [some (.ref 127), some (.int (nI t)), some (.int (nI s)), some (.int (nI b)), some (.int (nI i)), some (.int 0), some (.int 0)] [] 161 (I, J, RF w)) (fun _ => rfl) ?_
  refine z_evL ?_
  refine z_loop (F := fun k => ([some (.ref 127), some (.int (nI t)), some (.int (nI s)), some (.int (nI b)), some (.int (nI i)), some (.int (z_on (I 133 t) (i * s) k)), some (.int (nI k))], (I, J, RF w))) (P := fun k => True) b trivial (fun hP => ?_) (fun k hk hP next => ?_)
  · show z_Ev E d z_m237 6 [some (.ref 127), some (.int (nI t)), some (.int (nI s)), some (.int (nI b)), some (.int (nI i)), some (.int (z_on (I 133 t) (i * s) b)), some (.int (nI b))] [] 161 (I, J, RF w) _
    refine z_evG 3 (y := if (nI b) < (nI b) then z_go 12 [some (.ref 127), some (.int (nI t)), some (.int (nI s)), some (.int (nI b)), some (.int (nI i)), some (.int (z_on (I 133 t) (i * s) b)), some (.int (nI b))] [] 161 (I, J, RF w) else z_go 42 [some (.ref 127), some (.int (nI t)), some (.int (nI s)), some (.int (nI b)), some (.int (nI i)), some (.int (z_on (I 133 t) (i * s) b)), some (.int (nI b))] [] 161 (I, J, RF w)) (fun _ => rfl) ?_
    refine z_evF (mt (show _ ↔ b < b from z_ltN rfl rfl (by omega) (by omega)).mp (by omega)) ?_
    refine z_evL ?_
    refine z_evG 2 (y := some (.inr (some (.int (z_on (I 133 t) (i * s) b)), 161, I, J, RF w))) (fun _ => rfl) ?_
    exact z_evR rfl
  · show z_Ev E d z_m237 6 [some (.ref 127), some (.int (nI t)), some (.int (nI s)), some (.int (nI b)), some (.int (nI i)), some (.int (z_on (I 133 t) (i * s) k)), some (.int (nI k))] [] 161 (I, J, RF w) _
    have nx : (True) → z_Ev E d z_m237 6 [some (.ref 127), some (.int (nI t)), some (.int (nI s)), some (.int (nI b)), some (.int (nI i)), some (.int (z_on (I 133 t) (i * s) (k + 1))), some (.int (nI (k + 1)))] [] 161 (I, J, RF w) _ := next
    refine z_evG 3 (y := if (nI k) < (nI b) then z_go 12 [some (.ref 127), some (.int (nI t)), some (.int (nI s)), some (.int (nI b)), some (.int (nI i)), some (.int (z_on (I 133 t) (i * s) k)), some (.int (nI k))] [] 161 (I, J, RF w) else z_go 42 [some (.ref 127), some (.int (nI t)), some (.int (nI s)), some (.int (nI b)), some (.int (nI i)), some (.int (z_on (I 133 t) (i * s) k)), some (.int (nI k))] [] 161 (I, J, RF w)) (fun _ => rfl) ?_
    refine z_evT ((show _ ↔ k < b from z_ltN rfl rfl (by omega) (by omega)).mpr (by omega)) ?_
    refine z_evL ?_
    refine z_evG 5 (y := z_ild (z_ia E 161 (I, J, RF w) 133) (nI t) fun vv => z_go 20 [some (.ref 127), some (.int (nI t)), some (.int (nI s)), some (.int (nI b)), some (.int (nI i)), some (.int (z_on (I 133 t) (i * s) k)), some (.int (nI k))] [.int vv, .int (z_on (I 133 t) (i * s) k)] 161 (I, J, RF w)) (fun _ => rfl) ?_
    refine z_evBn (N := 20) (f := (I 133)) (k := t) rfl rfl (by omega) ?_
    refine z_evL ?_
    refine z_evG 7 (y := z_ck (!decide ((16 : Int32) = 0)) (z_go 30 [some (.ref 127), some (.int (nI t)), some (.int (nI s)), some (.int (nI b)), some (.int (nI i)), some (.int (z_on (I 133 t) (i * s) k)), some (.int (nI k))] [.int ((((nI i) * (nI s)) + (nI k)) - (((nI i) * (nI s)) + (nI k)) / 16 * 16), .int (I 133 t), .int (z_on (I 133 t) (i * s) k)] 161 (I, J, RF w))) (fun _ => rfl) ?_
    refine z_evC (by decide) ?_
    refine z_evL ?_
    refine z_evG 7 (y := z_go 6 [some (.ref 127), some (.int (nI t)), some (.int (nI s)), some (.int (nI b)), some (.int (nI i)), some (.int ((z_on (I 133 t) (i * s) k) + (((I 133 t) >>> (((((nI i) * (nI s)) + (nI k)) - (((nI i) * (nI s)) + (nI k)) / 16 * 16) &&& 31)) &&& 1))), some (.int ((nI k) + 1))] [] 161 (I, J, RF w)) (fun _ => rfl) ?_
    refine z_evL ?_
    rw [show (nI i * nI s + nI k) - (nI i * nI s + nI k) / 16 * 16 = nI ((i * s + k) % 16) from z_remE (m := 16) (z_addE (z_mulE rfl rfl) rfl) (by omega) (by decide) (by decide), nI_1 k]
    exact nx trivial
set_option maxRecDepth 20000 in
/-- LampHouse.film -/
theorem x_film_bad (E : zE) (d : Nat) (I : Nat → Nat → Int32) (J : Nat → Nat → Int64) (w : Nat) (t s b i : Int32) (hbad : ¬ ((¬ t < 0 ∧ t < I 37 7) ∧ (¬ (1 : Int32) < 1 ∧ ¬ (16 : Int32) < 1 ∧ ¬ s < 0 ∧ s < 16 ∧ ¬ b < 1 ∧ ¬ 16 < b) ∧ (¬ i < 0) ∧ (i < 16))) : z_cl E (d + 2) 155 [.ref 0, .int t, .int s, .int b, .int i] (161, I, J, RF w) = some (some (.int (-2)), 161, I, J, RF w) := by
  refine z_call (d := d + 1) (M := z_m155) rfl rfl ?_
  refine z_evG 4 (y := z_ret (z_cl E (d + 1) 108 [.ref 37, .int t] (161, (I, J, RF w))) 8 [some (.ref 0), some (.int t), some (.int s), some (.int b), some (.int i)] []) (fun _ => rfl) ?_
  refine z_evK (v := .int (z_bo (¬ t < 0 ∧ t < I 37 7))) (z' := 161) (σ' := (I, J, RF w)) (x_things_has E d I J w t) ?_
  refine z_evG 1 (y := if (z_bo (¬ t < 0 ∧ t < I 37 7)) = 0 then z_go 32 [some (.ref 0), some (.int t), some (.int s), some (.int b), some (.int i)] [] 161 (I, J, RF w) else z_go 11 [some (.ref 0), some (.int t), some (.int s), some (.int b), some (.int i)] [] 161 (I, J, RF w)) (fun _ => rfl) ?_
  refine z_evO (fun h1 => ?_) (fun h1 => ?_)
  · refine z_evL ?_
    refine z_evG 2 (y := some (.inr (some (.int (-2)), 161, I, J, RF w))) (fun _ => rfl) ?_
    exact z_evR rfl
  · refine z_evL ?_
    refine z_evG 4 (y := z_ret (z_cl E (d + 1) 174 [.int 1, .int s, .int b] (161, (I, J, RF w))) 17 [some (.ref 0), some (.int t), some (.int s), some (.int b), some (.int i)] []) (fun _ => rfl) ?_
    refine z_evK (v := .int (z_bo (¬ 1 < 1 ∧ ¬ 16 < 1 ∧ ¬ s < 0 ∧ s < 16 ∧ ¬ b < 1 ∧ ¬ 16 < b))) (z' := 161) (σ' := (I, J, RF w)) (x_isFilm E d I J w 1 s b) ?_
    refine z_evG 1 (y := if (z_bo (¬ 1 < 1 ∧ ¬ 16 < 1 ∧ ¬ s < 0 ∧ s < 16 ∧ ¬ b < 1 ∧ ¬ 16 < b)) = 0 then z_go 32 [some (.ref 0), some (.int t), some (.int s), some (.int b), some (.int i)] [] 161 (I, J, RF w) else z_go 20 [some (.ref 0), some (.int t), some (.int s), some (.int b), some (.int i)] [] 161 (I, J, RF w)) (fun _ => rfl) ?_
    refine z_evO (fun h2 => ?_) (fun h2 => ?_)
    · refine z_evL ?_
      refine z_evG 2 (y := some (.inr (some (.int (-2)), 161, I, J, RF w))) (fun _ => rfl) ?_
      exact z_evR rfl
    · refine z_evL ?_
      refine z_evG 2 (y := if i < 0 then z_go 32 [some (.ref 0), some (.int t), some (.int s), some (.int b), some (.int i)] [] 161 (I, J, RF w) else z_go 25 [some (.ref 0), some (.int t), some (.int s), some (.int b), some (.int i)] [] 161 (I, J, RF w)) (fun _ => rfl) ?_
      refine z_evI (fun h3 => ?_) (fun h3 => ?_)
      · refine z_evL ?_
        refine z_evG 2 (y := some (.inr (some (.int (-2)), 161, I, J, RF w))) (fun _ => rfl) ?_
        exact z_evR rfl
      · refine z_evL ?_
        refine z_evG 3 (y := if i < 16 then z_go 35 [some (.ref 0), some (.int t), some (.int s), some (.int b), some (.int i)] [] 161 (I, J, RF w) else z_go 32 [some (.ref 0), some (.int t), some (.int s), some (.int b), some (.int i)] [] 161 (I, J, RF w)) (fun _ => rfl) ?_
        refine z_evI (fun h4 => ?_) (fun h4 => ?_)
        · refine z_evL ?_
          exact absurd ⟨h1, h2, h3, h4⟩ hbad
        · refine z_evL ?_
          refine z_evG 2 (y := some (.inr (some (.int (-2)), 161, I, J, RF w))) (fun _ => rfl) ?_
          exact z_evR rfl
set_option maxRecDepth 20000 in
/-- LampHouseModel.film -/
theorem m_film_bad (E : zE) (d : Nat) (I : Nat → Nat → Int32) (J : Nat → Nat → Int64) (w : Nat) (t s b i : Int32) (hbad : ¬ ((¬ t < 0 ∧ ¬ I 127 3 - 1 < t) ∧ ((¬ (1 : Int32) < 1 ∧ ¬ (16 : Int32) < 1) ∧ (¬ s < 0 ∧ ¬ 15 < s) ∧ (¬ b < 1 ∧ ¬ 16 < b)) ∧ (¬ i < 0 ∧ ¬ 15 < i))) : z_cl E (d + 3) 239 [.ref 127, .int t, .int s, .int b, .int i] (161, I, J, RF w) = some (some (.int (-2)), 161, I, J, RF w) := by
  refine z_call (d := d + 2) (M := z_m239) rfl rfl ?_
  refine z_evG 3 (y := z_ret (z_cl E (d + 2) 183 [.ref 127, .int t] (161, (I, J, RF w))) 5 [some (.ref 127), some (.int t), some (.int s), some (.int b), some (.int i)] []) (fun _ => rfl) ?_
  refine z_evK (v := .int (z_bo (¬ t < 0 ∧ ¬ I 127 3 - 1 < t))) (z' := 161) (σ' := (I, J, RF w)) (m_isThing E d I J w t) ?_
  refine z_evG 1 (y := if (z_bo (¬ t < 0 ∧ ¬ I 127 3 - 1 < t)) = 0 then z_go 40 [some (.ref 127), some (.int t), some (.int s), some (.int b), some (.int i)] [] 161 (I, J, RF w) else z_go 8 [some (.ref 127), some (.int t), some (.int s), some (.int b), some (.int i)] [] 161 (I, J, RF w)) (fun _ => rfl) ?_
  refine z_evO (fun h1 => ?_) (fun h1 => ?_)
  · refine z_evL ?_
    refine z_evG 2 (y := some (.inr (some (.int (-2)), 161, I, J, RF w))) (fun _ => rfl) ?_
    exact z_evR rfl
  · refine z_evL ?_
    refine z_evG 4 (y := z_ret (z_cl E (d + 2) 238 [.int 1, .int s, .int b] (161, (I, J, RF w))) 14 [some (.ref 127), some (.int t), some (.int s), some (.int b), some (.int i)] []) (fun _ => rfl) ?_
    refine z_evK (v := .int (z_bo ((¬ 1 < 1 ∧ ¬ 16 < 1) ∧ (¬ s < 0 ∧ ¬ 15 < s) ∧ (¬ b < 1 ∧ ¬ 16 < b)))) (z' := 161) (σ' := (I, J, RF w)) (m_isFilm E d I J w 1 s b) ?_
    refine z_evG 1 (y := if (z_bo ((¬ 1 < 1 ∧ ¬ 16 < 1) ∧ (¬ s < 0 ∧ ¬ 15 < s) ∧ (¬ b < 1 ∧ ¬ 16 < b))) = 0 then z_go 40 [some (.ref 127), some (.int t), some (.int s), some (.int b), some (.int i)] [] 161 (I, J, RF w) else z_go 17 [some (.ref 127), some (.int t), some (.int s), some (.int b), some (.int i)] [] 161 (I, J, RF w)) (fun _ => rfl) ?_
    refine z_evO (fun h2 => ?_) (fun h2 => ?_)
    · refine z_evL ?_
      refine z_evG 2 (y := some (.inr (some (.int (-2)), 161, I, J, RF w))) (fun _ => rfl) ?_
      exact z_evR rfl
    · refine z_evL ?_
      refine z_evG 4 (y := z_ret (z_cl E (d + 2) 178 [.int i, .int 0, .int 15] (161, (I, J, RF w))) 25 [some (.ref 127), some (.int t), some (.int s), some (.int b), some (.int i)] []) (fun _ => rfl) ?_
      refine z_evK (v := .int (z_bo (¬ i < 0 ∧ ¬ 15 < i))) (z' := 161) (σ' := (I, J, RF w)) (m_in E (d + 1) I J w i 0 15) ?_
      refine z_evG 1 (y := if (z_bo (¬ i < 0 ∧ ¬ 15 < i)) = 0 then z_go 40 [some (.ref 127), some (.int t), some (.int s), some (.int b), some (.int i)] [] 161 (I, J, RF w) else z_go 28 [some (.ref 127), some (.int t), some (.int s), some (.int b), some (.int i)] [] 161 (I, J, RF w)) (fun _ => rfl) ?_
      refine z_evO (fun h3 => ?_) (fun h3 => ?_)
      · refine z_evL ?_
        refine z_evG 2 (y := some (.inr (some (.int (-2)), 161, I, J, RF w))) (fun _ => rfl) ?_
        exact z_evR rfl
      · refine z_evL ?_
        exact absurd ⟨h1, h2, h3⟩ hbad
set_option maxRecDepth 20000 in
/-- LampHouse.film -/
theorem x_film_ok (E : zE) (d : Nat) (I : Nat → Nat → Int32) (J : Nat → Nat → Int64) (w : Nat) (t s b i n : Nat) (h_n : I 37 7 = nI n) (hm_n : n ≤ 20) (hl_t : t < n) (hl_s : s < 16) (hl_b : b < 17) (hb1 : 1 ≤ b) (hl_i : i < 16) : z_cl E (d + 2) 155 [.ref 0, .int (nI t), .int (nI s), .int (nI b), .int (nI i)] (161, I, J, RF w) = some (some (.int (z_on (I 42 t) (i * s) b)), 161, I, J, RF w) := by
  refine z_call (d := d + 1) (M := z_m155) rfl rfl ?_
  refine z_evG 4 (y := z_ret (z_cl E (d + 1) 108 [.ref 37, .int (nI t)] (161, (I, J, RF w))) 8 [some (.ref 0), some (.int (nI t)), some (.int (nI s)), some (.int (nI b)), some (.int (nI i))] []) (fun _ => rfl) ?_
  refine z_evK (v := .int (z_bo (¬ (nI t) < 0 ∧ (nI t) < I 37 7))) (z' := 161) (σ' := (I, J, RF w)) (x_things_has E d I J w (nI t)) ?_
  refine z_evG 1 (y := if (z_bo (¬ (nI t) < 0 ∧ (nI t) < I 37 7)) = 0 then z_go 32 [some (.ref 0), some (.int (nI t)), some (.int (nI s)), some (.int (nI b)), some (.int (nI i))] [] 161 (I, J, RF w) else z_go 11 [some (.ref 0), some (.int (nI t)), some (.int (nI s)), some (.int (nI b)), some (.int (nI i))] [] 161 (I, J, RF w)) (fun _ => rfl) ?_
  refine z_evF (fun q0 => z_bo_0.mp q0 ⟨(mt (show _ ↔ t < 0 from z_ltN rfl rfl (by omega) (by omega)).mp (by omega)), ((show _ ↔ t < n from z_ltN rfl h_n (by omega) (by omega)).mpr (by omega))⟩) ?_
  refine z_evL ?_
  refine z_evG 4 (y := z_ret (z_cl E (d + 1) 174 [.int 1, .int (nI s), .int (nI b)] (161, (I, J, RF w))) 17 [some (.ref 0), some (.int (nI t)), some (.int (nI s)), some (.int (nI b)), some (.int (nI i))] []) (fun _ => rfl) ?_
  refine z_evK (v := .int (z_bo (¬ 1 < 1 ∧ ¬ 16 < 1 ∧ ¬ (nI s) < 0 ∧ (nI s) < 16 ∧ ¬ (nI b) < 1 ∧ ¬ 16 < (nI b)))) (z' := 161) (σ' := (I, J, RF w)) (x_isFilm E d I J w 1 (nI s) (nI b)) ?_
  refine z_evG 1 (y := if (z_bo (¬ 1 < 1 ∧ ¬ 16 < 1 ∧ ¬ (nI s) < 0 ∧ (nI s) < 16 ∧ ¬ (nI b) < 1 ∧ ¬ 16 < (nI b))) = 0 then z_go 32 [some (.ref 0), some (.int (nI t)), some (.int (nI s)), some (.int (nI b)), some (.int (nI i))] [] 161 (I, J, RF w) else z_go 20 [some (.ref 0), some (.int (nI t)), some (.int (nI s)), some (.int (nI b)), some (.int (nI i))] [] 161 (I, J, RF w)) (fun _ => rfl) ?_
  refine z_evF (fun q0 => z_bo_0.mp q0 ⟨(mt (show _ ↔ 1 < 1 from z_ltN rfl rfl (by omega) (by omega)).mp (by omega)), (mt (show _ ↔ 16 < 1 from z_ltN rfl rfl (by omega) (by omega)).mp (by omega)), (mt (show _ ↔ s < 0 from z_ltN rfl rfl (by omega) (by omega)).mp (by omega)), ((show _ ↔ s < 16 from z_ltN rfl rfl (by omega) (by omega)).mpr (by omega)), (mt (show _ ↔ b < 1 from z_ltN rfl rfl (by omega) (by omega)).mp (by omega)), (mt (show _ ↔ 16 < b from z_ltN rfl rfl (by omega) (by omega)).mp (by omega))⟩) ?_
  refine z_evL ?_
  refine z_evG 2 (y := if (nI i) < 0 then z_go 32 [some (.ref 0), some (.int (nI t)), some (.int (nI s)), some (.int (nI b)), some (.int (nI i))] [] 161 (I, J, RF w) else z_go 25 [some (.ref 0), some (.int (nI t)), some (.int (nI s)), some (.int (nI b)), some (.int (nI i))] [] 161 (I, J, RF w)) (fun _ => rfl) ?_
  refine z_evF ((mt (show _ ↔ i < 0 from z_ltN rfl rfl (by omega) (by omega)).mp (by omega))) ?_
  refine z_evL ?_
  refine z_evG 3 (y := if (nI i) < 16 then z_go 35 [some (.ref 0), some (.int (nI t)), some (.int (nI s)), some (.int (nI b)), some (.int (nI i))] [] 161 (I, J, RF w) else z_go 32 [some (.ref 0), some (.int (nI t)), some (.int (nI s)), some (.int (nI b)), some (.int (nI i))] [] 161 (I, J, RF w)) (fun _ => rfl) ?_
  refine z_evT (((show _ ↔ i < 16 from z_ltN rfl rfl (by omega) (by omega)).mpr (by omega))) ?_
  refine z_evL ?_
  refine z_evG 8 (y := z_ret (z_cl E (d + 1) 125 [.ref 37, .int (nI t), .int ((nI i) * (nI s)), .int (nI b)] (161, (I, J, RF w))) 48 [some (.ref 0), some (.int (nI t)), some (.int (nI s)), some (.int (nI b)), some (.int (nI i))] []) (fun _ => rfl) ?_
  refine z_evK (v := .int (z_on (I 42 t) (i * s) b)) (z' := 161) (σ' := (I, J, RF w)) ((congrArg (fun q => z_cl E (d + 1) 125 [.ref 37, .int (nI t), .int q, .int (nI b)] (161, I, J, RF w)) ((z_mulE rfl rfl) : ((nI i) * (nI s) : Int32) = nI (i * s))).trans (x_stepsOn E d I J w t (i * s) b (by omega) (z_225 (by omega) (by omega)) (by omega))) ?_
  refine z_evG 1 (y := some (.inr (some (.int (z_on (I 42 t) (i * s) b)), 161, I, J, RF w))) (fun _ => rfl) ?_
  exact z_evR rfl
set_option maxRecDepth 20000 in
/-- LampHouseModel.film -/
theorem m_film_ok (E : zE) (d : Nat) (I : Nat → Nat → Int32) (J : Nat → Nat → Int64) (w : Nat) (t s b i n : Nat) (h_n : I 127 3 = nI n) (hm_n : n ≤ 20) (hl_t : t < n) (hl_s : s < 16) (hl_b : b < 17) (hb1 : 1 ≤ b) (hl_i : i < 16) : z_cl E (d + 3) 239 [.ref 127, .int (nI t), .int (nI s), .int (nI b), .int (nI i)] (161, I, J, RF w) = some (some (.int (z_on (I 133 t) (i * s) b)), 161, I, J, RF w) := by
  refine z_call (d := d + 2) (M := z_m239) rfl rfl ?_
  refine z_evG 3 (y := z_ret (z_cl E (d + 2) 183 [.ref 127, .int (nI t)] (161, (I, J, RF w))) 5 [some (.ref 127), some (.int (nI t)), some (.int (nI s)), some (.int (nI b)), some (.int (nI i))] []) (fun _ => rfl) ?_
  refine z_evK (v := .int (z_bo (¬ (nI t) < 0 ∧ ¬ I 127 3 - 1 < (nI t)))) (z' := 161) (σ' := (I, J, RF w)) (m_isThing E d I J w (nI t)) ?_
  refine z_evG 1 (y := if (z_bo (¬ (nI t) < 0 ∧ ¬ I 127 3 - 1 < (nI t))) = 0 then z_go 40 [some (.ref 127), some (.int (nI t)), some (.int (nI s)), some (.int (nI b)), some (.int (nI i))] [] 161 (I, J, RF w) else z_go 8 [some (.ref 127), some (.int (nI t)), some (.int (nI s)), some (.int (nI b)), some (.int (nI i))] [] 161 (I, J, RF w)) (fun _ => rfl) ?_
  refine z_evF (fun q0 => z_bo_0.mp q0 ⟨(mt (show _ ↔ t < 0 from z_ltN rfl rfl (by omega) (by omega)).mp (by omega)), (z_plt h_n rfl (by omega) (by omega))⟩) ?_
  refine z_evL ?_
  refine z_evG 4 (y := z_ret (z_cl E (d + 2) 238 [.int 1, .int (nI s), .int (nI b)] (161, (I, J, RF w))) 14 [some (.ref 127), some (.int (nI t)), some (.int (nI s)), some (.int (nI b)), some (.int (nI i))] []) (fun _ => rfl) ?_
  refine z_evK (v := .int (z_bo ((¬ 1 < 1 ∧ ¬ 16 < 1) ∧ (¬ (nI s) < 0 ∧ ¬ 15 < (nI s)) ∧ (¬ (nI b) < 1 ∧ ¬ 16 < (nI b))))) (z' := 161) (σ' := (I, J, RF w)) (m_isFilm E d I J w 1 (nI s) (nI b)) ?_
  refine z_evG 1 (y := if (z_bo ((¬ 1 < 1 ∧ ¬ 16 < 1) ∧ (¬ (nI s) < 0 ∧ ¬ 15 < (nI s)) ∧ (¬ (nI b) < 1 ∧ ¬ 16 < (nI b)))) = 0 then z_go 40 [some (.ref 127), some (.int (nI t)), some (.int (nI s)), some (.int (nI b)), some (.int (nI i))] [] 161 (I, J, RF w) else z_go 17 [some (.ref 127), some (.int (nI t)), some (.int (nI s)), some (.int (nI b)), some (.int (nI i))] [] 161 (I, J, RF w)) (fun _ => rfl) ?_
  refine z_evF (fun q0 => z_bo_0.mp q0 ⟨⟨(mt (show _ ↔ 1 < 1 from z_ltN rfl rfl (by omega) (by omega)).mp (by omega)), (mt (show _ ↔ 16 < 1 from z_ltN rfl rfl (by omega) (by omega)).mp (by omega))⟩, ⟨(mt (show _ ↔ s < 0 from z_ltN rfl rfl (by omega) (by omega)).mp (by omega)), (mt (show _ ↔ 15 < s from z_ltN rfl rfl (by omega) (by omega)).mp (by omega))⟩, ⟨(mt (show _ ↔ b < 1 from z_ltN rfl rfl (by omega) (by omega)).mp (by omega)), (mt (show _ ↔ 16 < b from z_ltN rfl rfl (by omega) (by omega)).mp (by omega))⟩⟩) ?_
  refine z_evL ?_
  refine z_evG 4 (y := z_ret (z_cl E (d + 2) 178 [.int (nI i), .int 0, .int 15] (161, (I, J, RF w))) 25 [some (.ref 127), some (.int (nI t)), some (.int (nI s)), some (.int (nI b)), some (.int (nI i))] []) (fun _ => rfl) ?_
  refine z_evK (v := .int (z_bo (¬ (nI i) < 0 ∧ ¬ 15 < (nI i)))) (z' := 161) (σ' := (I, J, RF w)) (m_in E (d + 1) I J w (nI i) 0 15) ?_
  refine z_evG 1 (y := if (z_bo (¬ (nI i) < 0 ∧ ¬ 15 < (nI i))) = 0 then z_go 40 [some (.ref 127), some (.int (nI t)), some (.int (nI s)), some (.int (nI b)), some (.int (nI i))] [] 161 (I, J, RF w) else z_go 28 [some (.ref 127), some (.int (nI t)), some (.int (nI s)), some (.int (nI b)), some (.int (nI i))] [] 161 (I, J, RF w)) (fun _ => rfl) ?_
  refine z_evF (fun q0 => z_bo_0.mp q0 ⟨(mt (show _ ↔ i < 0 from z_ltN rfl rfl (by omega) (by omega)).mp (by omega)), (mt (show _ ↔ 15 < i from z_ltN rfl rfl (by omega) (by omega)).mp (by omega))⟩) ?_
  refine z_evL ?_
  refine z_evG 6 (y := z_ret (z_cl E (d + 2) 237 [.ref 127, .int (nI t), .int (nI s), .int (nI b), .int (nI i)] (161, (I, J, RF w))) 37 [some (.ref 127), some (.int (nI t)), some (.int (nI s)), some (.int (nI b)), some (.int (nI i))] []) (fun _ => rfl) ?_
  refine z_evK (v := .int (z_on (I 133 t) (i * s) b)) (z' := 161) (σ' := (I, J, RF w)) (m_takes E (d + 1) I J w t s b i (by omega) (z_225 (by omega) (by omega)) (by omega)) ?_
  refine z_evG 2 (y := some (.inr (some (.int (z_on (I 133 t) (i * s) b)), 161, I, J, RF w))) (fun _ => rfl) ?_
  exact z_evR rfl
