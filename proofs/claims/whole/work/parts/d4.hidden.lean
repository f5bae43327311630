-- HIDDEN by the class
def s_HR (F : Nat → Nat → Bool) (I : Nat → Nat → Int32) : Prop := I 110 8 = nI (s_c2 F 256) ∧ (∀ j, j < 4 → I 115 j = nI (s_lo (s_Za F) j 256) ∧ I 116 j = nI (s_hi (s_Za F) j 256)) ∧ ∀ j, j < 4 → I 115 (4 + j) = nI (s_lo (fun b => s_any F b 256) j 256) ∧ I 116 (4 + j) = nI (s_hi (fun b => s_any F b 256) j 256)
theorem x_searchQ (E : zE) (d : Nat) (I : Nat → Nat → Int32) (J : Nat → Nat → Int64) (w : Nat) : ∃ I' J' F, z_cl E (d + 3) 31 [.ref 110] (161, I, J, RF w) = some (none, 161, I', J', RF w) ∧ (∀ a b, a < 256 → b < 256 → F a b = s_FJ J a b) ∧ s_HR F I' ∧ (∀ x k, ¬ s_scH x k → I' x k = I x k) ∧ ∀ x k, x ≠ 112 → x ≠ 113 → J' x k = J x k := by
  obtain ⟨J', eJ⟩ : ∃ J', J' = z_ur (z_ur J 112 (z_fil (J 112) 0 256 (s_wf J 0))) 113 (z_fil ((z_ur J 112 (z_fil (J 112) 0 256 (s_wf J 0))) 113) 0 256 (s_wf (z_ur J 112 (z_fil (J 112) 0 256 (s_wf J 0))) 4)) := ⟨_, rfl⟩
  have hJ : ∀ x k, x ≠ 112 → x ≠ 113 → J' x k = J x k := fun x k q1 q2 => by rw [eJ, z_ur_n _ _ q2, z_ur_n _ _ q1]
  obtain ⟨B, eB⟩ : ∃ B, B = z_u2 (z_ur (z_ur (z_ur I 115 (z_fil (I 115) 0 8 (fun _ => 3))) 116 (z_fil (I 116) 0 8 (fun _ => 0))) 114 (z_fil (I 114) 0 256 (fun _ => 0))) 110 8 0 := ⟨_, rfl⟩
  obtain ⟨I', e1, h1, h2, h3, h4, h5⟩ := x_sr1 E d J' w (fun a j => decide (J' 113 j = J' 110 1 - J' 112 a)) (fun _ _ => rfl) I 256 0 B none rfl (by
    subst eB
    refine ⟨rfl, fun b hb => ?_, fun j hj => ⟨?_, ?_⟩, fun j hj => ⟨?_, ?_⟩, fun x k q => ?_⟩
    · rw [z_u2_n _ _ (by omega), z_ur_same, z_fil_in0 hb]; rfl
    · rw [z_u2_n _ _ (by omega), z_ur_n _ _ (by decide), z_ur_n _ _ (by decide), z_ur_same, z_fil_in0 (by omega)]; rfl
    · rw [z_u2_n _ _ (by omega), z_ur_n _ _ (by decide), z_ur_same, z_fil_in0 (by omega)]; rfl
    · rw [z_u2_n _ _ (by omega), z_ur_n _ _ (by decide), z_ur_n _ _ (by decide), z_ur_same, z_fil_in0 (by omega)]; rfl
    · rw [z_u2_n _ _ (by omega), z_ur_n _ _ (by decide), z_ur_same, z_fil_in0 (by omega)]; rfl
    · unfold s_scH at q
      rw [z_u2_n _ _ (by omega), z_ur_n _ _ (by omega), z_ur_n _ _ (by omega), z_ur_n _ _ (by omega)])
  refine ⟨I', J', fun a j => decide (J' 113 j = J' 110 1 - J' 112 a), z_call (d := d + 2) (M := z_m31) rfl rfl (x_sr_a E d I J w (by rw [← eB, ← eJ]; exact e1)), fun a b ha hb => ?_, ⟨h1, fun j hj => by have := h3 j hj; rw [Nat.zero_add] at this; exact this, h4⟩, h5, hJ⟩
  unfold s_FJ
  have e2 : J' 113 b = s_wf J 4 b := by rw [eJ, z_ur_same, z_fil_in0 hb]; rfl
  have e3 : J' 112 a = s_wf J 0 a := by rw [eJ, z_ur_n _ _ (by decide), z_ur_same, z_fil_in0 ha]
  show decide (J' 113 b = J' 110 1 - J' 112 a) = _
  rw [e2, e3, hJ 110 1 (by decide) (by decide)]
set_option maxRecDepth 20000 in
theorem x_ft_k (E : zE) (d : Nat) (I : Nat → Nat → Int32) (J : Nat → Nat → Int64) (w : Nat)  (hk : ¬ I 110 9 = 0) : z_Ev E (d + 3) z_m28 0 [some (.ref 110)] [] 161 (I, J, RF w) (some (.int (I 110 8)), 161, I, J, RF w) := by
  refine z_evG 3 (y := if (I 110 9) = 0 then z_go 7 [some (.ref 110)] [] 161 (I, J, RF w) else z_go 16 [some (.ref 110)] [] 161 (I, J, RF w)) (fun _ => rfl) ?_
  refine z_evF hk ?_
  refine z_evL ?_
  refine z_evG 3 (y := some (.inr (some (.int (I 110 8)), 161, I, J, RF w))) (fun _ => rfl) ?_
  exact z_evR rfl
set_option maxRecDepth 20000 in
theorem x_ft_u (E : zE) (d : Nat) (I : Nat → Nat → Int32) (J : Nat → Nat → Int64) (w : Nat) (I1 : Nat → Nat → Int32) (J1 : Nat → Nat → Int64) (hk : I 110 9 = 0) (t1 : z_cl E (d + 3) 31 [.ref 110] (161, I, J, RF w) = some (none, 161, I1, J1, RF w)) : z_Ev E (d + 3) z_m28 0 [some (.ref 110)] [] 161 (I, J, RF w) (some (.int (I1 110 8)), 161, (z_u2 I1 110 9 1), J1, RF w) := by
  refine z_evG 3 (y := if (I 110 9) = 0 then z_go 7 [some (.ref 110)] [] 161 (I, J, RF w) else z_go 16 [some (.ref 110)] [] 161 (I, J, RF w)) (fun _ => rfl) ?_
  refine z_evT hk ?_
  refine z_evL ?_
  refine z_evG 2 (y := z_ret (z_cl E (d + 3) 31 [.ref 110] (161, (I, J, RF w))) 11 [some (.ref 110)] []) (fun _ => rfl) ?_
  refine z_evV (z' := 161) (σ' := (I1, J1, RF w)) t1 ?_
  refine z_evG 6 (y := some (.inr (some (.int (I1 110 8)), 161, (z_u2 I1 110 9 1), J1, RF w))) (fun _ => rfl) ?_
  exact z_evR rfl
set_option maxRecDepth 20000 in
/-- LampHouse.hidden -/
theorem x_hidden_bad (E : zE) (d : Nat) (I : Nat → Nat → Int32) (J : Nat → Nat → Int64) (w : Nat) (v c : Int32) (hbad : ¬ ((¬ v < 0) ∧ (¬ 2 < v) ∧ (¬ 0 < v ∨ ¬ c < 0 ∧ c < 8))) : z_cl E (d + 5) 159 [.ref 0, .int v, .int c] (161, I, J, RF w) = some (some (.int (-2)), 161, I, J, RF w) := by
  refine z_call (d := d + 4) (M := z_m159) rfl rfl ?_
  refine z_evG 2 (y := if v < 0 then z_go 20 [some (.ref 0), some (.int v), some (.int c), none] [] 161 (I, J, RF w) else z_go 4 [some (.ref 0), some (.int v), some (.int c), none] [] 161 (I, J, RF w)) (fun _ => rfl) ?_
  refine z_evI (fun h1 => ?_) (fun h1 => ?_)
  · refine z_evL ?_
    refine z_evG 2 (y := some (.inr (some (.int (-2)), 161, I, J, RF w))) (fun _ => rfl) ?_
    exact z_evR rfl
  · refine z_evL ?_
    refine z_evG 3 (y := if 2 < v then z_go 20 [some (.ref 0), some (.int v), some (.int c), none] [] 161 (I, J, RF w) else z_go 9 [some (.ref 0), some (.int v), some (.int c), none] [] 161 (I, J, RF w)) (fun _ => rfl) ?_
    refine z_evI (fun h2 => ?_) (fun h2 => ?_)
    · refine z_evL ?_
      refine z_evG 2 (y := some (.inr (some (.int (-2)), 161, I, J, RF w))) (fun _ => rfl) ?_
      exact z_evR rfl
    · refine z_evL ?_
      refine z_evG 2 (y := if 0 < v then z_go 13 [some (.ref 0), some (.int v), some (.int c), none] [] 161 (I, J, RF w) else z_go 23 [some (.ref 0), some (.int v), some (.int c), none] [] 161 (I, J, RF w)) (fun _ => rfl) ?_
      refine z_evI (fun h3 => ?_) (fun h3 => ?_)
      · refine z_evL ?_
        refine z_evG 2 (y := z_ret (z_cl E (d + 4) 172 [.int c] (161, (I, J, RF w))) 17 [some (.ref 0), some (.int v), some (.int c), none] []) (fun _ => rfl) ?_
        refine z_evK (v := .int (z_bo (¬ c < 0 ∧ c < 8))) (z' := 161) (σ' := (I, J, RF w)) (x_isColour E (d + 3) I J w c) ?_
        refine z_evG 1 (y := if (z_bo (¬ c < 0 ∧ c < 8)) = 0 then z_go 20 [some (.ref 0), some (.int v), some (.int c), none] [] 161 (I, J, RF w) else z_go 23 [some (.ref 0), some (.int v), some (.int c), none] [] 161 (I, J, RF w)) (fun _ => rfl) ?_
        refine z_evO (fun h4 => ?_) (fun h4 => ?_)
        · refine z_evL ?_
          refine z_evG 2 (y := some (.inr (some (.int (-2)), 161, I, J, RF w))) (fun _ => rfl) ?_
          exact z_evR rfl
        · refine z_evL ?_
          exact absurd ⟨h1, h2, .inr h4⟩ hbad
      · refine z_evL ?_
        exact absurd ⟨h1, h2, .inl h3⟩ hbad
set_option maxRecDepth 20000 in
theorem x_hidden_0 (E : zE) (d : Nat) (I : Nat → Nat → Int32) (J : Nat → Nat → Int64) (w : Nat) (c : Int32) (f : Int32) (I1 : Nat → Nat → Int32) (J1 : Nat → Nat → Int64) (t1 : z_cl E (d + 4) 28 [.ref 110] (161, I, J, RF w) = some (some (.int f), 161, I1, J1, RF w)) : z_Ev E (d + 4) z_m159 0 [some (.ref 0), some (.int 0), some (.int c), none] [] 161 (I, J, RF w) (some (.int f), 161, I1, J1, RF w) := by
  refine z_evG 2 (y := if 0 < 0 then z_go 20 [some (.ref 0), some (.int 0), some (.int c), none] [] 161 (I, J, RF w) else z_go 4 [some (.ref 0), some (.int 0), some (.int c), none] [] 161 (I, J, RF w)) (fun _ => rfl) ?_
  refine z_evI (fun q => absurd q (by decide)) (fun _ => ?_)
  refine z_evL ?_
  refine z_evG 3 (y := if 2 < 0 then z_go 20 [some (.ref 0), some (.int 0), some (.int c), none] [] 161 (I, J, RF w) else z_go 9 [some (.ref 0), some (.int 0), some (.int c), none] [] 161 (I, J, RF w)) (fun _ => rfl) ?_
  refine z_evI (fun q => absurd q (by decide)) (fun _ => ?_)
  refine z_evL ?_
  refine z_evG 2 (y := if 0 < 0 then z_go 13 [some (.ref 0), some (.int 0), some (.int c), none] [] 161 (I, J, RF w) else z_go 23 [some (.ref 0), some (.int 0), some (.int c), none] [] 161 (I, J, RF w)) (fun _ => rfl) ?_
  refine z_evI (fun q => absurd q (by decide)) (fun _ => ?_)
  refine z_evL ?_
  refine z_evG 3 (y := z_ret (z_cl E (d + 4) 28 [.ref 110] (161, (I, J, RF w))) 30 [some (.ref 0), some (.int 0), some (.int c), none] []) (fun _ => rfl) ?_
  refine z_evK (v := .int f) (z' := 161) (σ' := (I1, J1, RF w)) t1 ?_
  refine z_evG 3 (y := if 0 = 0 then z_go 35 [some (.ref 0), some (.int 0), some (.int c), some (.int f)] [] 161 (I1, J1, RF w) else z_go 37 [some (.ref 0), some (.int 0), some (.int c), some (.int f)] [] 161 (I1, J1, RF w)) (fun _ => rfl) ?_
  refine z_evI (fun _ => ?_) (fun q => absurd (by decide) q)
  refine z_evL ?_
  refine z_evG 2 (y := some (.inr (some (.int f), 161, I1, J1, RF w))) (fun _ => rfl) ?_
  exact z_evR rfl
set_option maxRecDepth 20000 in
theorem x_hidden_1n (E : zE) (d : Nat) (I : Nat → Nat → Int32) (J : Nat → Nat → Int64) (w : Nat) (c : Int32) (f : Int32) (I1 : Nat → Nat → Int32) (J1 : Nat → Nat → Int64) (hc : ¬ c < 0 ∧ c < 8) (hf : f = 0) (t1 : z_cl E (d + 4) 28 [.ref 110] (161, I, J, RF w) = some (some (.int f), 161, I1, J1, RF w)) : z_Ev E (d + 4) z_m159 0 [some (.ref 0), some (.int 1), some (.int c), none] [] 161 (I, J, RF w) (some (.int (-1)), 161, I1, J1, RF w) := by
  refine z_evG 2 (y := if 1 < 0 then z_go 20 [some (.ref 0), some (.int 1), some (.int c), none] [] 161 (I, J, RF w) else z_go 4 [some (.ref 0), some (.int 1), some (.int c), none] [] 161 (I, J, RF w)) (fun _ => rfl) ?_
  refine z_evI (fun q => absurd q (by decide)) (fun _ => ?_)
  refine z_evL ?_
  refine z_evG 3 (y := if 2 < 1 then z_go 20 [some (.ref 0), some (.int 1), some (.int c), none] [] 161 (I, J, RF w) else z_go 9 [some (.ref 0), some (.int 1), some (.int c), none] [] 161 (I, J, RF w)) (fun _ => rfl) ?_
  refine z_evI (fun q => absurd q (by decide)) (fun _ => ?_)
  refine z_evL ?_
  refine z_evG 2 (y := if 0 < 1 then z_go 13 [some (.ref 0), some (.int 1), some (.int c), none] [] 161 (I, J, RF w) else z_go 23 [some (.ref 0), some (.int 1), some (.int c), none] [] 161 (I, J, RF w)) (fun _ => rfl) ?_
  refine z_evI (fun _ => ?_) (fun q => absurd (by decide) q)
  refine z_evL ?_
  refine z_evG 2 (y := z_ret (z_cl E (d + 4) 172 [.int c] (161, (I, J, RF w))) 17 [some (.ref 0), some (.int 1), some (.int c), none] []) (fun _ => rfl) ?_
  refine z_evK (v := .int (z_bo (¬ c < 0 ∧ c < 8))) (z' := 161) (σ' := (I, J, RF w)) (x_isColour E (d + 3) I J w c) ?_
  refine z_evG 1 (y := if (z_bo (¬ c < 0 ∧ c < 8)) = 0 then z_go 20 [some (.ref 0), some (.int 1), some (.int c), none] [] 161 (I, J, RF w) else z_go 23 [some (.ref 0), some (.int 1), some (.int c), none] [] 161 (I, J, RF w)) (fun _ => rfl) ?_
  refine z_evF (fun q0 => z_bo_0.mp q0 hc) ?_
  refine z_evL ?_
  refine z_evG 3 (y := z_ret (z_cl E (d + 4) 28 [.ref 110] (161, (I, J, RF w))) 30 [some (.ref 0), some (.int 1), some (.int c), none] []) (fun _ => rfl) ?_
  refine z_evK (v := .int f) (z' := 161) (σ' := (I1, J1, RF w)) t1 ?_
  refine z_evG 3 (y := if 1 = 0 then z_go 35 [some (.ref 0), some (.int 1), some (.int c), some (.int f)] [] 161 (I1, J1, RF w) else z_go 37 [some (.ref 0), some (.int 1), some (.int c), some (.int f)] [] 161 (I1, J1, RF w)) (fun _ => rfl) ?_
  refine z_evI (fun q => absurd q (by decide)) (fun _ => ?_)
  refine z_evL ?_
  refine z_evG 2 (y := if f = 0 then z_go 41 [some (.ref 0), some (.int 1), some (.int c), some (.int f)] [] 161 (I1, J1, RF w) else z_go 43 [some (.ref 0), some (.int 1), some (.int c), some (.int f)] [] 161 (I1, J1, RF w)) (fun _ => rfl) ?_
  refine z_evT hf ?_
  refine z_evL ?_
  refine z_evG 2 (y := some (.inr (some (.int (-1)), 161, I1, J1, RF w))) (fun _ => rfl) ?_
  exact z_evR rfl
set_option maxRecDepth 20000 in
theorem x_hidden_1 (E : zE) (d : Nat) (I : Nat → Nat → Int32) (J : Nat → Nat → Int64) (w : Nat) (c : Nat) (f : Int32) (I1 : Nat → Nat → Int32) (J1 : Nat → Nat → Int64) (hc : c < 8) (hf : ¬ f = 0) (t1 : z_cl E (d + 4) 28 [.ref 110] (161, I, J, RF w) = some (some (.int f), 161, I1, J1, RF w)) : z_Ev E (d + 4) z_m159 0 [some (.ref 0), some (.int 1), some (.int (nI c)), none] [] 161 (I, J, RF w) (some (.int (I1 115 c)), 161, I1, J1, RF w) := by
  refine z_evG 2 (y := if 1 < 0 then z_go 20 [some (.ref 0), some (.int 1), some (.int (nI c)), none] [] 161 (I, J, RF w) else z_go 4 [some (.ref 0), some (.int 1), some (.int (nI c)), none] [] 161 (I, J, RF w)) (fun _ => rfl) ?_
  refine z_evI (fun q => absurd q (by decide)) (fun _ => ?_)
  refine z_evL ?_
  refine z_evG 3 (y := if 2 < 1 then z_go 20 [some (.ref 0), some (.int 1), some (.int (nI c)), none] [] 161 (I, J, RF w) else z_go 9 [some (.ref 0), some (.int 1), some (.int (nI c)), none] [] 161 (I, J, RF w)) (fun _ => rfl) ?_
  refine z_evI (fun q => absurd q (by decide)) (fun _ => ?_)
  refine z_evL ?_
  refine z_evG 2 (y := if 0 < 1 then z_go 13 [some (.ref 0), some (.int 1), some (.int (nI c)), none] [] 161 (I, J, RF w) else z_go 23 [some (.ref 0), some (.int 1), some (.int (nI c)), none] [] 161 (I, J, RF w)) (fun _ => rfl) ?_
  refine z_evI (fun _ => ?_) (fun q => absurd (by decide) q)
  refine z_evL ?_
  refine z_evG 2 (y := z_ret (z_cl E (d + 4) 172 [.int (nI c)] (161, (I, J, RF w))) 17 [some (.ref 0), some (.int 1), some (.int (nI c)), none] []) (fun _ => rfl) ?_
  refine z_evK (v := .int (z_bo (¬ (nI c) < 0 ∧ (nI c) < 8))) (z' := 161) (σ' := (I, J, RF w)) (x_isColour E (d + 3) I J w (nI c)) ?_
  refine z_evG 1 (y := if (z_bo (¬ (nI c) < 0 ∧ (nI c) < 8)) = 0 then z_go 20 [some (.ref 0), some (.int 1), some (.int (nI c)), none] [] 161 (I, J, RF w) else z_go 23 [some (.ref 0), some (.int 1), some (.int (nI c)), none] [] 161 (I, J, RF w)) (fun _ => rfl) ?_
  refine z_evF (fun q0 => z_bo_0.mp q0 ⟨(mt (show _ ↔ c < 0 from z_ltN rfl rfl (by omega) (by omega)).mp (by omega)), ((show _ ↔ c < 8 from z_ltN rfl rfl (by omega) (by omega)).mpr (by omega))⟩) ?_
  refine z_evL ?_
  refine z_evG 3 (y := z_ret (z_cl E (d + 4) 28 [.ref 110] (161, (I, J, RF w))) 30 [some (.ref 0), some (.int 1), some (.int (nI c)), none] []) (fun _ => rfl) ?_
  refine z_evK (v := .int f) (z' := 161) (σ' := (I1, J1, RF w)) t1 ?_
  refine z_evG 3 (y := if 1 = 0 then z_go 35 [some (.ref 0), some (.int 1), some (.int (nI c)), some (.int f)] [] 161 (I1, J1, RF w) else z_go 37 [some (.ref 0), some (.int 1), some (.int (nI c)), some (.int f)] [] 161 (I1, J1, RF w)) (fun _ => rfl) ?_
  refine z_evI (fun q => absurd q (by decide)) (fun _ => ?_)
  refine z_evL ?_
  refine z_evG 2 (y := if f = 0 then z_go 41 [some (.ref 0), some (.int 1), some (.int (nI c)), some (.int f)] [] 161 (I1, J1, RF w) else z_go 43 [some (.ref 0), some (.int 1), some (.int (nI c)), some (.int f)] [] 161 (I1, J1, RF w)) (fun _ => rfl) ?_
  refine z_evF hf ?_
  refine z_evL ?_
  refine z_evG 3 (y := if 1 = 1 then z_go 48 [some (.ref 0), some (.int 1), some (.int (nI c)), some (.int f)] [] 161 (I1, J1, RF w) else z_go 59 [some (.ref 0), some (.int 1), some (.int (nI c)), some (.int f)] [] 161 (I1, J1, RF w)) (fun _ => rfl) ?_
  refine z_evI (fun _ => ?_) (fun q => absurd (by decide) q)
  refine z_evL ?_
  refine z_evG 4 (y := z_ret (z_cl E (d + 4) 29 [.ref 110, .int (nI c)] (161, (I1, J1, RF w))) 56 [some (.ref 0), some (.int 1), some (.int (nI c)), some (.int f)] []) (fun _ => rfl) ?_
  refine z_evK (v := .int (I1 115 c)) (z' := 161) (σ' := (I1, J1, RF w)) (x_filters_leastOfN E (d + 3) I1 J1 w c (by omega)) ?_
  refine z_evG 2 (y := some (.inr (some (.int (I1 115 c)), 161, I1, J1, RF w))) (fun _ => rfl) ?_
  exact z_evR rfl
set_option maxRecDepth 20000 in
theorem x_hidden_2n (E : zE) (d : Nat) (I : Nat → Nat → Int32) (J : Nat → Nat → Int64) (w : Nat) (c : Int32) (f : Int32) (I1 : Nat → Nat → Int32) (J1 : Nat → Nat → Int64) (hc : ¬ c < 0 ∧ c < 8) (hf : f = 0) (t1 : z_cl E (d + 4) 28 [.ref 110] (161, I, J, RF w) = some (some (.int f), 161, I1, J1, RF w)) : z_Ev E (d + 4) z_m159 0 [some (.ref 0), some (.int 2), some (.int c), none] [] 161 (I, J, RF w) (some (.int (-1)), 161, I1, J1, RF w) := by
  refine z_evG 2 (y := if 2 < 0 then z_go 20 [some (.ref 0), some (.int 2), some (.int c), none] [] 161 (I, J, RF w) else z_go 4 [some (.ref 0), some (.int 2), some (.int c), none] [] 161 (I, J, RF w)) (fun _ => rfl) ?_
  refine z_evI (fun q => absurd q (by decide)) (fun _ => ?_)
  refine z_evL ?_
  refine z_evG 3 (y := if 2 < 2 then z_go 20 [some (.ref 0), some (.int 2), some (.int c), none] [] 161 (I, J, RF w) else z_go 9 [some (.ref 0), some (.int 2), some (.int c), none] [] 161 (I, J, RF w)) (fun _ => rfl) ?_
  refine z_evI (fun q => absurd q (by decide)) (fun _ => ?_)
  refine z_evL ?_
  refine z_evG 2 (y := if 0 < 2 then z_go 13 [some (.ref 0), some (.int 2), some (.int c), none] [] 161 (I, J, RF w) else z_go 23 [some (.ref 0), some (.int 2), some (.int c), none] [] 161 (I, J, RF w)) (fun _ => rfl) ?_
  refine z_evI (fun _ => ?_) (fun q => absurd (by decide) q)
  refine z_evL ?_
  refine z_evG 2 (y := z_ret (z_cl E (d + 4) 172 [.int c] (161, (I, J, RF w))) 17 [some (.ref 0), some (.int 2), some (.int c), none] []) (fun _ => rfl) ?_
  refine z_evK (v := .int (z_bo (¬ c < 0 ∧ c < 8))) (z' := 161) (σ' := (I, J, RF w)) (x_isColour E (d + 3) I J w c) ?_
  refine z_evG 1 (y := if (z_bo (¬ c < 0 ∧ c < 8)) = 0 then z_go 20 [some (.ref 0), some (.int 2), some (.int c), none] [] 161 (I, J, RF w) else z_go 23 [some (.ref 0), some (.int 2), some (.int c), none] [] 161 (I, J, RF w)) (fun _ => rfl) ?_
  refine z_evF (fun q0 => z_bo_0.mp q0 hc) ?_
  refine z_evL ?_
  refine z_evG 3 (y := z_ret (z_cl E (d + 4) 28 [.ref 110] (161, (I, J, RF w))) 30 [some (.ref 0), some (.int 2), some (.int c), none] []) (fun _ => rfl) ?_
  refine z_evK (v := .int f) (z' := 161) (σ' := (I1, J1, RF w)) t1 ?_
  refine z_evG 3 (y := if 2 = 0 then z_go 35 [some (.ref 0), some (.int 2), some (.int c), some (.int f)] [] 161 (I1, J1, RF w) else z_go 37 [some (.ref 0), some (.int 2), some (.int c), some (.int f)] [] 161 (I1, J1, RF w)) (fun _ => rfl) ?_
  refine z_evI (fun q => absurd q (by decide)) (fun _ => ?_)
  refine z_evL ?_
  refine z_evG 2 (y := if f = 0 then z_go 41 [some (.ref 0), some (.int 2), some (.int c), some (.int f)] [] 161 (I1, J1, RF w) else z_go 43 [some (.ref 0), some (.int 2), some (.int c), some (.int f)] [] 161 (I1, J1, RF w)) (fun _ => rfl) ?_
  refine z_evT hf ?_
  refine z_evL ?_
  refine z_evG 2 (y := some (.inr (some (.int (-1)), 161, I1, J1, RF w))) (fun _ => rfl) ?_
  exact z_evR rfl
set_option maxRecDepth 20000 in
theorem x_hidden_2 (E : zE) (d : Nat) (I : Nat → Nat → Int32) (J : Nat → Nat → Int64) (w : Nat) (c : Nat) (f : Int32) (I1 : Nat → Nat → Int32) (J1 : Nat → Nat → Int64) (hc : c < 8) (hf : ¬ f = 0) (t1 : z_cl E (d + 4) 28 [.ref 110] (161, I, J, RF w) = some (some (.int f), 161, I1, J1, RF w)) : z_Ev E (d + 4) z_m159 0 [some (.ref 0), some (.int 2), some (.int (nI c)), none] [] 161 (I, J, RF w) (some (.int (I1 116 c)), 161, I1, J1, RF w) := by
  refine z_evG 2 (y := if 2 < 0 then z_go 20 [some (.ref 0), some (.int 2), some (.int (nI c)), none] [] 161 (I, J, RF w) else z_go 4 [some (.ref 0), some (.int 2), some (.int (nI c)), none] [] 161 (I, J, RF w)) (fun _ => rfl) ?_
  refine z_evI (fun q => absurd q (by decide)) (fun _ => ?_)
  refine z_evL ?_
  refine z_evG 3 (y := if 2 < 2 then z_go 20 [some (.ref 0), some (.int 2), some (.int (nI c)), none] [] 161 (I, J, RF w) else z_go 9 [some (.ref 0), some (.int 2), some (.int (nI c)), none] [] 161 (I, J, RF w)) (fun _ => rfl) ?_
  refine z_evI (fun q => absurd q (by decide)) (fun _ => ?_)
  refine z_evL ?_
  refine z_evG 2 (y := if 0 < 2 then z_go 13 [some (.ref 0), some (.int 2), some (.int (nI c)), none] [] 161 (I, J, RF w) else z_go 23 [some (.ref 0), some (.int 2), some (.int (nI c)), none] [] 161 (I, J, RF w)) (fun _ => rfl) ?_
  refine z_evI (fun _ => ?_) (fun q => absurd (by decide) q)
  refine z_evL ?_
  refine z_evG 2 (y := z_ret (z_cl E (d + 4) 172 [.int (nI c)] (161, (I, J, RF w))) 17 [some (.ref 0), some (.int 2), some (.int (nI c)), none] []) (fun _ => rfl) ?_
  refine z_evK (v := .int (z_bo (¬ (nI c) < 0 ∧ (nI c) < 8))) (z' := 161) (σ' := (I, J, RF w)) (x_isColour E (d + 3) I J w (nI c)) ?_
  refine z_evG 1 (y := if (z_bo (¬ (nI c) < 0 ∧ (nI c) < 8)) = 0 then z_go 20 [some (.ref 0), some (.int 2), some (.int (nI c)), none] [] 161 (I, J, RF w) else z_go 23 [some (.ref 0), some (.int 2), some (.int (nI c)), none] [] 161 (I, J, RF w)) (fun _ => rfl) ?_
  refine z_evF (fun q0 => z_bo_0.mp q0 ⟨(mt (show _ ↔ c < 0 from z_ltN rfl rfl (by omega) (by omega)).mp (by omega)), ((show _ ↔ c < 8 from z_ltN rfl rfl (by omega) (by omega)).mpr (by omega))⟩) ?_
  refine z_evL ?_
  refine z_evG 3 (y := z_ret (z_cl E (d + 4) 28 [.ref 110] (161, (I, J, RF w))) 30 [some (.ref 0), some (.int 2), some (.int (nI c)), none] []) (fun _ => rfl) ?_
  refine z_evK (v := .int f) (z' := 161) (σ' := (I1, J1, RF w)) t1 ?_
  refine z_evG 3 (y := if 2 = 0 then z_go 35 [some (.ref 0), some (.int 2), some (.int (nI c)), some (.int f)] [] 161 (I1, J1, RF w) else z_go 37 [some (.ref 0), some (.int 2), some (.int (nI c)), some (.int f)] [] 161 (I1, J1, RF w)) (fun _ => rfl) ?_
  refine z_evI (fun q => absurd q (by decide)) (fun _ => ?_)
  refine z_evL ?_
  refine z_evG 2 (y := if f = 0 then z_go 41 [some (.ref 0), some (.int 2), some (.int (nI c)), some (.int f)] [] 161 (I1, J1, RF w) else z_go 43 [some (.ref 0), some (.int 2), some (.int (nI c)), some (.int f)] [] 161 (I1, J1, RF w)) (fun _ => rfl) ?_
  refine z_evF hf ?_
  refine z_evL ?_
  refine z_evG 3 (y := if 2 = 1 then z_go 48 [some (.ref 0), some (.int 2), some (.int (nI c)), some (.int f)] [] 161 (I1, J1, RF w) else z_go 59 [some (.ref 0), some (.int 2), some (.int (nI c)), some (.int f)] [] 161 (I1, J1, RF w)) (fun _ => rfl) ?_
  refine z_evI (fun q => absurd q (by decide)) (fun _ => ?_)
  refine z_evL ?_
  refine z_evG 4 (y := z_ret (z_cl E (d + 4) 30 [.ref 110, .int (nI c)] (161, (I1, J1, RF w))) 67 [some (.ref 0), some (.int 2), some (.int (nI c)), some (.int f)] []) (fun _ => rfl) ?_
  refine z_evK (v := .int (I1 116 c)) (z' := 161) (σ' := (I1, J1, RF w)) (x_filters_mostOfN E (d + 3) I1 J1 w c (by omega)) ?_
  refine z_evG 1 (y := some (.inr (some (.int (I1 116 c)), 161, I1, J1, RF w))) (fun _ => rfl) ?_
  exact z_evR rfl
def s_fsum (f : Nat → Int32) (h : Int32) : Nat → Int32 := z_fo (fun c s => s + ((h >>> ((2 * nI c) &&& 31)) &&& 3) * (f c - f c / 10 * 10)) 0
