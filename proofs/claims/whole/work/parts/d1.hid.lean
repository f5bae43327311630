-- HIDDEN by the class: its parts
def s_dr (h : Nat) (i : Int32) : Int32 := (nI h >>> ((2 * i) &&& 31)) &&& 3
def s_wf (J : Nat → Nat → Int64) (f : Nat) (h : Nat) : Int64 := (((0 + J 111 f * (s_dr h 0).toInt64) + J 111 (f + 1) * (s_dr h 1).toInt64) + J 111 (f + 2) * (s_dr h 2).toInt64) + J 111 (f + 3) * (s_dr h 3).toInt64
/-- of the first k, how many -/
def s_ct (F : Nat → Bool) (k : Nat) : Nat := z_fo (fun j s => bif F j then s + 1 else s) 0 k
theorem s_ct_t {F : Nat → Bool} {k : Nat} (h : F k = true) : s_ct F (k + 1) = s_ct F k + 1 := by show (bif F k then _ else _) = _; rw [h]; rfl
theorem s_ct_f {F : Nat → Bool} {k : Nat} (h : F k = false) : s_ct F (k + 1) = s_ct F k := by show (bif F k then _ else _) = _; rw [h]; rfl
theorem s_ct_le (F : Nat → Bool) : ∀ k, s_ct F k ≤ k
  | 0 => Nat.le_refl _
  | k + 1 => by
    have := s_ct_le F k
    cases h : F k with
    | true => rw [s_ct_t h]; omega
    | false => rw [s_ct_f h]; omega
theorem s_ct_pos {F : Nat → Bool} : ∀ {k : Nat}, 0 < s_ct F k → ∃ j, j < k ∧ F j = true
  | 0, h => absurd h (Nat.lt_irrefl 0)
  | k + 1, h => by
    cases q : F k with
    | true => exact ⟨k, by omega, q⟩
    | false =>
      rw [s_ct_f q] at h
      obtain ⟨j, h1, h2⟩ := s_ct_pos h
      exact ⟨j, by omega, h2⟩
theorem s_ct_0 {F : Nat → Bool} : ∀ {k : Nat}, s_ct F k = 0 → ∀ j, j < k → F j = false
  | 0, _, j, hj => absurd hj (Nat.not_lt_zero _)
  | k + 1, h, j, hj => by
    cases q : F k with
    | true => rw [s_ct_t q] at h; omega
    | false =>
      rw [s_ct_f q] at h
      rcases Nat.lt_or_ge j k with r | r
      · exact s_ct_0 h j r
      · rw [show j = k by omega]; exact q
/-- a row marked where F -/
def s_mk (f : Nat → Int32) (F : Nat → Bool) (k : Nat) : Nat → Int32 := fun j => if j < k ∧ F j = true then 1 else f j
theorem s_mk_0 (I : Nat → Nat → Int32) (F : Nat → Bool) : z_u2 (z_ur I 114 (s_mk (I 114) F 0)) 110 8 (I 110 8 + nI (s_ct F 0)) = I := by
  funext a j
  unfold z_u2 z_ur s_mk
  by_cases h1 : a = 110
  · subst h1
    rw [if_pos rfl]
    split
    · rename_i q; subst q; show I 110 8 + nI 0 = _; rw [show nI 0 = (0 : Int32) from rfl, Int32.add_zero]
    · rw [if_neg (by decide)]
  · rw [if_neg h1]
    by_cases h2 : a = 114
    · subst h2; rw [if_pos rfl, if_neg (by omega)]
    · rw [if_neg h2]
theorem s_mk_t (I : Nat → Nat → Int32) {F : Nat → Bool} {k : Nat} (h : F k = true) : z_u2 (z_u2 (z_u2 (z_ur I 114 (s_mk (I 114) F k)) 110 8 (I 110 8 + nI (s_ct F k))) 110 8 (I 110 8 + nI (s_ct F k) + 1)) 114 k 1 = z_u2 (z_ur I 114 (s_mk (I 114) F (k + 1))) 110 8 (I 110 8 + nI (s_ct F (k + 1))) := by
  have e : I 110 8 + nI (s_ct F k) + 1 = I 110 8 + nI (s_ct F (k + 1)) := by rw [s_ct_t h, Int32.add_assoc, nI_1]
  rw [e]
  funext a j
  by_cases h1 : a = 110
  · subst h1
    rw [z_u2_n _ _ (by omega)]
    by_cases h2 : j = 8
    · subst h2; rw [z_u2_same, z_u2_same]
    · rw [z_u2_n _ _ (by omega), z_u2_n _ _ (by omega), z_u2_n _ _ (by omega), z_ur_n _ _ (by decide), z_ur_n _ _ (by decide)]
  · by_cases h2 : a = 114
    · subst h2
      by_cases h3 : j = k
      · subst h3; rw [z_u2_same, z_u2_n _ _ (by omega), z_ur_same]; unfold s_mk; rw [if_pos ⟨by omega, h⟩]
      · rw [z_u2_n _ _ (by omega), z_u2_n _ _ (by omega), z_u2_n _ _ (by omega), z_u2_n _ _ (by omega), z_ur_same, z_ur_same]
        unfold s_mk
        by_cases h4 : j < k ∧ F j = true
        · rw [if_pos h4, if_pos ⟨by omega, h4.2⟩]
        · rw [if_neg h4, if_neg (fun q => h4 ⟨by omega, q.2⟩)]
    · rw [z_u2_n _ _ (by omega), z_u2_n _ _ (by omega), z_u2_n _ _ (by omega), z_u2_n _ _ (by omega), z_ur_n _ _ h2, z_ur_n _ _ h2]
theorem s_mk_f (I : Nat → Nat → Int32) {F : Nat → Bool} {k : Nat} (h : F k = false) : z_u2 (z_ur I 114 (s_mk (I 114) F (k + 1))) 110 8 (I 110 8 + nI (s_ct F (k + 1))) = z_u2 (z_ur I 114 (s_mk (I 114) F k)) 110 8 (I 110 8 + nI (s_ct F k)) := by
  rw [s_ct_f h]
  congr 2
  funext j
  unfold s_mk
  by_cases h4 : j < k ∧ F j = true
  · rw [if_pos h4, if_pos ⟨by omega, h4.2⟩]
  · have h5 : ¬ (j < k + 1 ∧ F j = true) := fun q => by
      rcases Nat.lt_or_ge j k with r | r
      · exact h4 ⟨r, q.2⟩
      · have e : j = k := by omega
        rw [e, h] at q; cases q.2
    rw [if_neg h4, if_neg h5]
set_option maxRecDepth 20000 in
/-- LampHouse$Filters.digit -/
theorem x_digitS (E : zE) (d : Nat) (I : Nat → Nat → Int32) (J : Nat → Nat → Int64) (w : Nat) (h : Nat) (i : Int32) : z_cl E (d + 1) 35 [.int (nI h), .int i] (161, I, J, RF w) = some (some (.int (s_dr h i)), 161, I, J, RF w) := by
  refine z_call (d := d + 0) (M := z_m35) rfl rfl ?_
  refine z_evG 8 (y := some (.inr (some (.int (((nI h) >>> ((2 * i) &&& 31)) &&& 3)), 161, I, J, RF w))) (fun _ => rfl) ?_
  exact z_evR rfl
set_option maxRecDepth 20000 in
/-- LampHouse$Filters.weigh -/
theorem x_weigh_0 (E : zE) (d : Nat) (I : Nat → Nat → Int32) (J : Nat → Nat → Int64) (w : Nat) : z_cl E (d + 2) 32 [.ref 110, .int 0, .ref 112] (161, I, J, RF w) = some (none, 161, I, (z_ur J 112 (z_fil (J 112) 0 256 (s_wf J 0))), RF w) := by
  refine z_call (d := d + 1) (M := z_m32) rfl rfl ?_
  refine z_evG 2 (y := z_go 2 [some (.ref 110), some (.int 0), some (.ref 112), some (.int 0), none, none, none] [] 161 (I, J, RF w)) (fun _ => rfl) ?_
  refine z_evL ?_
  have st0 : ∀ m0, m0 = 0 → ∀ qz, z_Ev E (d + 1) z_m32 2 [some (.ref 110), some (.int 0), some (.ref 112), some (.int (nI m0)), z_dj (s_wf J 0) m0, none, z_di (fun _ => 4) m0] [] 161 (I, (z_ur J 112 (z_fil (J 112) 0 m0 (s_wf J 0))), RF w) qz → z_Ev E (d + 1) z_m32 2 [some (.ref 110), some (.int 0), some (.ref 112), some (.int 0), none, none, none] [] 161 (I, J, RF w) qz := by intro m0 hm0 qz h; rw [hm0, z_fil_0] at h; subst hm0; exact h
  refine st0 0 rfl _ ?_
  refine z_loop (F := fun k => ([some (.ref 110), some (.int 0), some (.ref 112), some (.int (nI k)), z_dj (s_wf J 0) k, none, z_di (fun _ => 4) k], (I, (z_ur J 112 (z_fil (J 112) 0 k (s_wf J 0))), RF w))) (P := fun k => True) 256 trivial (fun hP => ?_) (fun k hk hP next => ?_)
  · show z_Ev E (d + 1) z_m32 2 [some (.ref 110), some (.int 0), some (.ref 112), some (.int (nI 256)), z_dj (s_wf J 0) 256, none, z_di (fun _ => 4) 256] [] 161 (I, (z_ur J 112 (z_fil (J 112) 0 256 (s_wf J 0))), RF w) _
    refine z_evG 3 (y := if (nI 256) < 256 then z_go 9 [some (.ref 110), some (.int 0), some (.ref 112), some (.int (nI 256)), z_dj (s_wf J 0) 256, none, z_di (fun _ => 4) 256] [] 161 (I, (z_ur J 112 (z_fil (J 112) 0 256 (s_wf J 0))), RF w) else z_go 60 [some (.ref 110), some (.int 0), some (.ref 112), some (.int (nI 256)), z_dj (s_wf J 0) 256, none, z_di (fun _ => 4) 256] [] 161 (I, (z_ur J 112 (z_fil (J 112) 0 256 (s_wf J 0))), RF w)) (fun _ => rfl) ?_
    refine z_evF (mt (show _ ↔ 256 < 256 from z_ltN rfl rfl (by omega) (by omega)).mp (by omega)) ?_
    refine z_evL ?_
    refine z_evG 1 (y := some (.inr (none, 161, I, (z_ur J 112 (z_fil (J 112) 0 256 (s_wf J 0))), RF w))) (fun _ => rfl) ?_
    exact z_evR rfl
  · show z_Ev E (d + 1) z_m32 2 [some (.ref 110), some (.int 0), some (.ref 112), some (.int (nI k)), z_dj (s_wf J 0) k, none, z_di (fun _ => 4) k] [] 161 (I, (z_ur J 112 (z_fil (J 112) 0 k (s_wf J 0))), RF w) _
    have nx : (True) → z_Ev E (d + 1) z_m32 2 [some (.ref 110), some (.int 0), some (.ref 112), some (.int (nI (k + 1))), z_dj (s_wf J 0) (k + 1), none, z_di (fun _ => 4) (k + 1)] [] 161 (I, (z_ur J 112 (z_fil (J 112) 0 (k + 1) (s_wf J 0))), RF w) _ := next
    refine z_evG 3 (y := if (nI k) < 256 then z_go 9 [some (.ref 110), some (.int 0), some (.ref 112), some (.int (nI k)), z_dj (s_wf J 0) k, none, z_di (fun _ => 4) k] [] 161 (I, (z_ur J 112 (z_fil (J 112) 0 k (s_wf J 0))), RF w) else z_go 60 [some (.ref 110), some (.int 0), some (.ref 112), some (.int (nI k)), z_dj (s_wf J 0) k, none, z_di (fun _ => 4) k] [] 161 (I, (z_ur J 112 (z_fil (J 112) 0 k (s_wf J 0))), RF w)) (fun _ => rfl) ?_
    refine z_evT ((show _ ↔ k < 256 from z_ltN rfl rfl (by omega) (by omega)).mpr (by omega)) ?_
    refine z_evL ?_
    refine z_evG 7 (y := if 0 < 4 then z_go 21 [some (.ref 110), some (.int 0), some (.ref 112), some (.int (nI k)), some (.long 0), none, some (.int 0)] [] 161 (I, (z_ur J 112 (z_fil (J 112) 0 k (s_wf J 0))), RF w) else z_go 49 [some (.ref 110), some (.int 0), some (.ref 112), some (.int (nI k)), some (.long 0), none, some (.int 0)] [] 161 (I, (z_ur J 112 (z_fil (J 112) 0 k (s_wf J 0))), RF w)) (fun _ => rfl) ?_
    refine z_evI (fun _ => ?_) (fun q => absurd (by decide) q)
    refine z_evL ?_
    refine z_evG 7 (y := z_ck (z_in 0 8) (z_go 32 [some (.ref 110), some (.int 0), some (.ref 112), some (.int (nI k)), some (.long 0), none, some (.int 0)] [.long (J 111 ((0 : Int32).toNatClampNeg)), .long 0] 161 (I, (z_ur J 112 (z_fil (J 112) 0 k (s_wf J 0))), RF w))) (fun _ => rfl) ?_
    refine z_evC (z_inN (k := 0) rfl (by decide) (by decide)) ?_
    refine z_evL ?_
    rw [show ((0 : Int32)).toNatClampNeg = 0 from rfl]
    refine z_evG 3 (y := z_ret (z_cl E (d + 1) 35 [.int (nI k), .int 0] (161, (I, (z_ur J 112 (z_fil (J 112) 0 k (s_wf J 0))), RF w))) 38 [some (.ref 110), some (.int 0), some (.ref 112), some (.int (nI k)), some (.long 0), none, some (.int 0)] [.long (J 111 0), .long 0]) (fun _ => rfl) ?_
    refine z_evK (v := .int (s_dr k 0)) (z' := 161) (σ' := (I, (z_ur J 112 (z_fil (J 112) 0 k (s_wf J 0))), RF w)) (x_digitS E d I (z_ur J 112 (z_fil (J 112) 0 k (s_wf J 0))) w k 0) ?_
    refine z_evG 9 (y := if 1 < 4 then z_go 21 [some (.ref 110), some (.int 0), some (.ref 112), some (.int (nI k)), some (.long (0 + ((J 111 0) * ((s_dr k 0).toInt64)))), none, some (.int 1)] [] 161 (I, (z_ur J 112 (z_fil (J 112) 0 k (s_wf J 0))), RF w) else z_go 49 [some (.ref 110), some (.int 0), some (.ref 112), some (.int (nI k)), some (.long (0 + ((J 111 0) * ((s_dr k 0).toInt64)))), none, some (.int 1)] [] 161 (I, (z_ur J 112 (z_fil (J 112) 0 k (s_wf J 0))), RF w)) (fun _ => rfl) ?_
    refine z_evI (fun _ => ?_) (fun q => absurd (by decide) q)
    refine z_evL ?_
    refine z_evG 7 (y := z_ck (z_in 1 8) (z_go 32 [some (.ref 110), some (.int 0), some (.ref 112), some (.int (nI k)), some (.long (0 + ((J 111 0) * ((s_dr k 0).toInt64)))), none, some (.int 1)] [.long (J 111 ((1 : Int32).toNatClampNeg)), .long (0 + ((J 111 0) * ((s_dr k 0).toInt64)))] 161 (I, (z_ur J 112 (z_fil (J 112) 0 k (s_wf J 0))), RF w))) (fun _ => rfl) ?_
    refine z_evC (z_inN (k := 1) rfl (by decide) (by decide)) ?_
    refine z_evL ?_
    rw [show ((1 : Int32)).toNatClampNeg = 1 from rfl]
    refine z_evG 3 (y := z_ret (z_cl E (d + 1) 35 [.int (nI k), .int 1] (161, (I, (z_ur J 112 (z_fil (J 112) 0 k (s_wf J 0))), RF w))) 38 [some (.ref 110), some (.int 0), some (.ref 112), some (.int (nI k)), some (.long (0 + ((J 111 0) * ((s_dr k 0).toInt64)))), none, some (.int 1)] [.long (J 111 1), .long (0 + ((J 111 0) * ((s_dr k 0).toInt64)))]) (fun _ => rfl) ?_
    refine z_evK (v := .int (s_dr k 1)) (z' := 161) (σ' := (I, (z_ur J 112 (z_fil (J 112) 0 k (s_wf J 0))), RF w)) (x_digitS E d I (z_ur J 112 (z_fil (J 112) 0 k (s_wf J 0))) w k 1) ?_
    refine z_evG 9 (y := if 2 < 4 then z_go 21 [some (.ref 110), some (.int 0), some (.ref 112), some (.int (nI k)), some (.long ((0 + ((J 111 0) * ((s_dr k 0).toInt64))) + ((J 111 1) * ((s_dr k 1).toInt64)))), none, some (.int 2)] [] 161 (I, (z_ur J 112 (z_fil (J 112) 0 k (s_wf J 0))), RF w) else z_go 49 [some (.ref 110), some (.int 0), some (.ref 112), some (.int (nI k)), some (.long ((0 + ((J 111 0) * ((s_dr k 0).toInt64))) + ((J 111 1) * ((s_dr k 1).toInt64)))), none, some (.int 2)] [] 161 (I, (z_ur J 112 (z_fil (J 112) 0 k (s_wf J 0))), RF w)) (fun _ => rfl) ?_
    refine z_evI (fun _ => ?_) (fun q => absurd (by decide) q)
    refine z_evL ?_
    refine z_evG 7 (y := z_ck (z_in 2 8) (z_go 32 [some (.ref 110), some (.int 0), some (.ref 112), some (.int (nI k)), some (.long ((0 + ((J 111 0) * ((s_dr k 0).toInt64))) + ((J 111 1) * ((s_dr k 1).toInt64)))), none, some (.int 2)] [.long (J 111 ((2 : Int32).toNatClampNeg)), .long ((0 + ((J 111 0) * ((s_dr k 0).toInt64))) + ((J 111 1) * ((s_dr k 1).toInt64)))] 161 (I, (z_ur J 112 (z_fil (J 112) 0 k (s_wf J 0))), RF w))) (fun _ => rfl) ?_
    refine z_evC (z_inN (k := 2) rfl (by decide) (by decide)) ?_
    refine z_evL ?_
    rw [show ((2 : Int32)).toNatClampNeg = 2 from rfl]
    refine z_evG 3 (y := z_ret (z_cl E (d + 1) 35 [.int (nI k), .int 2] (161, (I, (z_ur J 112 (z_fil (J 112) 0 k (s_wf J 0))), RF w))) 38 [some (.ref 110), some (.int 0), some (.ref 112), some (.int (nI k)), some (.long ((0 + ((J 111 0) * ((s_dr k 0).toInt64))) + ((J 111 1) * ((s_dr k 1).toInt64)))), none, some (.int 2)] [.long (J 111 2), .long ((0 + ((J 111 0) * ((s_dr k 0).toInt64))) + ((J 111 1) * ((s_dr k 1).toInt64)))]) (fun _ => rfl) ?_
    refine z_evK (v := .int (s_dr k 2)) (z' := 161) (σ' := (I, (z_ur J 112 (z_fil (J 112) 0 k (s_wf J 0))), RF w)) (x_digitS E d I (z_ur J 112 (z_fil (J 112) 0 k (s_wf J 0))) w k 2) ?_
    refine z_evG 9 (y := if 3 < 4 then z_go 21 [some (.ref 110), some (.int 0), some (.ref 112), some (.int (nI k)), some (.long (((0 + ((J 111 0) * ((s_dr k 0).toInt64))) + ((J 111 1) * ((s_dr k 1).toInt64))) + ((J 111 2) * ((s_dr k 2).toInt64)))), none, some (.int 3)] [] 161 (I, (z_ur J 112 (z_fil (J 112) 0 k (s_wf J 0))), RF w) else z_go 49 [some (.ref 110), some (.int 0), some (.ref 112), some (.int (nI k)), some (.long (((0 + ((J 111 0) * ((s_dr k 0).toInt64))) + ((J 111 1) * ((s_dr k 1).toInt64))) + ((J 111 2) * ((s_dr k 2).toInt64)))), none, some (.int 3)] [] 161 (I, (z_ur J 112 (z_fil (J 112) 0 k (s_wf J 0))), RF w)) (fun _ => rfl) ?_
    refine z_evI (fun _ => ?_) (fun q => absurd (by decide) q)
    refine z_evL ?_
    refine z_evG 7 (y := z_ck (z_in 3 8) (z_go 32 [some (.ref 110), some (.int 0), some (.ref 112), some (.int (nI k)), some (.long (((0 + ((J 111 0) * ((s_dr k 0).toInt64))) + ((J 111 1) * ((s_dr k 1).toInt64))) + ((J 111 2) * ((s_dr k 2).toInt64)))), none, some (.int 3)] [.long (J 111 ((3 : Int32).toNatClampNeg)), .long (((0 + ((J 111 0) * ((s_dr k 0).toInt64))) + ((J 111 1) * ((s_dr k 1).toInt64))) + ((J 111 2) * ((s_dr k 2).toInt64)))] 161 (I, (z_ur J 112 (z_fil (J 112) 0 k (s_wf J 0))), RF w))) (fun _ => rfl) ?_
    refine z_evC (z_inN (k := 3) rfl (by decide) (by decide)) ?_
    refine z_evL ?_
    rw [show ((3 : Int32)).toNatClampNeg = 3 from rfl]
    refine z_evG 3 (y := z_ret (z_cl E (d + 1) 35 [.int (nI k), .int 3] (161, (I, (z_ur J 112 (z_fil (J 112) 0 k (s_wf J 0))), RF w))) 38 [some (.ref 110), some (.int 0), some (.ref 112), some (.int (nI k)), some (.long (((0 + ((J 111 0) * ((s_dr k 0).toInt64))) + ((J 111 1) * ((s_dr k 1).toInt64))) + ((J 111 2) * ((s_dr k 2).toInt64)))), none, some (.int 3)] [.long (J 111 3), .long (((0 + ((J 111 0) * ((s_dr k 0).toInt64))) + ((J 111 1) * ((s_dr k 1).toInt64))) + ((J 111 2) * ((s_dr k 2).toInt64)))]) (fun _ => rfl) ?_
    refine z_evK (v := .int (s_dr k 3)) (z' := 161) (σ' := (I, (z_ur J 112 (z_fil (J 112) 0 k (s_wf J 0))), RF w)) (x_digitS E d I (z_ur J 112 (z_fil (J 112) 0 k (s_wf J 0))) w k 3) ?_
    refine z_evG 9 (y := if 4 < 4 then z_go 21 [some (.ref 110), some (.int 0), some (.ref 112), some (.int (nI k)), some (.long ((((0 + ((J 111 0) * ((s_dr k 0).toInt64))) + ((J 111 1) * ((s_dr k 1).toInt64))) + ((J 111 2) * ((s_dr k 2).toInt64))) + ((J 111 3) * ((s_dr k 3).toInt64)))), none, some (.int 4)] [] 161 (I, (z_ur J 112 (z_fil (J 112) 0 k (s_wf J 0))), RF w) else z_go 49 [some (.ref 110), some (.int 0), some (.ref 112), some (.int (nI k)), some (.long ((((0 + ((J 111 0) * ((s_dr k 0).toInt64))) + ((J 111 1) * ((s_dr k 1).toInt64))) + ((J 111 2) * ((s_dr k 2).toInt64))) + ((J 111 3) * ((s_dr k 3).toInt64)))), none, some (.int 4)] [] 161 (I, (z_ur J 112 (z_fil (J 112) 0 k (s_wf J 0))), RF w)) (fun _ => rfl) ?_
    refine z_evI (fun q => absurd q (by decide)) (fun _ => ?_)
    refine z_evL ?_
    refine z_evG 4 (y := z_ck (z_in (nI k) 256) (z_go 54 [some (.ref 110), some (.int 0), some (.ref 112), some (.int (nI k)), some (.long ((((0 + ((J 111 0) * ((s_dr k 0).toInt64))) + ((J 111 1) * ((s_dr k 1).toInt64))) + ((J 111 2) * ((s_dr k 2).toInt64))) + ((J 111 3) * ((s_dr k 3).toInt64)))), none, some (.int 4)] [] 161 (I, (z_u2 (z_ur J 112 (z_fil (J 112) 0 k (s_wf J 0))) 112 ((nI k).toNatClampNeg) ((((0 + ((J 111 0) * ((s_dr k 0).toInt64))) + ((J 111 1) * ((s_dr k 1).toInt64))) + ((J 111 2) * ((s_dr k 2).toInt64))) + ((J 111 3) * ((s_dr k 3).toInt64)))), RF w))) (fun _ => rfl) ?_
    refine z_evC (z_inN (k := k) rfl (by omega) (by decide)) ?_
    refine z_evL ?_
    rw [show ((nI k : Int32)).toNatClampNeg = k from z_natE rfl (by omega)]
    refine z_evG 2 (y := z_go 2 [some (.ref 110), some (.int 0), some (.ref 112), some (.int ((nI k) + 1)), some (.long ((((0 + ((J 111 0) * ((s_dr k 0).toInt64))) + ((J 111 1) * ((s_dr k 1).toInt64))) + ((J 111 2) * ((s_dr k 2).toInt64))) + ((J 111 3) * ((s_dr k 3).toInt64)))), none, some (.int 4)] [] 161 (I, (z_u2 (z_ur J 112 (z_fil (J 112) 0 k (s_wf J 0))) 112 k ((((0 + ((J 111 0) * ((s_dr k 0).toInt64))) + ((J 111 1) * ((s_dr k 1).toInt64))) + ((J 111 2) * ((s_dr k 2).toInt64))) + ((J 111 3) * ((s_dr k 3).toInt64)))), RF w)) (fun _ => rfl) ?_
    refine z_evL ?_
    have e := z_fil_s J 112 0 k (s_wf J 0)
    rw [Nat.zero_add] at e
    rw [nI_1 k]
    rw [← e] at nx
    exact nx trivial
set_option maxRecDepth 20000 in
/-- LampHouse$Filters.weigh -/
theorem x_weigh_4 (E : zE) (d : Nat) (I : Nat → Nat → Int32) (J : Nat → Nat → Int64) (w : Nat) : z_cl E (d + 2) 32 [.ref 110, .int 4, .ref 113] (161, I, J, RF w) = some (none, 161, I, (z_ur J 113 (z_fil (J 113) 0 256 (s_wf J 4))), RF w) := by
  refine z_call (d := d + 1) (M := z_m32) rfl rfl ?_
  refine z_evG 2 (y := z_go 2 [some (.ref 110), some (.int 4), some (.ref 113), some (.int 0), none, none, none] [] 161 (I, J, RF w)) (fun _ => rfl) ?_
  refine z_evL ?_
  have st0 : ∀ m0, m0 = 0 → ∀ qz, z_Ev E (d + 1) z_m32 2 [some (.ref 110), some (.int 4), some (.ref 113), some (.int (nI m0)), z_dj (s_wf J 4) m0, none, z_di (fun _ => 4) m0] [] 161 (I, (z_ur J 113 (z_fil (J 113) 0 m0 (s_wf J 4))), RF w) qz → z_Ev E (d + 1) z_m32 2 [some (.ref 110), some (.int 4), some (.ref 113), some (.int 0), none, none, none] [] 161 (I, J, RF w) qz := by intro m0 hm0 qz h; rw [hm0, z_fil_0] at h; subst hm0; exact h
  refine st0 0 rfl _ ?_
  refine z_loop (F := fun k => ([some (.ref 110), some (.int 4), some (.ref 113), some (.int (nI k)), z_dj (s_wf J 4) k, none, z_di (fun _ => 4) k], (I, (z_ur J 113 (z_fil (J 113) 0 k (s_wf J 4))), RF w))) (P := fun k => True) 256 trivial (fun hP => ?_) (fun k hk hP next => ?_)
  · show z_Ev E (d + 1) z_m32 2 [some (.ref 110), some (.int 4), some (.ref 113), some (.int (nI 256)), z_dj (s_wf J 4) 256, none, z_di (fun _ => 4) 256] [] 161 (I, (z_ur J 113 (z_fil (J 113) 0 256 (s_wf J 4))), RF w) _
    refine z_evG 3 (y := if (nI 256) < 256 then z_go 9 [some (.ref 110), some (.int 4), some (.ref 113), some (.int (nI 256)), z_dj (s_wf J 4) 256, none, z_di (fun _ => 4) 256] [] 161 (I, (z_ur J 113 (z_fil (J 113) 0 256 (s_wf J 4))), RF w) else z_go 60 [some (.ref 110), some (.int 4), some (.ref 113), some (.int (nI 256)), z_dj (s_wf J 4) 256, none, z_di (fun _ => 4) 256] [] 161 (I, (z_ur J 113 (z_fil (J 113) 0 256 (s_wf J 4))), RF w)) (fun _ => rfl) ?_
    refine z_evF (mt (show _ ↔ 256 < 256 from z_ltN rfl rfl (by omega) (by omega)).mp (by omega)) ?_
    refine z_evL ?_
    refine z_evG 1 (y := some (.inr (none, 161, I, (z_ur J 113 (z_fil (J 113) 0 256 (s_wf J 4))), RF w))) (fun _ => rfl) ?_
    exact z_evR rfl
  · show z_Ev E (d + 1) z_m32 2 [some (.ref 110), some (.int 4), some (.ref 113), some (.int (nI k)), z_dj (s_wf J 4) k, none, z_di (fun _ => 4) k] [] 161 (I, (z_ur J 113 (z_fil (J 113) 0 k (s_wf J 4))), RF w) _
    have nx : (True) → z_Ev E (d + 1) z_m32 2 [some (.ref 110), some (.int 4), some (.ref 113), some (.int (nI (k + 1))), z_dj (s_wf J 4) (k + 1), none, z_di (fun _ => 4) (k + 1)] [] 161 (I, (z_ur J 113 (z_fil (J 113) 0 (k + 1) (s_wf J 4))), RF w) _ := next
    refine z_evG 3 (y := if (nI k) < 256 then z_go 9 [some (.ref 110), some (.int 4), some (.ref 113), some (.int (nI k)), z_dj (s_wf J 4) k, none, z_di (fun _ => 4) k] [] 161 (I, (z_ur J 113 (z_fil (J 113) 0 k (s_wf J 4))), RF w) else z_go 60 [some (.ref 110), some (.int 4), some (.ref 113), some (.int (nI k)), z_dj (s_wf J 4) k, none, z_di (fun _ => 4) k] [] 161 (I, (z_ur J 113 (z_fil (J 113) 0 k (s_wf J 4))), RF w)) (fun _ => rfl) ?_
    refine z_evT ((show _ ↔ k < 256 from z_ltN rfl rfl (by omega) (by omega)).mpr (by omega)) ?_
    refine z_evL ?_
    refine z_evG 7 (y := if 0 < 4 then z_go 21 [some (.ref 110), some (.int 4), some (.ref 113), some (.int (nI k)), some (.long 0), none, some (.int 0)] [] 161 (I, (z_ur J 113 (z_fil (J 113) 0 k (s_wf J 4))), RF w) else z_go 49 [some (.ref 110), some (.int 4), some (.ref 113), some (.int (nI k)), some (.long 0), none, some (.int 0)] [] 161 (I, (z_ur J 113 (z_fil (J 113) 0 k (s_wf J 4))), RF w)) (fun _ => rfl) ?_
    refine z_evI (fun _ => ?_) (fun q => absurd (by decide) q)
    refine z_evL ?_
    refine z_evG 7 (y := z_ck (z_in 4 8) (z_go 32 [some (.ref 110), some (.int 4), some (.ref 113), some (.int (nI k)), some (.long 0), none, some (.int 0)] [.long (J 111 ((4 : Int32).toNatClampNeg)), .long 0] 161 (I, (z_ur J 113 (z_fil (J 113) 0 k (s_wf J 4))), RF w))) (fun _ => rfl) ?_
    refine z_evC (z_inN (k := 4) rfl (by decide) (by decide)) ?_
    refine z_evL ?_
    rw [show ((4 : Int32)).toNatClampNeg = 4 from rfl]
    refine z_evG 3 (y := z_ret (z_cl E (d + 1) 35 [.int (nI k), .int 0] (161, (I, (z_ur J 113 (z_fil (J 113) 0 k (s_wf J 4))), RF w))) 38 [some (.ref 110), some (.int 4), some (.ref 113), some (.int (nI k)), some (.long 0), none, some (.int 0)] [.long (J 111 4), .long 0]) (fun _ => rfl) ?_
    refine z_evK (v := .int (s_dr k 0)) (z' := 161) (σ' := (I, (z_ur J 113 (z_fil (J 113) 0 k (s_wf J 4))), RF w)) (x_digitS E d I (z_ur J 113 (z_fil (J 113) 0 k (s_wf J 4))) w k 0) ?_
    refine z_evG 9 (y := if 1 < 4 then z_go 21 [some (.ref 110), some (.int 4), some (.ref 113), some (.int (nI k)), some (.long (0 + ((J 111 4) * ((s_dr k 0).toInt64)))), none, some (.int 1)] [] 161 (I, (z_ur J 113 (z_fil (J 113) 0 k (s_wf J 4))), RF w) else z_go 49 [some (.ref 110), some (.int 4), some (.ref 113), some (.int (nI k)), some (.long (0 + ((J 111 4) * ((s_dr k 0).toInt64)))), none, some (.int 1)] [] 161 (I, (z_ur J 113 (z_fil (J 113) 0 k (s_wf J 4))), RF w)) (fun _ => rfl) ?_
    refine z_evI (fun _ => ?_) (fun q => absurd (by decide) q)
    refine z_evL ?_
    refine z_evG 7 (y := z_ck (z_in 5 8) (z_go 32 [some (.ref 110), some (.int 4), some (.ref 113), some (.int (nI k)), some (.long (0 + ((J 111 4) * ((s_dr k 0).toInt64)))), none, some (.int 1)] [.long (J 111 ((5 : Int32).toNatClampNeg)), .long (0 + ((J 111 4) * ((s_dr k 0).toInt64)))] 161 (I, (z_ur J 113 (z_fil (J 113) 0 k (s_wf J 4))), RF w))) (fun _ => rfl) ?_
    refine z_evC (z_inN (k := 5) rfl (by decide) (by decide)) ?_
    refine z_evL ?_
    rw [show ((5 : Int32)).toNatClampNeg = 5 from rfl]
    refine z_evG 3 (y := z_ret (z_cl E (d + 1) 35 [.int (nI k), .int 1] (161, (I, (z_ur J 113 (z_fil (J 113) 0 k (s_wf J 4))), RF w))) 38 [some (.ref 110), some (.int 4), some (.ref 113), some (.int (nI k)), some (.long (0 + ((J 111 4) * ((s_dr k 0).toInt64)))), none, some (.int 1)] [.long (J 111 5), .long (0 + ((J 111 4) * ((s_dr k 0).toInt64)))]) (fun _ => rfl) ?_
    refine z_evK (v := .int (s_dr k 1)) (z' := 161) (σ' := (I, (z_ur J 113 (z_fil (J 113) 0 k (s_wf J 4))), RF w)) (x_digitS E d I (z_ur J 113 (z_fil (J 113) 0 k (s_wf J 4))) w k 1) ?_
    refine z_evG 9 (y := if 2 < 4 then z_go 21 [some (.ref 110), some (.int 4), some (.ref 113), some (.int (nI k)), some (.long ((0 + ((J 111 4) * ((s_dr k 0).toInt64))) + ((J 111 5) * ((s_dr k 1).toInt64)))), none, some (.int 2)] [] 161 (I, (z_ur J 113 (z_fil (J 113) 0 k (s_wf J 4))), RF w) else z_go 49 [some (.ref 110), some (.int 4), some (.ref 113), some (.int (nI k)), some (.long ((0 + ((J 111 4) * ((s_dr k 0).toInt64))) + ((J 111 5) * ((s_dr k 1).toInt64)))), none, some (.int 2)] [] 161 (I, (z_ur J 113 (z_fil (J 113) 0 k (s_wf J 4))), RF w)) (fun _ => rfl) ?_
    refine z_evI (fun _ => ?_) (fun q => absurd (by decide) q)
    refine z_evL ?_
    refine z_evG 7 (y := z_ck (z_in 6 8) (z_go 32 [some (.ref 110), some (.int 4), some (.ref 113), some (.int (nI k)), some (.long ((0 + ((J 111 4) * ((s_dr k 0).toInt64))) + ((J 111 5) * ((s_dr k 1).toInt64)))), none, some (.int 2)] [.long (J 111 ((6 : Int32).toNatClampNeg)), .long ((0 + ((J 111 4) * ((s_dr k 0).toInt64))) + ((J 111 5) * ((s_dr k 1).toInt64)))] 161 (I, (z_ur J 113 (z_fil (J 113) 0 k (s_wf J 4))), RF w))) (fun _ => rfl) ?_
    refine z_evC (z_inN (k := 6) rfl (by decide) (by decide)) ?_
    refine z_evL ?_
    rw [show ((6 : Int32)).toNatClampNeg = 6 from rfl]
    refine z_evG 3 (y := z_ret (z_cl E (d + 1) 35 [.int (nI k), .int 2] (161, (I, (z_ur J 113 (z_fil (J 113) 0 k (s_wf J 4))), RF w))) 38 [some (.ref 110), some (.int 4), some (.ref 113), some (.int (nI k)), some (.long ((0 + ((J 111 4) * ((s_dr k 0).toInt64))) + ((J 111 5) * ((s_dr k 1).toInt64)))), none, some (.int 2)] [.long (J 111 6), .long ((0 + ((J 111 4) * ((s_dr k 0).toInt64))) + ((J 111 5) * ((s_dr k 1).toInt64)))]) (fun _ => rfl) ?_
    refine z_evK (v := .int (s_dr k 2)) (z' := 161) (σ' := (I, (z_ur J 113 (z_fil (J 113) 0 k (s_wf J 4))), RF w)) (x_digitS E d I (z_ur J 113 (z_fil (J 113) 0 k (s_wf J 4))) w k 2) ?_
    refine z_evG 9 (y := if 3 < 4 then z_go 21 [some (.ref 110), some (.int 4), some (.ref 113), some (.int (nI k)), some (.long (((0 + ((J 111 4) * ((s_dr k 0).toInt64))) + ((J 111 5) * ((s_dr k 1).toInt64))) + ((J 111 6) * ((s_dr k 2).toInt64)))), none, some (.int 3)] [] 161 (I, (z_ur J 113 (z_fil (J 113) 0 k (s_wf J 4))), RF w) else z_go 49 [some (.ref 110), some (.int 4), some (.ref 113), some (.int (nI k)), some (.long (((0 + ((J 111 4) * ((s_dr k 0).toInt64))) + ((J 111 5) * ((s_dr k 1).toInt64))) + ((J 111 6) * ((s_dr k 2).toInt64)))), none, some (.int 3)] [] 161 (I, (z_ur J 113 (z_fil (J 113) 0 k (s_wf J 4))), RF w)) (fun _ => rfl) ?_
    refine z_evI (fun _ => ?_) (fun q => absurd (by decide) q)
    refine z_evL ?_
    refine z_evG 7 (y := z_ck (z_in 7 8) (z_go 32 [some (.ref 110), some (.int 4), some (.ref 113), some (.int (nI k)), some (.long (((0 + ((J 111 4) * ((s_dr k 0).toInt64))) + ((J 111 5) * ((s_dr k 1).toInt64))) + ((J 111 6) * ((s_dr k 2).toInt64)))), none, some (.int 3)] [.long (J 111 ((7 : Int32).toNatClampNeg)), .long (((0 + ((J 111 4) * ((s_dr k 0).toInt64))) + ((J 111 5) * ((s_dr k 1).toInt64))) + ((J 111 6) * ((s_dr k 2).toInt64)))] 161 (I, (z_ur J 113 (z_fil (J 113) 0 k (s_wf J 4))), RF w))) (fun _ => rfl) ?_
    refine z_evC (z_inN (k := 7) rfl (by decide) (by decide)) ?_
    refine z_evL ?_
    rw [show ((7 : Int32)).toNatClampNeg = 7 from rfl]
    refine z_evG 3 (y := z_ret (z_cl E (d + 1) 35 [.int (nI k), .int 3] (161, (I, (z_ur J 113 (z_fil (J 113) 0 k (s_wf J 4))), RF w))) 38 [some (.ref 110), some (.int 4), some (.ref 113), some (.int (nI k)), some (.long (((0 + ((J 111 4) * ((s_dr k 0).toInt64))) + ((J 111 5) * ((s_dr k 1).toInt64))) + ((J 111 6) * ((s_dr k 2).toInt64)))), none, some (.int 3)] [.long (J 111 7), .long (((0 + ((J 111 4) * ((s_dr k 0).toInt64))) + ((J 111 5) * ((s_dr k 1).toInt64))) + ((J 111 6) * ((s_dr k 2).toInt64)))]) (fun _ => rfl) ?_
    refine z_evK (v := .int (s_dr k 3)) (z' := 161) (σ' := (I, (z_ur J 113 (z_fil (J 113) 0 k (s_wf J 4))), RF w)) (x_digitS E d I (z_ur J 113 (z_fil (J 113) 0 k (s_wf J 4))) w k 3) ?_
    refine z_evG 9 (y := if 4 < 4 then z_go 21 [some (.ref 110), some (.int 4), some (.ref 113), some (.int (nI k)), some (.long ((((0 + ((J 111 4) * ((s_dr k 0).toInt64))) + ((J 111 5) * ((s_dr k 1).toInt64))) + ((J 111 6) * ((s_dr k 2).toInt64))) + ((J 111 7) * ((s_dr k 3).toInt64)))), none, some (.int 4)] [] 161 (I, (z_ur J 113 (z_fil (J 113) 0 k (s_wf J 4))), RF w) else z_go 49 [some (.ref 110), some (.int 4), some (.ref 113), some (.int (nI k)), some (.long ((((0 + ((J 111 4) * ((s_dr k 0).toInt64))) + ((J 111 5) * ((s_dr k 1).toInt64))) + ((J 111 6) * ((s_dr k 2).toInt64))) + ((J 111 7) * ((s_dr k 3).toInt64)))), none, some (.int 4)] [] 161 (I, (z_ur J 113 (z_fil (J 113) 0 k (s_wf J 4))), RF w)) (fun _ => rfl) ?_
    refine z_evI (fun q => absurd q (by decide)) (fun _ => ?_)
    refine z_evL ?_
    refine z_evG 4 (y := z_ck (z_in (nI k) 256) (z_go 54 [some (.ref 110), some (.int 4), some (.ref 113), some (.int (nI k)), some (.long ((((0 + ((J 111 4) * ((s_dr k 0).toInt64))) + ((J 111 5) * ((s_dr k 1).toInt64))) + ((J 111 6) * ((s_dr k 2).toInt64))) + ((J 111 7) * ((s_dr k 3).toInt64)))), none, some (.int 4)] [] 161 (I, (z_u2 (z_ur J 113 (z_fil (J 113) 0 k (s_wf J 4))) 113 ((nI k).toNatClampNeg) ((((0 + ((J 111 4) * ((s_dr k 0).toInt64))) + ((J 111 5) * ((s_dr k 1).toInt64))) + ((J 111 6) * ((s_dr k 2).toInt64))) + ((J 111 7) * ((s_dr k 3).toInt64)))), RF w))) (fun _ => rfl) ?_
    refine z_evC (z_inN (k := k) rfl (by omega) (by decide)) ?_
    refine z_evL ?_
    rw [show ((nI k : Int32)).toNatClampNeg = k from z_natE rfl (by omega)]
    refine z_evG 2 (y := z_go 2 [some (.ref 110), some (.int 4), some (.ref 113), some (.int ((nI k) + 1)), some (.long ((((0 + ((J 111 4) * ((s_dr k 0).toInt64))) + ((J 111 5) * ((s_dr k 1).toInt64))) + ((J 111 6) * ((s_dr k 2).toInt64))) + ((J 111 7) * ((s_dr k 3).toInt64)))), none, some (.int 4)] [] 161 (I, (z_u2 (z_ur J 113 (z_fil (J 113) 0 k (s_wf J 4))) 113 k ((((0 + ((J 111 4) * ((s_dr k 0).toInt64))) + ((J 111 5) * ((s_dr k 1).toInt64))) + ((J 111 6) * ((s_dr k 2).toInt64))) + ((J 111 7) * ((s_dr k 3).toInt64)))), RF w)) (fun _ => rfl) ?_
    refine z_evL ?_
    have e := z_fil_s J 113 0 k (s_wf J 4)
    rw [Nat.zero_add] at e
    rw [nI_1 k]
    rw [← e] at nx
    exact nx trivial
set_option maxRecDepth 20000 in
/-- LampHouse$Filters.tryWith -/
theorem x_tryWith (E : zE) (d : Nat) (I : Nat → Nat → Int32) (J : Nat → Nat → Int64) (w : Nat) (v : Int64) : z_cl E (d + 1) 33 [.ref 110, .long v] (161, I, J, RF w) = some (none, 161, (z_u2 (z_ur I 114 (s_mk (I 114) (fun j => decide (J 113 j = v)) 256)) 110 8 (I 110 8 + nI (s_ct (fun j => decide (J 113 j = v)) 256))), J, RF w) := by
  refine z_call (d := d + 0) (M := z_m33) rfl rfl ?_
  refine z_evG 2 (y := z_go 2 [some (.ref 110), some (.long v), none, some (.int 0)] [] 161 (I, J, RF w)) (fun _ => rfl) ?_
  refine z_evL ?_
  have st0 : ∀ m0, m0 = 0 → ∀ qz, z_Ev E d z_m33 2 [some (.ref 110), some (.long v), none, some (.int (nI m0))] [] 161 ((z_u2 (z_ur I 114 (s_mk (I 114) (fun j => decide (J 113 j = v)) m0)) 110 8 (I 110 8 + nI (s_ct (fun j => decide (J 113 j = v)) m0))), J, RF w) qz → z_Ev E d z_m33 2 [some (.ref 110), some (.long v), none, some (.int 0)] [] 161 (I, J, RF w) qz := by intro m0 hm0 qz h; rw [hm0, s_mk_0] at h; subst hm0; exact h
  refine st0 0 rfl _ ?_
  refine z_loop (F := fun k => ([some (.ref 110), some (.long v), none, some (.int (nI k))], ((z_u2 (z_ur I 114 (s_mk (I 114) (fun j => decide (J 113 j = v)) k)) 110 8 (I 110 8 + nI (s_ct (fun j => decide (J 113 j = v)) k))), J, RF w))) (P := fun k => True) 256 trivial (fun hP => ?_) (fun k hk hP next => ?_)
  · show z_Ev E d z_m33 2 [some (.ref 110), some (.long v), none, some (.int (nI 256))] [] 161 ((z_u2 (z_ur I 114 (s_mk (I 114) (fun j => decide (J 113 j = v)) 256)) 110 8 (I 110 8 + nI (s_ct (fun j => decide (J 113 j = v)) 256))), J, RF w) _
    refine z_evG 3 (y := if (nI 256) < 256 then z_go 9 [some (.ref 110), some (.long v), none, some (.int (nI 256))] [] 161 ((z_u2 (z_ur I 114 (s_mk (I 114) (fun j => decide (J 113 j = v)) 256)) 110 8 (I 110 8 + nI (s_ct (fun j => decide (J 113 j = v)) 256))), J, RF w) else z_go 43 [some (.ref 110), some (.long v), none, some (.int (nI 256))] [] 161 ((z_u2 (z_ur I 114 (s_mk (I 114) (fun j => decide (J 113 j = v)) 256)) 110 8 (I 110 8 + nI (s_ct (fun j => decide (J 113 j = v)) 256))), J, RF w)) (fun _ => rfl) ?_
    refine z_evF (mt (show _ ↔ 256 < 256 from z_ltN rfl rfl (by omega) (by omega)).mp (by omega)) ?_
    refine z_evL ?_
    refine z_evG 1 (y := some (.inr (none, 161, (z_u2 (z_ur I 114 (s_mk (I 114) (fun j => decide (J 113 j = v)) 256)) 110 8 (I 110 8 + nI (s_ct (fun j => decide (J 113 j = v)) 256))), J, RF w))) (fun _ => rfl) ?_
    exact z_evR rfl
  · show z_Ev E d z_m33 2 [some (.ref 110), some (.long v), none, some (.int (nI k))] [] 161 ((z_u2 (z_ur I 114 (s_mk (I 114) (fun j => decide (J 113 j = v)) k)) 110 8 (I 110 8 + nI (s_ct (fun j => decide (J 113 j = v)) k))), J, RF w) _
    have nx : (True) → z_Ev E d z_m33 2 [some (.ref 110), some (.long v), none, some (.int (nI (k + 1)))] [] 161 ((z_u2 (z_ur I 114 (s_mk (I 114) (fun j => decide (J 113 j = v)) (k + 1))) 110 8 (I 110 8 + nI (s_ct (fun j => decide (J 113 j = v)) (k + 1)))), J, RF w) _ := next
    refine z_evG 3 (y := if (nI k) < 256 then z_go 9 [some (.ref 110), some (.long v), none, some (.int (nI k))] [] 161 ((z_u2 (z_ur I 114 (s_mk (I 114) (fun j => decide (J 113 j = v)) k)) 110 8 (I 110 8 + nI (s_ct (fun j => decide (J 113 j = v)) k))), J, RF w) else z_go 43 [some (.ref 110), some (.long v), none, some (.int (nI k))] [] 161 ((z_u2 (z_ur I 114 (s_mk (I 114) (fun j => decide (J 113 j = v)) k)) 110 8 (I 110 8 + nI (s_ct (fun j => decide (J 113 j = v)) k))), J, RF w)) (fun _ => rfl) ?_
    refine z_evT ((show _ ↔ k < 256 from z_ltN rfl rfl (by omega) (by omega)).mpr (by omega)) ?_
    refine z_evL ?_
    refine z_evG 4 (y := z_ck (z_in (nI k) 256) (z_go 15 [some (.ref 110), some (.long v), none, some (.int (nI k))] [.long (J 113 ((nI k).toNatClampNeg))] 161 ((z_u2 (z_ur I 114 (s_mk (I 114) (fun j => decide (J 113 j = v)) k)) 110 8 (I 110 8 + nI (s_ct (fun j => decide (J 113 j = v)) k))), J, RF w))) (fun _ => rfl) ?_
    refine z_evC (z_inN (k := k) rfl (by omega) (by decide)) ?_
    refine z_evL ?_
    rw [show ((nI k : Int32)).toNatClampNeg = k from z_natE rfl (by omega)]
    refine z_evG 3 (y := if (lg_cmp (J 113 k) v) = 0 then z_go 20 [some (.ref 110), some (.long v), none, some (.int (nI k))] [] 161 ((z_u2 (z_ur I 114 (s_mk (I 114) (fun j => decide (J 113 j = v)) k)) 110 8 (I 110 8 + nI (s_ct (fun j => decide (J 113 j = v)) k))), J, RF w) else z_go 37 [some (.ref 110), some (.long v), none, some (.int (nI k))] [] 161 ((z_u2 (z_ur I 114 (s_mk (I 114) (fun j => decide (J 113 j = v)) k)) 110 8 (I 110 8 + nI (s_ct (fun j => decide (J 113 j = v)) k))), J, RF w)) (fun _ => rfl) ?_
    refine z_evIN (lg_cmp_eq _ _) (fun h3 => ?_) (fun h3 => ?_)
    · refine z_evL ?_
      refine z_evG 11 (y := z_ck (z_in (nI k) 256 && z_b01 1) (z_go 37 [some (.ref 110), some (.long v), none, some (.int (nI k))] [] 161 ((z_u2 (z_u2 (z_u2 (z_ur I 114 (s_mk (I 114) (fun j => decide (J 113 j = v)) k)) 110 8 (I 110 8 + nI (s_ct (fun j => decide (J 113 j = v)) k))) 110 8 ((I 110 8 + nI (s_ct (fun j => decide (J 113 j = v)) k)) + 1)) 114 ((nI k).toNatClampNeg) 1), J, RF w))) (fun _ => rfl) ?_
      refine z_evC (by rw [z_inN (k := k) rfl (by omega) (by decide)]; rfl) ?_
      refine z_evL ?_
      rw [show ((nI k : Int32)).toNatClampNeg = k from z_natE rfl (by omega)]
      refine z_evG 2 (y := z_go 2 [some (.ref 110), some (.long v), none, some (.int ((nI k) + 1))] [] 161 ((z_u2 (z_u2 (z_u2 (z_ur I 114 (s_mk (I 114) (fun j => decide (J 113 j = v)) k)) 110 8 (I 110 8 + nI (s_ct (fun j => decide (J 113 j = v)) k))) 110 8 ((I 110 8 + nI (s_ct (fun j => decide (J 113 j = v)) k)) + 1)) 114 k 1), J, RF w)) (fun _ => rfl) ?_
      refine z_evL ?_
      have hb : (fun j => decide (J 113 j = v)) k = true := decide_eq_true h3
      rw [nI_1 k]
      have e := s_mk_t I (F := (fun j => decide (J 113 j = v))) hb
      rw [← e] at nx
      exact nx trivial
    · refine z_evL ?_
      refine z_evG 2 (y := z_go 2 [some (.ref 110), some (.long v), none, some (.int ((nI k) + 1))] [] 161 ((z_u2 (z_ur I 114 (s_mk (I 114) (fun j => decide (J 113 j = v)) k)) 110 8 (I 110 8 + nI (s_ct (fun j => decide (J 113 j = v)) k))), J, RF w)) (fun _ => rfl) ?_
      refine z_evL ?_
      have hb : (fun j => decide (J 113 j = v)) k = false := decide_eq_false h3
      rw [nI_1 k]
      rw [s_mk_f I (F := (fun j => decide (J 113 j = v))) hb] at nx
      exact nx trivial
set_option maxRecDepth 20000 in
theorem x_nt_s (E : zE) (d : Nat) (I : Nat → Nat → Int32) (J : Nat → Nat → Int64) (w : Nat) {r : zR} (h f i : Nat) (x4 : Option Value) (hf : f ≤ 4) (hi : i < 4) (hz : z_Ev E (d + 1) z_m34 2 [some (.ref 110), some (.int (nI h)), some (.int (nI f)), some (.int (nI (i + 1))), some (.int (s_dr h (nI i)))] [] 161 ((z_u2 (z_u2 I 115 (f + i) (if (s_dr h (nI i)) < (I 115 (f + i)) then (s_dr h (nI i)) else (I 115 (f + i)))) 116 (f + i) (if (I 116 (f + i)) < (s_dr h (nI i)) then (s_dr h (nI i)) else (I 116 (f + i)))), J, RF w) r) : z_Ev E (d + 1) z_m34 2 [some (.ref 110), some (.int (nI h)), some (.int (nI f)), some (.int (nI i)), x4] [] 161 (I, J, RF w) r := by
  refine z_evG 3 (y := if (nI i) < 4 then z_go 7 [some (.ref 110), some (.int (nI h)), some (.int (nI f)), some (.int (nI i)), x4] [] 161 (I, J, RF w) else z_go 62 [some (.ref 110), some (.int (nI h)), some (.int (nI f)), some (.int (nI i)), x4] [] 161 (I, J, RF w)) (fun _ => rfl) ?_
  refine z_evT ((show _ ↔ i < 4 from z_ltN rfl rfl (by omega) (by omega)).mpr hi) ?_
  refine z_evL ?_
  refine z_evG 3 (y := z_ret (z_cl E (d + 1) 35 [.int (nI h), .int (nI i)] (161, (I, J, RF w))) 12 [some (.ref 110), some (.int (nI h)), some (.int (nI f)), some (.int (nI i)), x4] []) (fun _ => rfl) ?_
  refine z_evK (v := .int (s_dr h (nI i))) (z' := 161) (σ' := (I, J, RF w)) (x_digitS E d I J w h (nI i)) ?_
  refine z_evG 12 (y := z_ild (z_ia E 161 (I, J, RF w) 115) ((nI f) + (nI i)) fun vv => z_go 29 [some (.ref 110), some (.int (nI h)), some (.int (nI f)), some (.int (nI i)), some (.int (s_dr h (nI i)))] [.int vv, .int ((nI f) + (nI i)), .ref 115] 161 (I, J, RF w)) (fun _ => rfl) ?_
  refine z_evBn (N := 8) (f := (I 115)) (k := (f + i)) rfl (z_addE rfl rfl) (by omega) ?_
  refine z_evL ?_
  refine z_evG 3 (y := z_ck (z_in ((nI f) + (nI i)) 8) (z_go 35 [some (.ref 110), some (.int (nI h)), some (.int (nI f)), some (.int (nI i)), some (.int (s_dr h (nI i)))] [] 161 ((z_u2 I 115 (((nI f) + (nI i)).toNatClampNeg) (if (s_dr h (nI i)) < (I 115 (f + i)) then (s_dr h (nI i)) else (I 115 (f + i)))), J, RF w))) (fun _ => rfl) ?_
  refine z_evC (z_inN (k := f + i) (z_addE rfl rfl) (by omega) (by decide)) ?_
  refine z_evL ?_
  rw [show (((nI f) + (nI i) : Int32)).toNatClampNeg = f + i from z_natE (z_addE rfl rfl) (by omega)]
  refine z_evG 11 (y := z_ild (z_ia E 161 ((z_u2 I 115 (f + i) (if (s_dr h (nI i)) < (I 115 (f + i)) then (s_dr h (nI i)) else (I 115 (f + i)))), J, RF w) 116) ((nI f) + (nI i)) fun vv => z_go 50 [some (.ref 110), some (.int (nI h)), some (.int (nI f)), some (.int (nI i)), some (.int (s_dr h (nI i)))] [.int vv, .int ((nI f) + (nI i)), .ref 116] 161 ((z_u2 I 115 (f + i) (if (s_dr h (nI i)) < (I 115 (f + i)) then (s_dr h (nI i)) else (I 115 (f + i)))), J, RF w)) (fun _ => rfl) ?_
  refine z_evBn (N := 8) (f := ((z_u2 I 115 (f + i) (if (s_dr h (nI i)) < (I 115 (f + i)) then (s_dr h (nI i)) else (I 115 (f + i)))) 116)) (k := (f + i)) rfl (z_addE rfl rfl) (by omega) ?_
  refine z_evL ?_
  refine z_evG 3 (y := z_ck (z_in ((nI f) + (nI i)) 8) (z_go 56 [some (.ref 110), some (.int (nI h)), some (.int (nI f)), some (.int (nI i)), some (.int (s_dr h (nI i)))] [] 161 ((z_u2 (z_u2 I 115 (f + i) (if (s_dr h (nI i)) < (I 115 (f + i)) then (s_dr h (nI i)) else (I 115 (f + i)))) 116 (((nI f) + (nI i)).toNatClampNeg) (if (I 116 (f + i)) < (s_dr h (nI i)) then (s_dr h (nI i)) else (I 116 (f + i)))), J, RF w))) (fun _ => rfl) ?_
  refine z_evC (z_inN (k := f + i) (z_addE rfl rfl) (by omega) (by decide)) ?_
  refine z_evL ?_
  rw [show (((nI f) + (nI i) : Int32)).toNatClampNeg = f + i from z_natE (z_addE rfl rfl) (by omega)]
  refine z_evG 2 (y := z_go 2 [some (.ref 110), some (.int (nI h)), some (.int (nI f)), some (.int ((nI i) + 1)), some (.int (s_dr h (nI i)))] [] 161 ((z_u2 (z_u2 I 115 (f + i) (if (s_dr h (nI i)) < (I 115 (f + i)) then (s_dr h (nI i)) else (I 115 (f + i)))) 116 (f + i) (if (I 116 (f + i)) < (s_dr h (nI i)) then (s_dr h (nI i)) else (I 116 (f + i)))), J, RF w)) (fun _ => rfl) ?_
  refine z_evL ?_
  rw [nI_1 i]
  exact hz
set_option maxRecDepth 20000 in
theorem x_nt_e (E : zE) (d : Nat) (I : Nat → Nat → Int32) (J : Nat → Nat → Int64) (w : Nat) (h f i : Nat) (x4 : Option Value) (hi : i = 4) : z_Ev E (d + 1) z_m34 2 [some (.ref 110), some (.int (nI h)), some (.int (nI f)), some (.int (nI i)), x4] [] 161 (I, J, RF w) (none, 161, I, J, RF w) := by
  refine z_evG 3 (y := if (nI i) < 4 then z_go 7 [some (.ref 110), some (.int (nI h)), some (.int (nI f)), some (.int (nI i)), x4] [] 161 (I, J, RF w) else z_go 62 [some (.ref 110), some (.int (nI h)), some (.int (nI f)), some (.int (nI i)), x4] [] 161 (I, J, RF w)) (fun _ => rfl) ?_
  refine z_evF (mt (show _ ↔ i < 4 from z_ltN rfl rfl (by omega) (by omega)).mp (by omega)) ?_
  refine z_evL ?_
  refine z_evG 1 (y := some (.inr (none, 161, I, J, RF w))) (fun _ => rfl) ?_
  exact z_evR rfl
set_option maxRecDepth 20000 in
theorem x_nt_a (E : zE) (d : Nat) (I : Nat → Nat → Int32) (J : Nat → Nat → Int64) (w : Nat) {r : zR} (h f : Nat) (hz : z_Ev E (d + 1) z_m34 2 [some (.ref 110), some (.int (nI h)), some (.int (nI f)), some (.int 0), none] [] 161 (I, J, RF w) r) : z_Ev E (d + 1) z_m34 0 [some (.ref 110), some (.int (nI h)), some (.int (nI f)), none, none] [] 161 (I, J, RF w) r := by
  refine z_evG 2 (y := z_go 2 [some (.ref 110), some (.int (nI h)), some (.int (nI f)), some (.int 0), none] [] 161 (I, J, RF w)) (fun _ => rfl) ?_
  refine z_evL ?_
  exact hz
set_option maxRecDepth 20000 in
/-- java/util/Arrays.fill -/
theorem x_fill8 (E : zE) (d : Nat) (I : Nat → Nat → Int32) (J : Nat → Nat → Int64) (w : Nat) (a : Nat) (v : Int32) (ha : z_A a 8) : z_cl E (d + 1) 282 [.ref a, .int v] (161, I, J, RF w) = some (none, 161, (z_ur I a (z_fil (I a) 0 8 (fun _ => v))), J, RF w) := by
  refine z_call (d := d + 0) (M := z_m282) rfl rfl ?_
  refine z_evG 4 (y := match z_al E 161 (I, J, RF w) a with | some nn => z_go 4 [some (.ref a), some (.int v), some (.int 0), none] [.int (Int32.ofNat nn)] 161 (I, J, RF w) | none => none) (fun _ => rfl) ?_
  rw [z_alA ha]
  refine z_evL ?_
  refine z_evG 1 (y := z_go 5 [some (.ref a), some (.int v), some (.int 0), some (.int (nI 8))] [] 161 (I, J, RF w)) (fun _ => rfl) ?_
  refine z_evL ?_
  have st0 : ∀ m0, m0 = 0 → ∀ qz, z_Ev E d z_m282 5 [some (.ref a), some (.int v), some (.int (nI m0)), some (.int (nI 8))] [] 161 ((z_ur I a (z_fil (I a) 0 m0 (fun _ => v))), J, RF w) qz → z_Ev E d z_m282 5 [some (.ref a), some (.int v), some (.int 0), some (.int (nI 8))] [] 161 (I, J, RF w) qz := by intro m0 hm0 qz h; rw [hm0, z_fil_0] at h; subst hm0; exact h
  refine st0 0 rfl _ ?_
  refine z_loop (F := fun k => ([some (.ref a), some (.int v), some (.int (nI k)), some (.int (nI 8))], ((z_ur I a (z_fil (I a) 0 k (fun _ => v))), J, RF w))) (P := fun k => True) 8 trivial (fun hP => ?_) (fun k hk hP next => ?_)
  · show z_Ev E d z_m282 5 [some (.ref a), some (.int v), some (.int (nI 8)), some (.int (nI 8))] [] 161 ((z_ur I a (z_fil (I a) 0 8 (fun _ => v))), J, RF w) _
    refine z_evG 3 (y := if (nI 8) < (nI 8) then z_go 10 [some (.ref a), some (.int v), some (.int (nI 8)), some (.int (nI 8))] [] 161 ((z_ur I a (z_fil (I a) 0 8 (fun _ => v))), J, RF w) else z_go 20 [some (.ref a), some (.int v), some (.int (nI 8)), some (.int (nI 8))] [] 161 ((z_ur I a (z_fil (I a) 0 8 (fun _ => v))), J, RF w)) (fun _ => rfl) ?_
    refine z_evF (mt (show _ ↔ 8 < 8 from z_ltN rfl rfl (by omega) (by omega)).mp (by omega)) ?_
    refine z_evL ?_
    refine z_evG 1 (y := some (.inr (none, 161, (z_ur I a (z_fil (I a) 0 8 (fun _ => v))), J, RF w))) (fun _ => rfl) ?_
    exact z_evR rfl
  · show z_Ev E d z_m282 5 [some (.ref a), some (.int v), some (.int (nI k)), some (.int (nI 8))] [] 161 ((z_ur I a (z_fil (I a) 0 k (fun _ => v))), J, RF w) _
    have nx : (True) → z_Ev E d z_m282 5 [some (.ref a), some (.int v), some (.int (nI (k + 1))), some (.int (nI 8))] [] 161 ((z_ur I a (z_fil (I a) 0 (k + 1) (fun _ => v))), J, RF w) _ := next
    refine z_evG 3 (y := if (nI k) < (nI 8) then z_go 10 [some (.ref a), some (.int v), some (.int (nI k)), some (.int (nI 8))] [] 161 ((z_ur I a (z_fil (I a) 0 k (fun _ => v))), J, RF w) else z_go 20 [some (.ref a), some (.int v), some (.int (nI k)), some (.int (nI 8))] [] 161 ((z_ur I a (z_fil (I a) 0 k (fun _ => v))), J, RF w)) (fun _ => rfl) ?_
    refine z_evT ((show _ ↔ k < 8 from z_ltN rfl rfl (by omega) (by omega)).mpr (by omega)) ?_
    refine z_evL ?_
    refine z_evG 4 (y := z_ck (z_isA 161 ((z_ur I a (z_fil (I a) 0 k (fun _ => v))), J, RF w) a 0 && z_in (nI k) (z_SH a).2) (z_go 14 [some (.ref a), some (.int v), some (.int (nI k)), some (.int (nI 8))] [] 161 ((z_u2 (z_ur I a (z_fil (I a) 0 k (fun _ => v))) a ((nI k).toNatClampNeg) v), J, RF w))) (fun _ => rfl) ?_
    refine z_evC (z_stA ha (z_inN (k := k) rfl (by omega) (by decide))) ?_
    refine z_evL ?_
    rw [show ((nI k : Int32)).toNatClampNeg = k from z_natE rfl (by omega)]
    refine z_evG 2 (y := z_go 5 [some (.ref a), some (.int v), some (.int ((nI k) + 1)), some (.int (nI 8))] [] 161 ((z_u2 (z_ur I a (z_fil (I a) 0 k (fun _ => v))) a k v), J, RF w)) (fun _ => rfl) ?_
    refine z_evL ?_
    have e := z_fil_s I a 0 k (fun _ => v)
    rw [Nat.zero_add] at e
    rw [nI_1 k]
    rw [← e] at nx
    exact nx trivial
