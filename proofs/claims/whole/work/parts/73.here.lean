-- TOKENS by the reference
def s_hr (b : Nat → Nat) (n p : Nat) : Int32 := if p < n then nI (b p) else -1
/-- the bytes that are read -/
def s_by (I : Nat → Nat → Int32) (b : Nat → Nat) (n : Nat) : Prop := I 127 22 = nI n ∧ n ≤ 160 ∧ (∀ k, k < n → b k < 256) ∧
  ((I 127 21 = (-1) ∧ ∀ k, k < n → I 137 k = nI (b k)) ∨ (I 127 21 = 0 ∧ n ≤ 20 ∧ ∀ k, k < n → I 138 k = nI (b k)) ∨ (∃ t, 1 ≤ t ∧ t < 6 ∧ I 127 21 = nI t ∧ ∀ k, k < n → I 139 (160 * t + k) = nI (b k)))
theorem s_hr_eq {b : Nat → Nat} {n p c : Nat} {y : Int32} (h : ∀ k, k < n → b k < 256) (e : y = nI c) (hc : c < 256) : s_hr b n p = y ↔ p < n ∧ b p = c := by
  unfold s_hr
  by_cases q : p < n
  · rw [if_pos q, z_eqN rfl e (by have := h p q; omega) (by omega)]
    exact ⟨fun r => ⟨q, r⟩, fun r => r.2⟩
  · rw [if_neg q, e]
    exact ⟨fun r => absurd r.symm (z_nneg rfl (by omega) (by decide)), fun r => absurd r.1 q⟩
theorem s_hr_in {b : Nat → Nat} {n p : Nat} (h : ∀ k, k < n → b k < 256) (lo hi : Nat) (hl : lo < 256) (hh : hi < 256) {x y : Int32} (ex : x = nI lo) (ey : y = nI hi) : (¬ s_hr b n p < x ∧ ¬ y < s_hr b n p) ↔ p < n ∧ lo ≤ b p ∧ b p ≤ hi := by
  subst ex ey
  unfold s_hr
  by_cases q : p < n
  · have := h p q
    rw [if_pos q, show (nI (b p) < nI lo) ↔ b p < lo from z_ltN rfl rfl (by omega) (by omega), show (nI hi < nI (b p)) ↔ hi < b p from z_ltN rfl rfl (by omega) (by omega)]
    omega
  · rw [if_neg q]
    refine ⟨fun r => absurd ?_ r.1, fun r => absurd r.1 q⟩
    rw [Int32.lt_iff_toInt_lt, nI_toInt (by omega)]
    show (-1 : Int) < _
    omega
set_option maxRecDepth 20000 in
/-- LampHouseModel.here -/
theorem m_here_e (E : zE) (d : Nat) (I : Nat → Nat → Int32) (J : Nat → Nat → Int64) (w : Nat) (n p : Nat) (h_n : I 127 22 = nI n) (hm : n ≤ 160) (h_p : I 127 23 = nI p) (hq : n ≤ p) (hp2 : p < 2 ^ 31) : z_cl E (d + 1) 202 [.ref 127] (161, I, J, RF w) = some (some (.int (-1)), 161, I, J, RF w) := by
  refine z_call (d := d + 0) (M := z_m202) rfl rfl ?_
  refine z_evG 5 (y := if (I 127 23) < (I 127 22) then z_go 15 [some (.ref 127)] [] 161 (I, J, RF w) else z_go 11 [some (.ref 127)] [] 161 (I, J, RF w)) (fun _ => rfl) ?_
  refine z_evF ((mt (show _ ↔ p < n from z_ltN h_p h_n (by omega) (by omega)).mp (by omega))) ?_
  refine z_evL ?_
  refine z_evG 3 (y := some (.inr (some (.int (-1)), 161, I, J, RF w))) (fun _ => rfl) ?_
  exact z_evR rfl
set_option maxRecDepth 20000 in
/-- LampHouseModel.here -/
theorem m_here_0 (E : zE) (d : Nat) (I : Nat → Nat → Int32) (J : Nat → Nat → Int64) (w : Nat) (n p : Nat) (h_n : I 127 22 = nI n) (hm : n ≤ 160) (h_p : I 127 23 = nI p) (hq : p < n) (hw : I 127 21 = (-1)) : z_cl E (d + 1) 202 [.ref 127] (161, I, J, RF w) = some (some (.int (I 137 p)), 161, I, J, RF w) := by
  refine z_call (d := d + 0) (M := z_m202) rfl rfl ?_
  refine z_evG 5 (y := if (I 127 23) < (I 127 22) then z_go 15 [some (.ref 127)] [] 161 (I, J, RF w) else z_go 11 [some (.ref 127)] [] 161 (I, J, RF w)) (fun _ => rfl) ?_
  refine z_evT ((z_ltN h_p h_n (by omega) (by omega)).mpr hq) ?_
  refine z_evL ?_
  refine z_evG 3 (y := if (I 127 21) < 0 then z_go 22 [some (.ref 127)] [] 161 (I, J, RF w) else z_go 34 [some (.ref 127)] [] 161 (I, J, RF w)) (fun _ => rfl) ?_
  refine z_evT (by rw [hw]; decide) ?_
  refine z_evL ?_
  refine z_evG 5 (y := z_ild (z_ia E 161 (I, J, RF w) 137) (I 127 23) fun vv => z_go 31 [some (.ref 127)] [.int vv] 161 (I, J, RF w)) (fun _ => rfl) ?_
  refine z_evBn (N := 160) (f := (I 137)) (k := p) rfl h_p (by omega) ?_
  refine z_evL ?_
  refine z_evG 2 (y := some (.inr (some (.int (I 137 p)), 161, I, J, RF w))) (fun _ => rfl) ?_
  exact z_evR rfl
set_option maxRecDepth 20000 in
/-- LampHouseModel.here -/
theorem m_here_1 (E : zE) (d : Nat) (I : Nat → Nat → Int32) (J : Nat → Nat → Int64) (w : Nat) (n p : Nat) (h_n : I 127 22 = nI n) (hm : n ≤ 160) (h_p : I 127 23 = nI p) (hq : p < n) (hn2 : n ≤ 20) (hw : I 127 21 = 0) : z_cl E (d + 1) 202 [.ref 127] (161, I, J, RF w) = some (some (.int (I 138 p)), 161, I, J, RF w) := by
  refine z_call (d := d + 0) (M := z_m202) rfl rfl ?_
  refine z_evG 5 (y := if (I 127 23) < (I 127 22) then z_go 15 [some (.ref 127)] [] 161 (I, J, RF w) else z_go 11 [some (.ref 127)] [] 161 (I, J, RF w)) (fun _ => rfl) ?_
  refine z_evT ((z_ltN h_p h_n (by omega) (by omega)).mpr hq) ?_
  refine z_evL ?_
  refine z_evG 3 (y := if (I 127 21) < 0 then z_go 22 [some (.ref 127)] [] 161 (I, J, RF w) else z_go 34 [some (.ref 127)] [] 161 (I, J, RF w)) (fun _ => rfl) ?_
  refine z_evF (by rw [hw]; decide) ?_
  refine z_evL ?_
  refine z_evG 3 (y := if (I 127 21) = 0 then z_go 41 [some (.ref 127)] [] 161 (I, J, RF w) else z_go 53 [some (.ref 127)] [] 161 (I, J, RF w)) (fun _ => rfl) ?_
  refine z_evT hw ?_
  refine z_evL ?_
  refine z_evG 5 (y := z_ild (z_ia E 161 (I, J, RF w) 138) (I 127 23) fun vv => z_go 50 [some (.ref 127)] [.int vv] 161 (I, J, RF w)) (fun _ => rfl) ?_
  refine z_evBn (N := 20) (f := (I 138)) (k := p) rfl h_p (by omega) ?_
  refine z_evL ?_
  refine z_evG 2 (y := some (.inr (some (.int (I 138 p)), 161, I, J, RF w))) (fun _ => rfl) ?_
  exact z_evR rfl
set_option maxRecDepth 20000 in
/-- LampHouseModel.here -/
theorem m_here_2 (E : zE) (d : Nat) (I : Nat → Nat → Int32) (J : Nat → Nat → Int64) (w : Nat) (n p t : Nat) (h_n : I 127 22 = nI n) (hm : n ≤ 160) (h_p : I 127 23 = nI p) (hq : p < n) (h_t : I 127 21 = nI t) (ht1 : 1 ≤ t) (ht2 : t < 6) : z_cl E (d + 1) 202 [.ref 127] (161, I, J, RF w) = some (some (.int (I 139 (160 * t + p))), 161, I, J, RF w) := by
  refine z_call (d := d + 0) (M := z_m202) rfl rfl ?_
  refine z_evG 5 (y := if (I 127 23) < (I 127 22) then z_go 15 [some (.ref 127)] [] 161 (I, J, RF w) else z_go 11 [some (.ref 127)] [] 161 (I, J, RF w)) (fun _ => rfl) ?_
  refine z_evT ((z_ltN h_p h_n (by omega) (by omega)).mpr hq) ?_
  refine z_evL ?_
  refine z_evG 3 (y := if (I 127 21) < 0 then z_go 22 [some (.ref 127)] [] 161 (I, J, RF w) else z_go 34 [some (.ref 127)] [] 161 (I, J, RF w)) (fun _ => rfl) ?_
  refine z_evF ((mt (show _ ↔ t < 0 from z_ltN h_t rfl (by omega) (by omega)).mp (by omega))) ?_
  refine z_evL ?_
  refine z_evG 3 (y := if (I 127 21) = 0 then z_go 41 [some (.ref 127)] [] 161 (I, J, RF w) else z_go 53 [some (.ref 127)] [] 161 (I, J, RF w)) (fun _ => rfl) ?_
  refine z_evF ((mt (show _ ↔ t = 0 from z_eqN h_t rfl (by omega) (by omega)).mp (by omega))) ?_
  refine z_evL ?_
  refine z_evG 10 (y := z_ild (z_ia E 161 (I, J, RF w) 139) ((160 * (I 127 21)) + (I 127 23)) fun vv => z_go 71 [some (.ref 127)] [.int vv] 161 (I, J, RF w)) (fun _ => rfl) ?_
  refine z_evBn (N := 960) (f := (I 139)) (k := (160 * t + p)) rfl (z_addE (z_mulE rfl h_t) h_p) (by omega) ?_
  refine z_evL ?_
  refine z_evG 1 (y := some (.inr (some (.int (I 139 (160 * t + p))), 161, I, J, RF w))) (fun _ => rfl) ?_
  exact z_evR rfl
theorem m_here (E : zE) (d : Nat) (I : Nat → Nat → Int32) (J : Nat → Nat → Int64) (w : Nat) (b : Nat → Nat) (n p : Nat) (hB : s_by I b n) (h_p : I 127 23 = nI p) (hp2 : p < 2 ^ 31) : z_cl E (d + 1) 202 [.ref 127] (161, I, J, RF w) = some (some (.int (s_hr b n p)), 161, I, J, RF w) := by
  obtain ⟨h_n, hm, _, hc⟩ := hB
  unfold s_hr
  by_cases q : p < n
  · rw [if_pos q]
    rcases hc with ⟨hw, hv⟩ | ⟨hw, hn, hv⟩ | ⟨t, h1, h2, hw, hv⟩
    · rw [m_here_0 E d I J w n p h_n hm h_p q hw, hv p q]
    · rw [m_here_1 E d I J w n p h_n hm h_p q hn hw, hv p q]
    · rw [m_here_2 E d I J w n p t h_n hm h_p q hw h1 h2, hv p q]
  · rw [if_neg q]
    exact m_here_e E d I J w n p h_n hm h_p (by omega) hp2
def s_w (b : Nat → Nat) (s k : Nat) : Int64 := z_fo (fun j a => if j < 6 then a * 32 + (nI (b (s + j))).toInt64 - 97 + 1 else -1) 0 k
set_option maxRecDepth 20000 in
theorem m_readWord_pre (E : zE) (d : Nat) (I : Nat → Nat → Int32) (J : Nat → Nat → Int64) (w : Nat) {r : zR} (b : Nat → Nat) (n s : Nat) (hB : s_by I b n) (h_s : I 127 23 = nI s) (hsn : s ≤ n) (hz : z_Ev E (d + 1) z_m203 64 [some (.ref 127), some (.long (s_w b s (s_rn (s_al b) n s))), none, some (.int (nI (s_rn (s_al b) n s)))] [] 161 ((z_u2 I 127 23 (nI (s + (s_rn (s_al b) n s)))), J, RF w) r) : z_Ev E (d + 1) z_m203 0 [some (.ref 127), none, none, none] [] 161 (I, J, RF w) r := by
  obtain ⟨_, h160, h256, _⟩ := id hB
  refine z_evG 4 (y := z_go 4 [some (.ref 127), some (.long 0), none, some (.int 0)] [] 161 (I, J, RF w)) (fun _ => rfl) ?_
  refine z_evL ?_
  have st0 : ∀ m0, m0 = 0 → ∀ qz, z_Ev E (d + 1) z_m203 4 [some (.ref 127), some (.long (s_w b s m0)), none, some (.int (nI m0))] [] 161 ((z_u2 I 127 23 (nI (s + m0))), J, RF w) qz → z_Ev E (d + 1) z_m203 4 [some (.ref 127), some (.long 0), none, some (.int 0)] [] 161 (I, J, RF w) qz := by intro m0 hm0 qz h; rw [hm0, z_u2_id (show I 127 23 = nI (s + 0) from h_s)] at h; subst hm0; exact h
  refine st0 0 rfl _ ?_
  refine z_loop (F := fun k => ([some (.ref 127), some (.long (s_w b s k)), none, some (.int (nI k))], ((z_u2 I 127 23 (nI (s + k))), J, RF w))) (P := fun k => True) (s_rn (s_al b) n s) trivial (fun hP => ?_) (fun k hk hP next => ?_)
  · show z_Ev E (d + 1) z_m203 4 [some (.ref 127), some (.long (s_w b s (s_rn (s_al b) n s))), none, some (.int (nI (s_rn (s_al b) n s)))] [] 161 ((z_u2 I 127 23 (nI (s + (s_rn (s_al b) n s)))), J, RF w) _
    have hle := s_rn_le (s_al b) (n := n) (p := s) (by omega)
    refine z_evG 2 (y := z_ret (z_cl E (d + 1) 202 [.ref 127] (161, ((z_u2 I 127 23 (nI (s + (s_rn (s_al b) n s)))), J, RF w))) 8 [some (.ref 127), some (.long (s_w b s (s_rn (s_al b) n s))), none, some (.int (nI (s_rn (s_al b) n s)))] []) (fun _ => rfl) ?_
    refine z_evK (v := .int (s_hr b n (s + (s_rn (s_al b) n s)))) (z' := 161) (σ' := ((z_u2 I 127 23 (nI (s + (s_rn (s_al b) n s)))), J, RF w)) (m_here E d (z_u2 I 127 23 (nI (s + (s_rn (s_al b) n s)))) J w b n (s + (s_rn (s_al b) n s)) hB rfl (by omega)) ?_
    refine z_evG 3 (y := z_ret (z_cl E (d + 1) 178 [.int (s_hr b n (s + (s_rn (s_al b) n s))), .int 97, .int 122] (161, ((z_u2 I 127 23 (nI (s + (s_rn (s_al b) n s)))), J, RF w))) 15 [some (.ref 127), some (.long (s_w b s (s_rn (s_al b) n s))), none, some (.int (nI (s_rn (s_al b) n s)))] []) (fun _ => rfl) ?_
    refine z_evK (v := .int (z_bo (¬ (s_hr b n (s + (s_rn (s_al b) n s))) < 97 ∧ ¬ 122 < (s_hr b n (s + (s_rn (s_al b) n s)))))) (z' := 161) (σ' := ((z_u2 I 127 23 (nI (s + (s_rn (s_al b) n s)))), J, RF w)) (m_in E d (z_u2 I 127 23 (nI (s + (s_rn (s_al b) n s)))) J w (s_hr b n (s + (s_rn (s_al b) n s))) 97 122) ?_
    refine z_evG 1 (y := if (z_bo (¬ (s_hr b n (s + (s_rn (s_al b) n s))) < 97 ∧ ¬ 122 < (s_hr b n (s + (s_rn (s_al b) n s))))) = 0 then z_go 64 [some (.ref 127), some (.long (s_w b s (s_rn (s_al b) n s))), none, some (.int (nI (s_rn (s_al b) n s)))] [] 161 ((z_u2 I 127 23 (nI (s + (s_rn (s_al b) n s)))), J, RF w) else z_go 18 [some (.ref 127), some (.long (s_w b s (s_rn (s_al b) n s))), none, some (.int (nI (s_rn (s_al b) n s)))] [] 161 ((z_u2 I 127 23 (nI (s + (s_rn (s_al b) n s)))), J, RF w)) (fun _ => rfl) ?_
    refine z_evO (fun h1 => ?_) (fun h1 => ?_)
    · refine z_evL ?_
      exact hz
    · refine z_evL ?_
      exact absurd (by have := (s_hr_in h256 97 122 (by decide) (by decide) rfl rfl).mp h1; exact ⟨this.1, decide_eq_true this.2⟩) (s_rn_end (s_al b) n s)
  · show z_Ev E (d + 1) z_m203 4 [some (.ref 127), some (.long (s_w b s k)), none, some (.int (nI k))] [] 161 ((z_u2 I 127 23 (nI (s + k))), J, RF w) _
    have hx := s_rn_lt hk
    have nx : (True) → z_Ev E (d + 1) z_m203 4 [some (.ref 127), some (.long (s_w b s (k + 1))), none, some (.int (nI (k + 1)))] [] 161 ((z_u2 I 127 23 (nI (s + (k + 1)))), J, RF w) _ := next
    refine z_evG 2 (y := z_ret (z_cl E (d + 1) 202 [.ref 127] (161, ((z_u2 I 127 23 (nI (s + k))), J, RF w))) 8 [some (.ref 127), some (.long (s_w b s k)), none, some (.int (nI k))] []) (fun _ => rfl) ?_
    refine z_evK (v := .int (s_hr b n (s + k))) (z' := 161) (σ' := ((z_u2 I 127 23 (nI (s + k))), J, RF w)) (m_here E d (z_u2 I 127 23 (nI (s + k))) J w b n (s + k) hB rfl (by omega)) ?_
    refine z_evG 3 (y := z_ret (z_cl E (d + 1) 178 [.int (s_hr b n (s + k)), .int 97, .int 122] (161, ((z_u2 I 127 23 (nI (s + k))), J, RF w))) 15 [some (.ref 127), some (.long (s_w b s k)), none, some (.int (nI k))] []) (fun _ => rfl) ?_
    refine z_evK (v := .int (z_bo (¬ (s_hr b n (s + k)) < 97 ∧ ¬ 122 < (s_hr b n (s + k))))) (z' := 161) (σ' := ((z_u2 I 127 23 (nI (s + k))), J, RF w)) (m_in E d (z_u2 I 127 23 (nI (s + k))) J w (s_hr b n (s + k)) 97 122) ?_
    refine z_evG 1 (y := if (z_bo (¬ (s_hr b n (s + k)) < 97 ∧ ¬ 122 < (s_hr b n (s + k)))) = 0 then z_go 64 [some (.ref 127), some (.long (s_w b s k)), none, some (.int (nI k))] [] 161 ((z_u2 I 127 23 (nI (s + k))), J, RF w) else z_go 18 [some (.ref 127), some (.long (s_w b s k)), none, some (.int (nI k))] [] 161 ((z_u2 I 127 23 (nI (s + k))), J, RF w)) (fun _ => rfl) ?_
    refine z_evF (fun q0 => z_bo_0.mp q0 ((s_hr_in h256 97 122 (by decide) (by decide) rfl rfl).mpr ⟨hx.1, of_decide_eq_true hx.2⟩)) ?_
    refine z_evL ?_
    refine z_evG 3 (y := if (nI k) < 6 then z_go 24 [some (.ref 127), some (.long (s_w b s k)), none, some (.int (nI k))] [] 161 ((z_u2 I 127 23 (nI (s + k))), J, RF w) else z_go 44 [some (.ref 127), some (.long (s_w b s k)), none, some (.int (nI k))] [] 161 ((z_u2 I 127 23 (nI (s + k))), J, RF w)) (fun _ => rfl) ?_
    refine z_evIN (show _ ↔ k < 6 from z_ltN rfl rfl (by omega) (by omega)) (fun h3 => ?_) (fun h3 => ?_)
    · refine z_evL ?_
      refine z_evG 5 (y := z_ret (z_cl E (d + 1) 202 [.ref 127] (161, ((z_u2 I 127 23 (nI (s + k))), J, RF w))) 33 [some (.ref 127), some (.long (s_w b s k)), none, some (.int (nI k))] [.long ((s_w b s k) * 32)]) (fun _ => rfl) ?_
      refine z_evK (v := .int (s_hr b n (s + k))) (z' := 161) (σ' := ((z_u2 I 127 23 (nI (s + k))), J, RF w)) (m_here E d (z_u2 I 127 23 (nI (s + k))) J w b n (s + k) hB rfl (by omega)) ?_
      refine z_evG 16 (y := z_go 4 [some (.ref 127), some (.long (((((s_w b s k) * 32) + ((s_hr b n (s + k)).toInt64)) - 97) + 1)), none, some (.int ((nI k) + 1))] [] 161 ((z_u2 (z_u2 I 127 23 (nI (s + k))) 127 23 ((nI (s + k)) + 1)), J, RF w)) (fun _ => rfl) ?_
      refine z_evL ?_
      rw [show s_w b s (k + 1) = s_w b s k * 32 + (nI (b (s + k))).toInt64 - 97 + 1 from if_pos h3] at nx
      rw [show s_hr b n (s + k) = nI (b (s + k)) from if_pos hx.1]
      rw [nI_1 k, nI_1 (s + k), z_u2u]
      exact nx trivial
    · refine z_evL ?_
      refine z_evG 10 (y := z_go 4 [some (.ref 127), some (.long (-1)), none, some (.int ((nI k) + 1))] [] 161 ((z_u2 (z_u2 I 127 23 (nI (s + k))) 127 23 ((nI (s + k)) + 1)), J, RF w)) (fun _ => rfl) ?_
      refine z_evL ?_
      rw [show s_w b s (k + 1) = (-1) from if_neg h3] at nx
      rw [nI_1 k, nI_1 (s + k), z_u2u]
      exact nx trivial
