-- A TOKEN by the class
def s_st (b : Nat → Nat) (n p : Nat) : Nat := p + s_rn (s_bl b) n p
def s_tok (b : Nat → Nat) (n p : Nat) : Nat :=
  if n ≤ s_st b n p then 0
  else if s_dg b (s_st b n p) = true then if 4 < s_rn (s_dg b) n (s_st b n p) then 1 else 2
  else if s_al b (s_st b n p) = true then s_wtok (s_first (s_isw b (s_st b n p) (s_st b n p + s_rn (s_al b) n (s_st b n p))) 11)
  else if s_sg (b (s_st b n p)) = true then b (s_st b n p) else 1
def s_en (b : Nat → Nat) (n p : Nat) : Nat :=
  if n ≤ s_st b n p then s_st b n p
  else if s_dg b (s_st b n p) = true then s_st b n p + s_rn (s_dg b) n (s_st b n p)
  else if s_al b (s_st b n p) = true then s_st b n p + s_rn (s_al b) n (s_st b n p)
  else s_st b n p + 1
def s_nu (b : Nat → Nat) (n p : Nat) (x : Int32) : Int32 :=
  if n ≤ s_st b n p then x
  else if s_dg b (s_st b n p) = true then s_dec b (s_st b n p) (s_rn (s_dg b) n (s_st b n p)) else x
def s_stp (I : Nat → Nat → Int32) (st en nu tk : Int32) : Nat → Nat → Int32 := fun a k =>
  if a = 76 then if k = 2 then tk else if k = 3 then st else if k = 4 then en else if k = 5 then nu else I a k else I a k
theorem z_byE {x y : Int32} {v c : Nat} (e : x = nI v) (h : v < 256) (ey : y = nI c) (hc : c < 256) : x = y ↔ v = c := z_eqN e ey (by omega) (by omega)
theorem z_bl10 {b : Nat → Nat} {k : Nat} (h : s_bl b k = true) (q : ¬ b k = 32) : b k = 10 := by
  unfold s_bl at h
  rw [decide_eq_true_eq] at h
  omega
set_option maxRecDepth 20000 in
theorem z_sgE : ∀ v, v < 256 → (z_enc (s_first (fun k => z_signsL.getD k 0 == (nI v).toInt8.toInt32) 8) < 0 ↔ ¬ s_sg v = true) := by decide
set_option maxRecDepth 20000 in
theorem z_chE : ∀ v, v < 256 → ((nI v).toUInt32 % 65536).toInt32 = nI v := by decide
set_option maxRecDepth 20000 in
theorem x_step_pre (E : zE) (d : Nat) (I : Nat → Nat → Int32) (J : Nat → Nat → Int64) (w : Nat) {r : zR} (b : Nat → Nat) (n p : Nat) (h_n : I 76 1 = nI n) (hm_n : n ≤ 160) (hb : ∀ k, k < n → I 77 k = nI (b k) ∧ b k < 256) (h_p : I 76 4 = nI p) (hpn : p ≤ n) (hz : z_Ev E (d + 6) z_m74 60 [some (.ref 76)] [] 161 ((z_u2 I 76 3 (nI (p + (s_rn (s_bl b) n p)))), J, RF w) r) : z_Ev E (d + 6) z_m74 0 [some (.ref 76)] [] 161 (I, J, RF w) r := by
  refine z_evG 4 (y := z_go 8 [some (.ref 76)] [] 161 ((z_u2 I 76 3 (I 76 4)), J, RF w)) (fun _ => rfl) ?_
  refine z_evL ?_
  have st0 : ∀ m0, m0 = 0 → ∀ qz, z_Ev E (d + 6) z_m74 8 [some (.ref 76)] [] 161 ((z_u2 I 76 3 (nI (p + m0))), J, RF w) qz → z_Ev E (d + 6) z_m74 8 [some (.ref 76)] [] 161 ((z_u2 I 76 3 (I 76 4)), J, RF w) qz := by intro m0 hm0 qz h; rw [hm0, show nI (p + 0) = I 76 4 from h_p.symm] at h; subst hm0; exact h
  refine st0 0 rfl _ ?_
  refine z_loop (F := fun k => ([some (.ref 76)], ((z_u2 I 76 3 (nI (p + k))), J, RF w))) (P := fun k => True) (s_rn (s_bl b) n p) trivial (fun hP => ?_) (fun k hk hP next => ?_)
  · show z_Ev E (d + 6) z_m74 8 [some (.ref 76)] [] 161 ((z_u2 I 76 3 (nI (p + (s_rn (s_bl b) n p)))), J, RF w) _
    have hle := s_rn_le (s_bl b) (n := n) (p := p) (by omega)
    refine z_evG 5 (y := if (nI (p + (s_rn (s_bl b) n p))) < (I 76 1) then z_go 19 [some (.ref 76)] [] 161 ((z_u2 I 76 3 (nI (p + (s_rn (s_bl b) n p)))), J, RF w) else z_go 60 [some (.ref 76)] [] 161 ((z_u2 I 76 3 (nI (p + (s_rn (s_bl b) n p)))), J, RF w)) (fun _ => rfl) ?_
    refine z_evIN (show _ ↔ (p + (s_rn (s_bl b) n p)) < n from z_ltN rfl h_n (by omega) (by omega)) (fun h1 => ?_) (fun h1 => ?_)
    · refine z_evL ?_
      refine z_evG 5 (y := z_ild (z_ia E 161 ((z_u2 I 76 3 (nI (p + (s_rn (s_bl b) n p)))), J, RF w) 77) (nI (p + (s_rn (s_bl b) n p))) fun vv => z_go 28 [some (.ref 76)] [.int vv] 161 ((z_u2 I 76 3 (nI (p + (s_rn (s_bl b) n p)))), J, RF w)) (fun _ => rfl) ?_
      refine z_evBn (N := 160) (f := ((z_u2 I 76 3 (nI (p + (s_rn (s_bl b) n p)))) 77)) (k := (p + (s_rn (s_bl b) n p))) rfl rfl (by omega) ?_
      refine z_evL ?_
      refine z_evG 2 (y := if (I 77 (p + (s_rn (s_bl b) n p))) = 32 then z_go 47 [some (.ref 76)] [] 161 ((z_u2 I 76 3 (nI (p + (s_rn (s_bl b) n p)))), J, RF w) else z_go 33 [some (.ref 76)] [] 161 ((z_u2 I 76 3 (nI (p + (s_rn (s_bl b) n p)))), J, RF w)) (fun _ => rfl) ?_
      refine z_evIN (z_byE (c := 32) (hb (p + s_rn (s_bl b) n p) (by omega)).1 (hb _ (by omega)).2 rfl (by decide)) (fun h2 => ?_) (fun h2 => ?_)
      · refine z_evL ?_
        exact absurd (show p + s_rn (s_bl b) n p < n ∧ s_bl b (p + s_rn (s_bl b) n p) = true from ⟨h1, decide_eq_true (Or.inl h2)⟩) (s_rn_end _ _ _)
      · refine z_evL ?_
        refine z_evG 5 (y := z_ild (z_ia E 161 ((z_u2 I 76 3 (nI (p + (s_rn (s_bl b) n p)))), J, RF w) 77) (nI (p + (s_rn (s_bl b) n p))) fun vv => z_go 42 [some (.ref 76)] [.int vv] 161 ((z_u2 I 76 3 (nI (p + (s_rn (s_bl b) n p)))), J, RF w)) (fun _ => rfl) ?_
        refine z_evBn (N := 160) (f := ((z_u2 I 76 3 (nI (p + (s_rn (s_bl b) n p)))) 77)) (k := (p + (s_rn (s_bl b) n p))) rfl rfl (by omega) ?_
        refine z_evL ?_
        refine z_evG 2 (y := if (I 77 (p + (s_rn (s_bl b) n p))) = 10 then z_go 47 [some (.ref 76)] [] 161 ((z_u2 I 76 3 (nI (p + (s_rn (s_bl b) n p)))), J, RF w) else z_go 60 [some (.ref 76)] [] 161 ((z_u2 I 76 3 (nI (p + (s_rn (s_bl b) n p)))), J, RF w)) (fun _ => rfl) ?_
        refine z_evIN (z_byE (c := 10) (hb (p + s_rn (s_bl b) n p) (by omega)).1 (hb _ (by omega)).2 rfl (by decide)) (fun h3 => ?_) (fun h3 => ?_)
        · refine z_evL ?_
          exact absurd (show p + s_rn (s_bl b) n p < n ∧ s_bl b (p + s_rn (s_bl b) n p) = true from ⟨h1, decide_eq_true (Or.inr h3)⟩) (s_rn_end _ _ _)
        · refine z_evL ?_
          exact hz
    · refine z_evL ?_
      exact hz
  · show z_Ev E (d + 6) z_m74 8 [some (.ref 76)] [] 161 ((z_u2 I 76 3 (nI (p + k))), J, RF w) _
    have hx := s_rn_lt hk
    have h256 := (hb _ hx.1).2
    have nx : (True) → z_Ev E (d + 6) z_m74 8 [some (.ref 76)] [] 161 ((z_u2 I 76 3 (nI (p + (k + 1)))), J, RF w) _ := next
    refine z_evG 5 (y := if (nI (p + k)) < (I 76 1) then z_go 19 [some (.ref 76)] [] 161 ((z_u2 I 76 3 (nI (p + k))), J, RF w) else z_go 60 [some (.ref 76)] [] 161 ((z_u2 I 76 3 (nI (p + k))), J, RF w)) (fun _ => rfl) ?_
    refine z_evT ((z_ltN rfl h_n (by omega) (by omega)).mpr hx.1) ?_
    refine z_evL ?_
    refine z_evG 5 (y := z_ild (z_ia E 161 ((z_u2 I 76 3 (nI (p + k))), J, RF w) 77) (nI (p + k)) fun vv => z_go 28 [some (.ref 76)] [.int vv] 161 ((z_u2 I 76 3 (nI (p + k))), J, RF w)) (fun _ => rfl) ?_
    refine z_evBn (N := 160) (f := ((z_u2 I 76 3 (nI (p + k))) 77)) (k := (p + k)) rfl rfl (by omega) ?_
    refine z_evL ?_
    refine z_evG 2 (y := if (I 77 (p + k)) = 32 then z_go 47 [some (.ref 76)] [] 161 ((z_u2 I 76 3 (nI (p + k))), J, RF w) else z_go 33 [some (.ref 76)] [] 161 ((z_u2 I 76 3 (nI (p + k))), J, RF w)) (fun _ => rfl) ?_
    refine z_evIN (z_byE (c := 32) (hb (p + k) hx.1).1 h256 rfl (by decide)) (fun h5 => ?_) (fun h5 => ?_)
    · refine z_evL ?_
      refine z_evG 7 (y := z_go 8 [some (.ref 76)] [] 161 ((z_u2 (z_u2 I 76 3 (nI (p + k))) 76 3 ((nI (p + k)) + 1)), J, RF w)) (fun _ => rfl) ?_
      refine z_evL ?_
      rw [nI_1 (p + k), z_u2u]
      exact nx trivial
    · refine z_evL ?_
      refine z_evG 5 (y := z_ild (z_ia E 161 ((z_u2 I 76 3 (nI (p + k))), J, RF w) 77) (nI (p + k)) fun vv => z_go 42 [some (.ref 76)] [.int vv] 161 ((z_u2 I 76 3 (nI (p + k))), J, RF w)) (fun _ => rfl) ?_
      refine z_evBn (N := 160) (f := ((z_u2 I 76 3 (nI (p + k))) 77)) (k := (p + k)) rfl rfl (by omega) ?_
      refine z_evL ?_
      refine z_evG 2 (y := if (I 77 (p + k)) = 10 then z_go 47 [some (.ref 76)] [] 161 ((z_u2 I 76 3 (nI (p + k))), J, RF w) else z_go 60 [some (.ref 76)] [] 161 ((z_u2 I 76 3 (nI (p + k))), J, RF w)) (fun _ => rfl) ?_
      refine z_evT ((z_eqN (hb _ hx.1).1 (show (10 : Int32) = nI 10 from rfl) (by omega) (by decide)).mpr (z_bl10 hx.2 (by assumption))) ?_
      refine z_evL ?_
      refine z_evG 7 (y := z_go 8 [some (.ref 76)] [] 161 ((z_u2 (z_u2 I 76 3 (nI (p + k))) 76 3 ((nI (p + k)) + 1)), J, RF w)) (fun _ => rfl) ?_
      refine z_evL ?_
      rw [nI_1 (p + k), z_u2u]
      exact nx trivial
set_option maxRecDepth 20000 in
theorem x_step_end (E : zE) (d : Nat) (I : Nat → Nat → Int32) (J : Nat → Nat → Int64) (w : Nat) (b : Nat → Nat) (n s : Nat) (h_n : I 76 1 = nI n) (hm_n : n ≤ 160) (hb : ∀ k, k < n → I 77 k = nI (b k) ∧ b k < 256) (h_s : I 76 3 = nI s) (hsn : s ≤ n) (hz : n ≤ s) : z_Ev E (d + 6) z_m74 60 [some (.ref 76)] [] 161 (I, J, RF w) (none, 161, (z_u2 (z_u2 I 76 4 (nI s)) 76 2 0), J, RF w) := by
  refine z_evG 9 (y := if (I 76 3) < (I 76 1) then z_go 87 [some (.ref 76)] [] 161 ((z_u2 I 76 4 (I 76 3)), J, RF w) else z_go 79 [some (.ref 76)] [] 161 ((z_u2 I 76 4 (I 76 3)), J, RF w)) (fun _ => rfl) ?_
  refine z_evF ((mt (show _ ↔ s < n from z_ltN h_s h_n (by omega) (by omega)).mp (by omega))) ?_
  refine z_evL ?_
  refine z_evG 5 (y := some (.inr (none, 161, (z_u2 (z_u2 I 76 4 (I 76 3)) 76 2 0), J, RF w))) (fun _ => rfl) ?_
  rw [show (I 76 3 : Int32) = nI s from h_s]
  exact z_evR rfl
set_option maxRecDepth 20000 in
theorem x_step_num (E : zE) (d : Nat) (I : Nat → Nat → Int32) (J : Nat → Nat → Int64) (w : Nat) (b : Nat → Nat) (n s : Nat) (h_n : I 76 1 = nI n) (hm_n : n ≤ 160) (hb : ∀ k, k < n → I 77 k = nI (b k) ∧ b k < 256) (h_s : I 76 3 = nI s) (hsn : s ≤ n) (hz : s < n) (hd : s_dg b s = true) : z_Ev E (d + 6) z_m74 60 [some (.ref 76)] [] 161 (I, J, RF w) (none, 161, (z_u2 (z_u2 (z_u2 (z_u2 I 76 4 (nI s)) 76 5 (s_dec b s (s_rn (s_dg b) n s))) 76 4 (nI (s + (s_rn (s_dg b) n s)))) 76 2 (if 4 < s_rn (s_dg b) n s then 1 else 2)), J, RF w) := by
  refine z_evG 9 (y := if (I 76 3) < (I 76 1) then z_go 87 [some (.ref 76)] [] 161 ((z_u2 I 76 4 (I 76 3)), J, RF w) else z_go 79 [some (.ref 76)] [] 161 ((z_u2 I 76 4 (I 76 3)), J, RF w)) (fun _ => rfl) ?_
  refine z_evT ((z_ltN h_s h_n (by omega) (by omega)).mpr hz) ?_
  refine z_evL ?_
  refine z_evG 5 (y := z_ild (z_ia E 161 ((z_u2 I 76 4 (I 76 3)), J, RF w) 77) (I 76 3) fun vv => z_go 96 [some (.ref 76)] [.int vv] 161 ((z_u2 I 76 4 (I 76 3)), J, RF w)) (fun _ => rfl) ?_
  refine z_evBn (N := 160) (f := ((z_u2 I 76 4 (I 76 3)) 77)) (k := s) rfl h_s (by omega) ?_
  refine z_evL ?_
  refine z_evG 1 (y := z_ret (z_cl E (d + 6) 78 [.int (I 77 s)] (161, ((z_u2 I 76 4 (I 76 3)), J, RF w))) 99 [some (.ref 76)] []) (fun _ => rfl) ?_
  refine z_evK (v := .int (z_bo (¬ (I 77 s) < 48 ∧ ¬ 57 < (I 77 s)))) (z' := 161) (σ' := ((z_u2 I 76 4 (I 76 3)), J, RF w)) (x_isDigit E (d + 5) (z_u2 I 76 4 (I 76 3)) J w (I 77 s)) ?_
  refine z_evG 1 (y := if (z_bo (¬ (I 77 s) < 48 ∧ ¬ 57 < (I 77 s))) = 0 then z_go 109 [some (.ref 76)] [] 161 ((z_u2 I 76 4 (I 76 3)), J, RF w) else z_go 102 [some (.ref 76)] [] 161 ((z_u2 I 76 4 (I 76 3)), J, RF w)) (fun _ => rfl) ?_
  refine z_evF (fun q0 => z_bo_0.mp q0 ((z_dgE (hb s (by omega)).1 (hb s (by omega)).2).mpr hd)) ?_
  refine z_evL ?_
  refine z_evG 2 (y := z_ret (z_cl E (d + 6) 75 [.ref 76] (161, ((z_u2 I 76 4 (I 76 3)), J, RF w))) 106 [some (.ref 76)] []) (fun _ => rfl) ?_
  refine z_evV (z' := 161) (σ' := ((z_u2 (z_u2 (z_u2 (z_u2 I 76 4 (I 76 3)) 76 5 (s_dec b s (s_rn (s_dg b) n s))) 76 4 (nI (s + (s_rn (s_dg b) n s)))) 76 2 (if 4 < s_rn (s_dg b) n s then 1 else 2)), J, RF w)) (x_stepNumber E (d + 4) (z_u2 I 76 4 (I 76 3)) J w b n s h_n (by omega) hb h_s h_s (by omega)) ?_
  refine z_evG 2 (y := some (.inr (none, 161, (z_u2 (z_u2 (z_u2 (z_u2 I 76 4 (I 76 3)) 76 5 (s_dec b s (s_rn (s_dg b) n s))) 76 4 (nI (s + (s_rn (s_dg b) n s)))) 76 2 (if 4 < s_rn (s_dg b) n s then 1 else 2)), J, RF w))) (fun _ => rfl) ?_
  rw [show (I 76 3 : Int32) = nI s from h_s]
  exact z_evR rfl
set_option maxRecDepth 20000 in
theorem x_step_word (E : zE) (d : Nat) (I : Nat → Nat → Int32) (J : Nat → Nat → Int64) (w : Nat) (b : Nat → Nat) (n s : Nat) (h_n : I 76 1 = nI n) (hm_n : n ≤ 160) (hb : ∀ k, k < n → I 77 k = nI (b k) ∧ b k < 256) (h_s : I 76 3 = nI s) (hsn : s ≤ n) (hz : s < n) (hd : ¬ s_dg b s = true) (ha : s_al b s = true) : z_Ev E (d + 6) z_m74 60 [some (.ref 76)] [] 161 (I, J, RF w) (none, 161, (z_u2 (z_u2 (z_u2 I 76 4 (nI s)) 76 4 (nI (s + (s_rn (s_al b) n s)))) 76 2 (nI (s_wtok (s_first (s_isw b s (s + (s_rn (s_al b) n s))) 11)))), J, RF w) := by
  refine z_evG 9 (y := if (I 76 3) < (I 76 1) then z_go 87 [some (.ref 76)] [] 161 ((z_u2 I 76 4 (I 76 3)), J, RF w) else z_go 79 [some (.ref 76)] [] 161 ((z_u2 I 76 4 (I 76 3)), J, RF w)) (fun _ => rfl) ?_
  refine z_evT ((z_ltN h_s h_n (by omega) (by omega)).mpr hz) ?_
  refine z_evL ?_
  refine z_evG 5 (y := z_ild (z_ia E 161 ((z_u2 I 76 4 (I 76 3)), J, RF w) 77) (I 76 3) fun vv => z_go 96 [some (.ref 76)] [.int vv] 161 ((z_u2 I 76 4 (I 76 3)), J, RF w)) (fun _ => rfl) ?_
  refine z_evBn (N := 160) (f := ((z_u2 I 76 4 (I 76 3)) 77)) (k := s) rfl h_s (by omega) ?_
  refine z_evL ?_
  refine z_evG 1 (y := z_ret (z_cl E (d + 6) 78 [.int (I 77 s)] (161, ((z_u2 I 76 4 (I 76 3)), J, RF w))) 99 [some (.ref 76)] []) (fun _ => rfl) ?_
  refine z_evK (v := .int (z_bo (¬ (I 77 s) < 48 ∧ ¬ 57 < (I 77 s)))) (z' := 161) (σ' := ((z_u2 I 76 4 (I 76 3)), J, RF w)) (x_isDigit E (d + 5) (z_u2 I 76 4 (I 76 3)) J w (I 77 s)) ?_
  refine z_evG 1 (y := if (z_bo (¬ (I 77 s) < 48 ∧ ¬ 57 < (I 77 s))) = 0 then z_go 109 [some (.ref 76)] [] 161 ((z_u2 I 76 4 (I 76 3)), J, RF w) else z_go 102 [some (.ref 76)] [] 161 ((z_u2 I 76 4 (I 76 3)), J, RF w)) (fun _ => rfl) ?_
  refine z_evT (z_bo_0.mpr (mt (z_dgE (hb s (by omega)).1 (hb s (by omega)).2).mp hd)) ?_
  refine z_evL ?_
  refine z_evG 5 (y := z_ild (z_ia E 161 ((z_u2 I 76 4 (I 76 3)), J, RF w) 77) (I 76 3) fun vv => z_go 118 [some (.ref 76)] [.int vv] 161 ((z_u2 I 76 4 (I 76 3)), J, RF w)) (fun _ => rfl) ?_
  refine z_evBn (N := 160) (f := ((z_u2 I 76 4 (I 76 3)) 77)) (k := s) rfl h_s (by omega) ?_
  refine z_evL ?_
  refine z_evG 1 (y := z_ret (z_cl E (d + 6) 79 [.int (I 77 s)] (161, ((z_u2 I 76 4 (I 76 3)), J, RF w))) 121 [some (.ref 76)] []) (fun _ => rfl) ?_
  refine z_evK (v := .int (z_bo (¬ (I 77 s) < 97 ∧ ¬ 122 < (I 77 s)))) (z' := 161) (σ' := ((z_u2 I 76 4 (I 76 3)), J, RF w)) (x_isLetter E (d + 5) (z_u2 I 76 4 (I 76 3)) J w (I 77 s)) ?_
  refine z_evG 1 (y := if (z_bo (¬ (I 77 s) < 97 ∧ ¬ 122 < (I 77 s))) = 0 then z_go 131 [some (.ref 76)] [] 161 ((z_u2 I 76 4 (I 76 3)), J, RF w) else z_go 124 [some (.ref 76)] [] 161 ((z_u2 I 76 4 (I 76 3)), J, RF w)) (fun _ => rfl) ?_
  refine z_evF (fun q0 => z_bo_0.mp q0 ((z_alE (hb s (by omega)).1 (hb s (by omega)).2).mpr ha)) ?_
  refine z_evL ?_
  refine z_evG 2 (y := z_ret (z_cl E (d + 6) 76 [.ref 76] (161, ((z_u2 I 76 4 (I 76 3)), J, RF w))) 128 [some (.ref 76)] []) (fun _ => rfl) ?_
  refine z_evV (z' := 161) (σ' := ((z_u2 (z_u2 (z_u2 I 76 4 (I 76 3)) 76 4 (nI (s + (s_rn (s_al b) n s)))) 76 2 (nI (s_wtok (s_first (s_isw b s (s + (s_rn (s_al b) n s))) 11)))), J, RF w)) (x_stepWord E d (z_u2 I 76 4 (I 76 3)) J w b n s h_n (by omega) hb h_s h_s (by omega)) ?_
  refine z_evG 2 (y := some (.inr (none, 161, (z_u2 (z_u2 (z_u2 I 76 4 (I 76 3)) 76 4 (nI (s + (s_rn (s_al b) n s)))) 76 2 (nI (s_wtok (s_first (s_isw b s (s + (s_rn (s_al b) n s))) 11)))), J, RF w))) (fun _ => rfl) ?_
  rw [show (I 76 3 : Int32) = nI s from h_s]
  exact z_evR rfl
set_option maxRecDepth 20000 in
theorem x_step_sign (E : zE) (d : Nat) (I : Nat → Nat → Int32) (J : Nat → Nat → Int64) (w : Nat) (b : Nat → Nat) (n s : Nat) (h_n : I 76 1 = nI n) (hm_n : n ≤ 160) (hb : ∀ k, k < n → I 77 k = nI (b k) ∧ b k < 256) (h_s : I 76 3 = nI s) (hsn : s ≤ n) (hz : s < n) (hd : ¬ s_dg b s = true) (ha : ¬ s_al b s = true) (hg : s_sg (b s) = true) : z_Ev E (d + 6) z_m74 60 [some (.ref 76)] [] 161 (I, J, RF w) (none, 161, (z_u2 (z_u2 (z_u2 I 76 4 (nI s)) 76 4 (nI (s + 1))) 76 2 (nI (b s))), J, RF w) := by
  refine z_evG 9 (y := if (I 76 3) < (I 76 1) then z_go 87 [some (.ref 76)] [] 161 ((z_u2 I 76 4 (I 76 3)), J, RF w) else z_go 79 [some (.ref 76)] [] 161 ((z_u2 I 76 4 (I 76 3)), J, RF w)) (fun _ => rfl) ?_
  refine z_evT ((z_ltN h_s h_n (by omega) (by omega)).mpr hz) ?_
  refine z_evL ?_
  refine z_evG 5 (y := z_ild (z_ia E 161 ((z_u2 I 76 4 (I 76 3)), J, RF w) 77) (I 76 3) fun vv => z_go 96 [some (.ref 76)] [.int vv] 161 ((z_u2 I 76 4 (I 76 3)), J, RF w)) (fun _ => rfl) ?_
  refine z_evBn (N := 160) (f := ((z_u2 I 76 4 (I 76 3)) 77)) (k := s) rfl h_s (by omega) ?_
  refine z_evL ?_
  refine z_evG 1 (y := z_ret (z_cl E (d + 6) 78 [.int (I 77 s)] (161, ((z_u2 I 76 4 (I 76 3)), J, RF w))) 99 [some (.ref 76)] []) (fun _ => rfl) ?_
  refine z_evK (v := .int (z_bo (¬ (I 77 s) < 48 ∧ ¬ 57 < (I 77 s)))) (z' := 161) (σ' := ((z_u2 I 76 4 (I 76 3)), J, RF w)) (x_isDigit E (d + 5) (z_u2 I 76 4 (I 76 3)) J w (I 77 s)) ?_
  refine z_evG 1 (y := if (z_bo (¬ (I 77 s) < 48 ∧ ¬ 57 < (I 77 s))) = 0 then z_go 109 [some (.ref 76)] [] 161 ((z_u2 I 76 4 (I 76 3)), J, RF w) else z_go 102 [some (.ref 76)] [] 161 ((z_u2 I 76 4 (I 76 3)), J, RF w)) (fun _ => rfl) ?_
  refine z_evT (z_bo_0.mpr (mt (z_dgE (hb s (by omega)).1 (hb s (by omega)).2).mp hd)) ?_
  refine z_evL ?_
  refine z_evG 5 (y := z_ild (z_ia E 161 ((z_u2 I 76 4 (I 76 3)), J, RF w) 77) (I 76 3) fun vv => z_go 118 [some (.ref 76)] [.int vv] 161 ((z_u2 I 76 4 (I 76 3)), J, RF w)) (fun _ => rfl) ?_
  refine z_evBn (N := 160) (f := ((z_u2 I 76 4 (I 76 3)) 77)) (k := s) rfl h_s (by omega) ?_
  refine z_evL ?_
  refine z_evG 1 (y := z_ret (z_cl E (d + 6) 79 [.int (I 77 s)] (161, ((z_u2 I 76 4 (I 76 3)), J, RF w))) 121 [some (.ref 76)] []) (fun _ => rfl) ?_
  refine z_evK (v := .int (z_bo (¬ (I 77 s) < 97 ∧ ¬ 122 < (I 77 s)))) (z' := 161) (σ' := ((z_u2 I 76 4 (I 76 3)), J, RF w)) (x_isLetter E (d + 5) (z_u2 I 76 4 (I 76 3)) J w (I 77 s)) ?_
  refine z_evG 1 (y := if (z_bo (¬ (I 77 s) < 97 ∧ ¬ 122 < (I 77 s))) = 0 then z_go 131 [some (.ref 76)] [] 161 ((z_u2 I 76 4 (I 76 3)), J, RF w) else z_go 124 [some (.ref 76)] [] 161 ((z_u2 I 76 4 (I 76 3)), J, RF w)) (fun _ => rfl) ?_
  refine z_evT (z_bo_0.mpr (mt (z_alE (hb s (by omega)).1 (hb s (by omega)).2).mp ha)) ?_
  refine z_evL ?_
  refine z_evG 13 (y := z_ild (z_ia E 161 ((z_u2 (z_u2 I 76 4 (I 76 3)) 76 4 ((I 76 3) + 1)), J, RF w) 77) (I 76 3) fun vv => z_go 153 [some (.ref 76)] [.int vv, .ref 1004, .ref 76] 161 ((z_u2 (z_u2 I 76 4 (I 76 3)) 76 4 ((I 76 3) + 1)), J, RF w)) (fun _ => rfl) ?_
  refine z_evBn (N := 160) (f := ((z_u2 (z_u2 I 76 4 (I 76 3)) 76 4 ((I 76 3) + 1)) 77)) (k := s) rfl h_s (by omega) ?_
  refine z_evL ?_
  refine z_evG 2 (y := z_ret (z_cl E (d + 6) 263 [.ref 1004, .int (((I 77 s).toUInt32 % 65536).toInt32)] (161, ((z_u2 (z_u2 I 76 4 (I 76 3)) 76 4 ((I 76 3) + 1)), J, RF w))) 157 [some (.ref 76)] [.ref 76]) (fun _ => rfl) ?_
  refine z_evK (v := .int (z_enc (s_first (fun k => z_signsL.getD k 0 == (nI (b s)).toInt8.toInt32) 8))) (z' := 161) (σ' := ((z_u2 (z_u2 I 76 4 (I 76 3)) 76 4 ((I 76 3) + 1)), J, RF w)) ((congrArg (fun q => z_cl E (d + 6) 263 [.ref 1004, .int q] (161, (z_u2 (z_u2 I 76 4 (I 76 3)) 76 4 ((I 76 3) + 1)), J, RF w)) ((by rw [(hb s (by omega)).1]; exact z_chE _ (hb s (by omega)).2) : (((I 77 s).toUInt32 % 65536).toInt32 : Int32) = nI (b s))).trans (x_indexOf E (d + 2) (z_u2 (z_u2 I 76 4 (I 76 3)) 76 4 ((I 76 3) + 1)) J w (b s) (hb s (by omega)).2)) ?_
  refine z_evG 1 (y := if (z_enc (s_first (fun k => z_signsL.getD k 0 == (nI (b s)).toInt8.toInt32) 8)) < 0 then z_go 172 [some (.ref 76)] [.ref 76] 161 ((z_u2 (z_u2 I 76 4 (I 76 3)) 76 4 ((I 76 3) + 1)), J, RF w) else z_go 160 [some (.ref 76)] [.ref 76] 161 ((z_u2 (z_u2 I 76 4 (I 76 3)) 76 4 ((I 76 3) + 1)), J, RF w)) (fun _ => rfl) ?_
  refine z_evF (mt (z_sgE _ (hb s (by omega)).2).mp (fun q => q hg)) ?_
  refine z_evL ?_
  refine z_evG 5 (y := z_ild (z_ia E 161 ((z_u2 (z_u2 I 76 4 (I 76 3)) 76 4 ((I 76 3) + 1)), J, RF w) 77) (I 76 3) fun vv => z_go 169 [some (.ref 76)] [.int vv, .ref 76] 161 ((z_u2 (z_u2 I 76 4 (I 76 3)) 76 4 ((I 76 3) + 1)), J, RF w)) (fun _ => rfl) ?_
  refine z_evBn (N := 160) (f := ((z_u2 (z_u2 I 76 4 (I 76 3)) 76 4 ((I 76 3) + 1)) 77)) (k := s) rfl h_s (by omega) ?_
  refine z_evL ?_
  refine z_evG 3 (y := some (.inr (none, 161, (z_u2 (z_u2 (z_u2 I 76 4 (I 76 3)) 76 4 ((I 76 3) + 1)) 76 2 (I 77 s)), J, RF w))) (fun _ => rfl) ?_
  rw [show ((I 76 3) + 1 : Int32) = nI (s + 1) from (z_addE h_s rfl)]
  rw [show (I 77 s : Int32) = nI (b s) from (hb _ (by omega)).1]
  rw [show (I 76 3 : Int32) = nI s from h_s]
  exact z_evR rfl
set_option maxRecDepth 20000 in
theorem x_step_odd (E : zE) (d : Nat) (I : Nat → Nat → Int32) (J : Nat → Nat → Int64) (w : Nat) (b : Nat → Nat) (n s : Nat) (h_n : I 76 1 = nI n) (hm_n : n ≤ 160) (hb : ∀ k, k < n → I 77 k = nI (b k) ∧ b k < 256) (h_s : I 76 3 = nI s) (hsn : s ≤ n) (hz : s < n) (hd : ¬ s_dg b s = true) (ha : ¬ s_al b s = true) (hg : ¬ s_sg (b s) = true) : z_Ev E (d + 6) z_m74 60 [some (.ref 76)] [] 161 (I, J, RF w) (none, 161, (z_u2 (z_u2 (z_u2 I 76 4 (nI s)) 76 4 (nI (s + 1))) 76 2 1), J, RF w) := by
  refine z_evG 9 (y := if (I 76 3) < (I 76 1) then z_go 87 [some (.ref 76)] [] 161 ((z_u2 I 76 4 (I 76 3)), J, RF w) else z_go 79 [some (.ref 76)] [] 161 ((z_u2 I 76 4 (I 76 3)), J, RF w)) (fun _ => rfl) ?_
  refine z_evT ((z_ltN h_s h_n (by omega) (by omega)).mpr hz) ?_
  refine z_evL ?_
  refine z_evG 5 (y := z_ild (z_ia E 161 ((z_u2 I 76 4 (I 76 3)), J, RF w) 77) (I 76 3) fun vv => z_go 96 [some (.ref 76)] [.int vv] 161 ((z_u2 I 76 4 (I 76 3)), J, RF w)) (fun _ => rfl) ?_
  refine z_evBn (N := 160) (f := ((z_u2 I 76 4 (I 76 3)) 77)) (k := s) rfl h_s (by omega) ?_
  refine z_evL ?_
  refine z_evG 1 (y := z_ret (z_cl E (d + 6) 78 [.int (I 77 s)] (161, ((z_u2 I 76 4 (I 76 3)), J, RF w))) 99 [some (.ref 76)] []) (fun _ => rfl) ?_
  refine z_evK (v := .int (z_bo (¬ (I 77 s) < 48 ∧ ¬ 57 < (I 77 s)))) (z' := 161) (σ' := ((z_u2 I 76 4 (I 76 3)), J, RF w)) (x_isDigit E (d + 5) (z_u2 I 76 4 (I 76 3)) J w (I 77 s)) ?_
  refine z_evG 1 (y := if (z_bo (¬ (I 77 s) < 48 ∧ ¬ 57 < (I 77 s))) = 0 then z_go 109 [some (.ref 76)] [] 161 ((z_u2 I 76 4 (I 76 3)), J, RF w) else z_go 102 [some (.ref 76)] [] 161 ((z_u2 I 76 4 (I 76 3)), J, RF w)) (fun _ => rfl) ?_
  refine z_evT (z_bo_0.mpr (mt (z_dgE (hb s (by omega)).1 (hb s (by omega)).2).mp hd)) ?_
  refine z_evL ?_
  refine z_evG 5 (y := z_ild (z_ia E 161 ((z_u2 I 76 4 (I 76 3)), J, RF w) 77) (I 76 3) fun vv => z_go 118 [some (.ref 76)] [.int vv] 161 ((z_u2 I 76 4 (I 76 3)), J, RF w)) (fun _ => rfl) ?_
  refine z_evBn (N := 160) (f := ((z_u2 I 76 4 (I 76 3)) 77)) (k := s) rfl h_s (by omega) ?_
  refine z_evL ?_
  refine z_evG 1 (y := z_ret (z_cl E (d + 6) 79 [.int (I 77 s)] (161, ((z_u2 I 76 4 (I 76 3)), J, RF w))) 121 [some (.ref 76)] []) (fun _ => rfl) ?_
  refine z_evK (v := .int (z_bo (¬ (I 77 s) < 97 ∧ ¬ 122 < (I 77 s)))) (z' := 161) (σ' := ((z_u2 I 76 4 (I 76 3)), J, RF w)) (x_isLetter E (d + 5) (z_u2 I 76 4 (I 76 3)) J w (I 77 s)) ?_
  refine z_evG 1 (y := if (z_bo (¬ (I 77 s) < 97 ∧ ¬ 122 < (I 77 s))) = 0 then z_go 131 [some (.ref 76)] [] 161 ((z_u2 I 76 4 (I 76 3)), J, RF w) else z_go 124 [some (.ref 76)] [] 161 ((z_u2 I 76 4 (I 76 3)), J, RF w)) (fun _ => rfl) ?_
  refine z_evT (z_bo_0.mpr (mt (z_alE (hb s (by omega)).1 (hb s (by omega)).2).mp ha)) ?_
  refine z_evL ?_
  refine z_evG 13 (y := z_ild (z_ia E 161 ((z_u2 (z_u2 I 76 4 (I 76 3)) 76 4 ((I 76 3) + 1)), J, RF w) 77) (I 76 3) fun vv => z_go 153 [some (.ref 76)] [.int vv, .ref 1004, .ref 76] 161 ((z_u2 (z_u2 I 76 4 (I 76 3)) 76 4 ((I 76 3) + 1)), J, RF w)) (fun _ => rfl) ?_
  refine z_evBn (N := 160) (f := ((z_u2 (z_u2 I 76 4 (I 76 3)) 76 4 ((I 76 3) + 1)) 77)) (k := s) rfl h_s (by omega) ?_
  refine z_evL ?_
  refine z_evG 2 (y := z_ret (z_cl E (d + 6) 263 [.ref 1004, .int (((I 77 s).toUInt32 % 65536).toInt32)] (161, ((z_u2 (z_u2 I 76 4 (I 76 3)) 76 4 ((I 76 3) + 1)), J, RF w))) 157 [some (.ref 76)] [.ref 76]) (fun _ => rfl) ?_
  refine z_evK (v := .int (z_enc (s_first (fun k => z_signsL.getD k 0 == (nI (b s)).toInt8.toInt32) 8))) (z' := 161) (σ' := ((z_u2 (z_u2 I 76 4 (I 76 3)) 76 4 ((I 76 3) + 1)), J, RF w)) ((congrArg (fun q => z_cl E (d + 6) 263 [.ref 1004, .int q] (161, (z_u2 (z_u2 I 76 4 (I 76 3)) 76 4 ((I 76 3) + 1)), J, RF w)) ((by rw [(hb s (by omega)).1]; exact z_chE _ (hb s (by omega)).2) : (((I 77 s).toUInt32 % 65536).toInt32 : Int32) = nI (b s))).trans (x_indexOf E (d + 2) (z_u2 (z_u2 I 76 4 (I 76 3)) 76 4 ((I 76 3) + 1)) J w (b s) (hb s (by omega)).2)) ?_
  refine z_evG 1 (y := if (z_enc (s_first (fun k => z_signsL.getD k 0 == (nI (b s)).toInt8.toInt32) 8)) < 0 then z_go 172 [some (.ref 76)] [.ref 76] 161 ((z_u2 (z_u2 I 76 4 (I 76 3)) 76 4 ((I 76 3) + 1)), J, RF w) else z_go 160 [some (.ref 76)] [.ref 76] 161 ((z_u2 (z_u2 I 76 4 (I 76 3)) 76 4 ((I 76 3) + 1)), J, RF w)) (fun _ => rfl) ?_
  refine z_evT ((z_sgE _ (hb s (by omega)).2).mpr hg) ?_
  refine z_evL ?_
  refine z_evG 3 (y := some (.inr (none, 161, (z_u2 (z_u2 (z_u2 I 76 4 (I 76 3)) 76 4 ((I 76 3) + 1)) 76 2 1), J, RF w))) (fun _ => rfl) ?_
  rw [show ((I 76 3) + 1 : Int32) = nI (s + 1) from (z_addE h_s rfl)]
  rw [show (I 76 3 : Int32) = nI s from h_s]
  exact z_evR rfl
theorem z_stpA (I : Nat → Nat → Int32) (a e t : Int32) : z_u2 (z_u2 (z_u2 I 76 3 a) 76 4 e) 76 2 t = s_stp I a e (I 76 5) t := by
  funext c k
  unfold s_stp z_u2
  by_cases hc : c = 76
  · subst hc
    by_cases h2 : k = 2
    · simp [h2]
    · by_cases h3 : k = 3
      · simp [h3]
      · by_cases h4 : k = 4
        · simp [h4]
        · by_cases h5 : k = 5
          · simp [h5]
          · simp [h2, h3, h4, h5]
  · simp [hc]
theorem z_stpB (I : Nat → Nat → Int32) (a x e t : Int32) : z_u2 (z_u2 (z_u2 (z_u2 I 76 3 a) 76 4 x) 76 4 e) 76 2 t = s_stp I a e (I 76 5) t := by
  funext c k
  unfold s_stp z_u2
  by_cases hc : c = 76
  · subst hc
    by_cases h2 : k = 2
    · simp [h2]
    · by_cases h3 : k = 3
      · simp [h3]
      · by_cases h4 : k = 4
        · simp [h4]
        · by_cases h5 : k = 5
          · simp [h5]
          · simp [h2, h3, h4, h5]
  · simp [hc]
theorem z_stpC (I : Nat → Nat → Int32) (a x u e t : Int32) : z_u2 (z_u2 (z_u2 (z_u2 (z_u2 I 76 3 a) 76 4 x) 76 5 u) 76 4 e) 76 2 t = s_stp I a e u t := by
  funext c k
  unfold s_stp z_u2
  by_cases hc : c = 76
  · subst hc
    by_cases h2 : k = 2
    · simp [h2]
    · by_cases h3 : k = 3
      · simp [h3]
      · by_cases h4 : k = 4
        · simp [h4]
        · by_cases h5 : k = 5
          · simp [h5]
          · simp [h2, h3, h4, h5]
  · simp [hc]
theorem x_step (E : zE) (d : Nat) (I : Nat → Nat → Int32) (J : Nat → Nat → Int64) (w : Nat) (b : Nat → Nat) (n p : Nat) (h_n : I 76 1 = nI n) (hm_n : n ≤ 160) (hb : ∀ k, k < n → I 77 k = nI (b k) ∧ b k < 256) (h_p : I 76 4 = nI p) (hpn : p ≤ n) : z_cl E (d + 7) 74 [.ref 76] (161, I, J, RF w) = some (none, 161, s_stp I (nI (s_st b n p)) (nI (s_en b n p)) (s_nu b n p (I 76 5)) (nI (s_tok b n p)), J, RF w) := by
  refine z_call (d := d + 6) (M := z_m74) rfl rfl ?_
  refine x_step_pre E d I J w b n p h_n hm_n hb h_p hpn ?_
  have hle : s_st b n p ≤ n := s_rn_le (s_bl b) (n := n) (p := p) hpn
  show z_Ev E (d + 6) z_m74 60 [some (.ref 76)] [] 161 (z_u2 I 76 3 (nI (s_st b n p)), J, RF w) _
  by_cases hz : n ≤ s_st b n p
  · have := x_step_end E d (z_u2 I 76 3 (nI (s_st b n p))) J w b n (s_st b n p) h_n hm_n hb rfl hle hz
    rw [z_stpA] at this
    unfold s_tok s_en s_nu
    rw [if_pos hz, if_pos hz, if_pos hz]
    exact this
  · have hz' : s_st b n p < n := by omega
    unfold s_tok s_en s_nu
    rw [if_neg hz, if_neg hz, if_neg hz]
    by_cases hd : s_dg b (s_st b n p) = true
    · have := x_step_num E d (z_u2 I 76 3 (nI (s_st b n p))) J w b n (s_st b n p) h_n hm_n hb rfl hle hz' hd
      rw [z_stpC] at this
      rw [if_pos hd, if_pos hd, if_pos hd]
      by_cases h4 : 4 < s_rn (s_dg b) n (s_st b n p)
      · rw [if_pos h4] at this ⊢; exact this
      · rw [if_neg h4] at this ⊢; exact this
    · rw [if_neg hd, if_neg hd, if_neg hd]
      by_cases ha : s_al b (s_st b n p) = true
      · have := x_step_word E d (z_u2 I 76 3 (nI (s_st b n p))) J w b n (s_st b n p) h_n hm_n hb rfl hle hz' hd ha
        rw [z_stpB] at this
        rw [if_pos ha, if_pos ha]
        exact this
      · rw [if_neg ha, if_neg ha]
        by_cases hg : s_sg (b (s_st b n p)) = true
        · have := x_step_sign E d (z_u2 I 76 3 (nI (s_st b n p))) J w b n (s_st b n p) h_n hm_n hb rfl hle hz' hd ha hg
          rw [z_stpB] at this
          rw [if_pos hg]
          exact this
        · have := x_step_odd E d (z_u2 I 76 3 (nI (s_st b n p))) J w b n (s_st b n p) h_n hm_n hb rfl hle hz' hd ha hg
          rw [z_stpB] at this
          rw [if_neg hg]
          exact this
