-- TOKENS by the class
set_option maxRecDepth 20000 in
/-- LampHouse$Reader.isWord -/
theorem x_isWord (E : zE) (d : Nat) (I : Nat → Nat → Int32) (J : Nat → Nat → Int64) (w : Nat) (b : Nat → Nat) (k s e n : Nat) (h_n : I 76 1 = nI n) (hm_n : n ≤ 160) (hb : ∀ k, k < n → I 77 k = nI (b k) ∧ b k < 256) (h_s : I 76 3 = nI s) (h_e : I 76 4 = nI e) (hse : s ≤ e) (hen : e ≤ n) (hl_k : k < 11) : z_cl E (d + 5) 77 [.ref 76, .int (nI (3 + k))] (161, I, J, RF w) = some (some (.int (z_bo (s_isw b s e k = true))), 161, I, J, RF w) := by
  refine z_call (d := d + 4) (M := z_m77) rfl rfl ?_
  refine z_evG 13 (y := if ((I 76 4) - (I 76 3)) < 5 then z_go 19 [some (.ref 76), some (.int (nI (3 + k))), some (.int (((nI (3 + k)) - 3) * 5)), none, none] [] 161 (I, J, RF w) else z_go 30 [some (.ref 76), some (.int (nI (3 + k))), some (.int (((nI (3 + k)) - 3) * 5)), none, none] [] 161 (I, J, RF w)) (fun _ => rfl) ?_
  refine z_evIN (show _ ↔ (e - s) < 5 from z_ltN (z_subE h_e h_s (by omega)) rfl (by omega) (by omega)) (fun h1 => ?_) (fun h1 => ?_)
  · refine z_evL ?_
    refine z_evG 5 (y := z_ret (z_cl E (d + 4) 261 [.ref 1002] (161, (I, J, RF w))) 27 [some (.ref 76), some (.int (nI (3 + k))), some (.int (((nI (3 + k)) - 3) * 5)), none, none] [.int ((((nI (3 + k)) - 3) * 5) + 5)]) (fun _ => rfl) ?_
    refine z_evK (v := .int 55) (z' := 161) (σ' := (I, J, RF w)) (x_words_length E (d + 2) I J w) ?_
    refine z_evG 1 (y := if 55 < ((((nI (3 + k)) - 3) * 5) + 5) then z_go 30 [some (.ref 76), some (.int (nI (3 + k))), some (.int (((nI (3 + k)) - 3) * 5)), none, none] [] 161 (I, J, RF w) else z_go 32 [some (.ref 76), some (.int (nI (3 + k))), some (.int (((nI (3 + k)) - 3) * 5)), none, none] [] 161 (I, J, RF w)) (fun _ => rfl) ?_
    refine z_evF (mt (show _ ↔ 55 < k * 5 + 5 from z_ltN (b := k * 5 + 5) rfl (z_addE (z_mulE (z_sub3 k) rfl) rfl) (by decide) (by omega)).mp (by omega)) ?_
    refine z_evL ?_
    refine z_evG 2 (y := z_go 34 [some (.ref 76), some (.int (nI (3 + k))), some (.int (((nI (3 + k)) - 3) * 5)), some (.int 0), none] [] 161 (I, J, RF w)) (fun _ => rfl) ?_
    refine z_evL ?_
    refine z_loop (F := fun j => ([some (.ref 76), some (.int (nI (3 + k))), some (.int (((nI (3 + k)) - 3) * 5)), some (.int (nI j)), z_di (s_ltr b s e) j], (I, J, RF w))) (P := fun j => s_first (fun i => !(z_wordsL.getD (k * 5 + i) 0 == s_ltr b s e i)) j = none) 5 rfl (fun hP => ?_) (fun j hj hP next => ?_)
    · show z_Ev E (d + 4) z_m77 34 [some (.ref 76), some (.int (nI (3 + k))), some (.int (((nI (3 + k)) - 3) * 5)), some (.int (nI 5)), z_di (s_ltr b s e) 5] [] 161 (I, J, RF w) _
      refine z_evG 3 (y := if (nI 5) < 5 then z_go 39 [some (.ref 76), some (.int (nI (3 + k))), some (.int (((nI (3 + k)) - 3) * 5)), some (.int (nI 5)), z_di (s_ltr b s e) 5] [] 161 (I, J, RF w) else z_go 91 [some (.ref 76), some (.int (nI (3 + k))), some (.int (((nI (3 + k)) - 3) * 5)), some (.int (nI 5)), z_di (s_ltr b s e) 5] [] 161 (I, J, RF w)) (fun _ => rfl) ?_
      refine z_evF (mt (show _ ↔ 5 < 5 from z_ltN rfl rfl (by omega) (by omega)).mp (by omega)) ?_
      refine z_evL ?_
      refine z_evG 2 (y := some (.inr (some (.int 1), 161, I, J, RF w))) (fun _ => rfl) ?_
      exact z_evR (by rw [z_bo_t (show s_isw b s e k = true by unfold s_isw; rw [decide_eq_true (show e - s < 5 from h1), hP]; rfl)])
    · show z_Ev E (d + 4) z_m77 34 [some (.ref 76), some (.int (nI (3 + k))), some (.int (((nI (3 + k)) - 3) * 5)), some (.int (nI j)), z_di (s_ltr b s e) j] [] 161 (I, J, RF w) _
      have nx : (s_first (fun i => !(z_wordsL.getD (k * 5 + i) 0 == s_ltr b s e i)) (j + 1) = none) → z_Ev E (d + 4) z_m77 34 [some (.ref 76), some (.int (nI (3 + k))), some (.int (((nI (3 + k)) - 3) * 5)), some (.int (nI (j + 1))), z_di (s_ltr b s e) (j + 1)] [] 161 (I, J, RF w) _ := next
      refine z_evG 3 (y := if (nI j) < 5 then z_go 39 [some (.ref 76), some (.int (nI (3 + k))), some (.int (((nI (3 + k)) - 3) * 5)), some (.int (nI j)), z_di (s_ltr b s e) j] [] 161 (I, J, RF w) else z_go 91 [some (.ref 76), some (.int (nI (3 + k))), some (.int (((nI (3 + k)) - 3) * 5)), some (.int (nI j)), z_di (s_ltr b s e) j] [] 161 (I, J, RF w)) (fun _ => rfl) ?_
      refine z_evT ((show _ ↔ j < 5 from z_ltN rfl rfl (by omega) (by omega)).mpr (by omega)) ?_
      refine z_evL ?_
      refine z_evG 7 (y := if ((I 76 3) + (nI j)) < (I 76 4) then z_go 52 [some (.ref 76), some (.int (nI (3 + k))), some (.int (((nI (3 + k)) - 3) * 5)), some (.int (nI j)), z_di (s_ltr b s e) j] [] 161 (I, J, RF w) else z_go 66 [some (.ref 76), some (.int (nI (3 + k))), some (.int (((nI (3 + k)) - 3) * 5)), some (.int (nI j)), z_di (s_ltr b s e) j] [] 161 (I, J, RF w)) (fun _ => rfl) ?_
      refine z_evIN (show _ ↔ (s + j) < e from z_ltN (z_addE h_s rfl) h_e (by omega) (by omega)) (fun h5 => ?_) (fun h5 => ?_)
      · refine z_evL ?_
        refine z_evG 7 (y := z_ild (z_ia E 161 (I, J, RF w) 77) ((I 76 3) + (nI j)) fun vv => z_go 63 [some (.ref 76), some (.int (nI (3 + k))), some (.int (((nI (3 + k)) - 3) * 5)), some (.int (nI j)), z_di (s_ltr b s e) j] [.int vv] 161 (I, J, RF w)) (fun _ => rfl) ?_
        refine z_evBn (N := 160) (f := (I 77)) (k := (s + j)) rfl (z_addE h_s rfl) (by omega) ?_
        refine z_evL ?_
        refine z_evG 7 (y := z_ret (z_cl E (d + 4) 262 [.ref 1002, .int ((((nI (3 + k)) - 3) * 5) + (nI j))] (161, (I, J, RF w))) 78 [some (.ref 76), some (.int (nI (3 + k))), some (.int (((nI (3 + k)) - 3) * 5)), some (.int (nI j)), some (.int (I 77 (s + j)))] []) (fun _ => rfl) ?_
        refine z_evK (v := .int (z_wordsL.getD (k * 5 + j) 0)) (z' := 161) (σ' := (I, J, RF w)) ((congrArg (fun q => z_cl E (d + 4) 262 [.ref 1002, .int q] (161, I, J, RF w)) ((z_addE (z_mulE (z_sub3 k) rfl) rfl) : ((((nI (3 + k)) - 3) * 5) + (nI j) : Int32) = nI (k * 5 + j))).trans (x_charAt E d I J w (k * 5 + j) (by omega))) ?_
        refine z_evG 2 (y := if (z_wordsL.getD (k * 5 + j) 0) = (I 77 (s + j)) then z_go 85 [some (.ref 76), some (.int (nI (3 + k))), some (.int (((nI (3 + k)) - 3) * 5)), some (.int (nI j)), some (.int (I 77 (s + j)))] [] 161 (I, J, RF w) else z_go 83 [some (.ref 76), some (.int (nI (3 + k))), some (.int (((nI (3 + k)) - 3) * 5)), some (.int (nI j)), some (.int (I 77 (s + j)))] [] 161 (I, J, RF w)) (fun _ => rfl) ?_
        refine z_evI (fun h6 => ?_) (fun h6 => ?_)
        · refine z_evL ?_
          refine z_evG 2 (y := z_go 34 [some (.ref 76), some (.int (nI (3 + k))), some (.int (((nI (3 + k)) - 3) * 5)), some (.int ((nI j) + 1)), some (.int (I 77 (s + j)))] [] 161 (I, J, RF w)) (fun _ => rfl) ?_
          refine z_evL ?_
          have hq : ¬ (fun i => !(z_wordsL.getD (k * 5 + i) 0 == s_ltr b s e i)) j = true := by
            show ¬ (!(z_wordsL.getD (k * 5 + j) 0 == s_ltr b s e j)) = true
            rw [(show s_ltr b s e j = nI (b (s + j)) from if_pos h5), beq_iff_eq.mpr (show z_wordsL.getD (k * 5 + j) 0 = _ from (h6.trans (hb _ (by omega)).1))]; decide
          rw [show z_di (s_ltr b s e) (j + 1) = some (.int (s_ltr b s e j)) from rfl, (show s_ltr b s e j = nI (b (s + j)) from if_pos h5)] at nx
          rw [nI_1 j]
          rw [(hb (s + j) (by omega)).1]
          exact nx (s_first_f hP hq)
        · refine z_evL ?_
          refine z_evG 2 (y := some (.inr (some (.int 0), 161, I, J, RF w))) (fun _ => rfl) ?_
          have hq : (fun i => !(z_wordsL.getD (k * 5 + i) 0 == s_ltr b s e i)) j = true := by
            show (!(z_wordsL.getD (k * 5 + j) 0 == s_ltr b s e j)) = true
            rw [(show s_ltr b s e j = nI (b (s + j)) from if_pos h5), beq_eq_false_iff_ne.mpr (show z_wordsL.getD (k * 5 + j) 0 ≠ _ from fun q => h6 (q.trans (hb _ (by omega)).1.symm))]; rfl
          have hf := s_first_hit hj hP hq
          exact z_evR (by rw [z_bo_f (show ¬ s_isw b s e k = true by unfold s_isw; rw [hf, Bool.and_comm]; exact Bool.false_ne_true)])
      · refine z_evL ?_
        refine z_evG 7 (y := z_ret (z_cl E (d + 4) 262 [.ref 1002, .int ((((nI (3 + k)) - 3) * 5) + (nI j))] (161, (I, J, RF w))) 78 [some (.ref 76), some (.int (nI (3 + k))), some (.int (((nI (3 + k)) - 3) * 5)), some (.int (nI j)), some (.int 32)] []) (fun _ => rfl) ?_
        refine z_evK (v := .int (z_wordsL.getD (k * 5 + j) 0)) (z' := 161) (σ' := (I, J, RF w)) ((congrArg (fun q => z_cl E (d + 4) 262 [.ref 1002, .int q] (161, I, J, RF w)) ((z_addE (z_mulE (z_sub3 k) rfl) rfl) : ((((nI (3 + k)) - 3) * 5) + (nI j) : Int32) = nI (k * 5 + j))).trans (x_charAt E d I J w (k * 5 + j) (by omega))) ?_
        refine z_evG 2 (y := if (z_wordsL.getD (k * 5 + j) 0) = 32 then z_go 85 [some (.ref 76), some (.int (nI (3 + k))), some (.int (((nI (3 + k)) - 3) * 5)), some (.int (nI j)), some (.int 32)] [] 161 (I, J, RF w) else z_go 83 [some (.ref 76), some (.int (nI (3 + k))), some (.int (((nI (3 + k)) - 3) * 5)), some (.int (nI j)), some (.int 32)] [] 161 (I, J, RF w)) (fun _ => rfl) ?_
        refine z_evI (fun h7 => ?_) (fun h7 => ?_)
        · refine z_evL ?_
          refine z_evG 2 (y := z_go 34 [some (.ref 76), some (.int (nI (3 + k))), some (.int (((nI (3 + k)) - 3) * 5)), some (.int ((nI j) + 1)), some (.int 32)] [] 161 (I, J, RF w)) (fun _ => rfl) ?_
          refine z_evL ?_
          have hq : ¬ (fun i => !(z_wordsL.getD (k * 5 + i) 0 == s_ltr b s e i)) j = true := by
            show ¬ (!(z_wordsL.getD (k * 5 + j) 0 == s_ltr b s e j)) = true
            rw [(show s_ltr b s e j = 32 from if_neg h5), beq_iff_eq.mpr (show z_wordsL.getD (k * 5 + j) 0 = _ from h7)]; decide
          rw [show z_di (s_ltr b s e) (j + 1) = some (.int (s_ltr b s e j)) from rfl, (show s_ltr b s e j = 32 from if_neg h5)] at nx
          rw [nI_1 j]
          exact nx (s_first_f hP hq)
        · refine z_evL ?_
          refine z_evG 2 (y := some (.inr (some (.int 0), 161, I, J, RF w))) (fun _ => rfl) ?_
          have hq : (fun i => !(z_wordsL.getD (k * 5 + i) 0 == s_ltr b s e i)) j = true := by
            show (!(z_wordsL.getD (k * 5 + j) 0 == s_ltr b s e j)) = true
            rw [(show s_ltr b s e j = 32 from if_neg h5), beq_eq_false_iff_ne.mpr (show z_wordsL.getD (k * 5 + j) 0 ≠ _ from h7)]; rfl
          have hf := s_first_hit hj hP hq
          exact z_evR (by rw [z_bo_f (show ¬ s_isw b s e k = true by unfold s_isw; rw [hf, Bool.and_comm]; exact Bool.false_ne_true)])
  · refine z_evL ?_
    refine z_evG 2 (y := some (.inr (some (.int 0), 161, I, J, RF w))) (fun _ => rfl) ?_
    exact z_evR (by rw [z_bo_f (show ¬ s_isw b s e k = true by unfold s_isw; rw [decide_eq_false (show ¬ e - s < 5 from h1)]; exact Bool.false_ne_true)])
set_option maxRecDepth 20000 in
/-- LampHouse$Reader.stepNumber -/
theorem x_stepNumber (E : zE) (d : Nat) (I : Nat → Nat → Int32) (J : Nat → Nat → Int64) (w : Nat) (b : Nat → Nat) (n s : Nat) (h_n : I 76 1 = nI n) (hm_n : n ≤ 160) (hb : ∀ k, k < n → I 77 k = nI (b k) ∧ b k < 256) (h_s : I 76 3 = nI s) (h_e : I 76 4 = nI s) (hsn : s ≤ n) : z_cl E (d + 2) 75 [.ref 76] (161, I, J, RF w) = some (none, 161, (z_u2 (z_u2 (z_u2 I 76 5 (s_dec b s (s_rn (s_dg b) n s))) 76 4 (nI (s + (s_rn (s_dg b) n s)))) 76 2 (if 4 < s_rn (s_dg b) n s then 1 else 2)), J, RF w) := by
  refine z_call (d := d + 1) (M := z_m75) rfl rfl ?_
  refine z_evG 3 (y := z_go 5 [some (.ref 76)] [] 161 ((z_u2 I 76 5 0), J, RF w)) (fun _ => rfl) ?_
  refine z_evL ?_
  have st0 : ∀ m0, m0 = 0 → ∀ qz, z_Ev E (d + 1) z_m75 5 [some (.ref 76)] [] 161 ((z_u2 (z_u2 I 76 5 (s_dec b s m0)) 76 4 (nI (s + m0))), J, RF w) qz → z_Ev E (d + 1) z_m75 5 [some (.ref 76)] [] 161 ((z_u2 I 76 5 0), J, RF w) qz := by intro m0 hm0 qz h; rw [hm0, z_u2_id (show (z_u2 I 76 5 (s_dec b s 0)) 76 4 = nI (s + 0) from h_e)] at h; subst hm0; exact h
  refine st0 0 rfl _ ?_
  refine z_loop (F := fun k => ([some (.ref 76)], ((z_u2 (z_u2 I 76 5 (s_dec b s k)) 76 4 (nI (s + k))), J, RF w))) (P := fun k => True) (s_rn (s_dg b) n s) trivial (fun hP => ?_) (fun k hk hP next => ?_)
  · show z_Ev E (d + 1) z_m75 5 [some (.ref 76)] [] 161 ((z_u2 (z_u2 I 76 5 (s_dec b s (s_rn (s_dg b) n s))) 76 4 (nI (s + (s_rn (s_dg b) n s)))), J, RF w) _
    have hle := s_rn_le (s_dg b) (n := n) (p := s) (by omega)
    refine z_evG 5 (y := if (nI (s + (s_rn (s_dg b) n s))) < (I 76 1) then z_go 16 [some (.ref 76)] [] 161 ((z_u2 (z_u2 I 76 5 (s_dec b s (s_rn (s_dg b) n s))) 76 4 (nI (s + (s_rn (s_dg b) n s)))), J, RF w) else z_go 68 [some (.ref 76)] [] 161 ((z_u2 (z_u2 I 76 5 (s_dec b s (s_rn (s_dg b) n s))) 76 4 (nI (s + (s_rn (s_dg b) n s)))), J, RF w)) (fun _ => rfl) ?_
    refine z_evIN (show _ ↔ (s + (s_rn (s_dg b) n s)) < n from z_ltN rfl h_n (by omega) (by omega)) (fun h1 => ?_) (fun h1 => ?_)
    · refine z_evL ?_
      refine z_evG 5 (y := z_ild (z_ia E 161 ((z_u2 (z_u2 I 76 5 (s_dec b s (s_rn (s_dg b) n s))) 76 4 (nI (s + (s_rn (s_dg b) n s)))), J, RF w) 77) (nI (s + (s_rn (s_dg b) n s))) fun vv => z_go 25 [some (.ref 76)] [.int vv] 161 ((z_u2 (z_u2 I 76 5 (s_dec b s (s_rn (s_dg b) n s))) 76 4 (nI (s + (s_rn (s_dg b) n s)))), J, RF w)) (fun _ => rfl) ?_
      refine z_evBn (N := 160) (f := ((z_u2 (z_u2 I 76 5 (s_dec b s (s_rn (s_dg b) n s))) 76 4 (nI (s + (s_rn (s_dg b) n s)))) 77)) (k := (s + (s_rn (s_dg b) n s))) rfl rfl (by omega) ?_
      refine z_evL ?_
      refine z_evG 1 (y := z_ret (z_cl E (d + 1) 78 [.int (I 77 (s + (s_rn (s_dg b) n s)))] (161, ((z_u2 (z_u2 I 76 5 (s_dec b s (s_rn (s_dg b) n s))) 76 4 (nI (s + (s_rn (s_dg b) n s)))), J, RF w))) 28 [some (.ref 76)] []) (fun _ => rfl) ?_
      refine z_evK (v := .int (z_bo (¬ (I 77 (s + (s_rn (s_dg b) n s))) < 48 ∧ ¬ 57 < (I 77 (s + (s_rn (s_dg b) n s)))))) (z' := 161) (σ' := ((z_u2 (z_u2 I 76 5 (s_dec b s (s_rn (s_dg b) n s))) 76 4 (nI (s + (s_rn (s_dg b) n s)))), J, RF w)) (x_isDigit E d (z_u2 (z_u2 I 76 5 (s_dec b s (s_rn (s_dg b) n s))) 76 4 (nI (s + (s_rn (s_dg b) n s)))) J w (I 77 (s + (s_rn (s_dg b) n s)))) ?_
      refine z_evG 1 (y := if (z_bo (¬ (I 77 (s + (s_rn (s_dg b) n s))) < 48 ∧ ¬ 57 < (I 77 (s + (s_rn (s_dg b) n s))))) = 0 then z_go 68 [some (.ref 76)] [] 161 ((z_u2 (z_u2 I 76 5 (s_dec b s (s_rn (s_dg b) n s))) 76 4 (nI (s + (s_rn (s_dg b) n s)))), J, RF w) else z_go 31 [some (.ref 76)] [] 161 ((z_u2 (z_u2 I 76 5 (s_dec b s (s_rn (s_dg b) n s))) 76 4 (nI (s + (s_rn (s_dg b) n s)))), J, RF w)) (fun _ => rfl) ?_
      refine z_evO (fun h2 => ?_) (fun h2 => ?_)
      · refine z_evL ?_
        refine z_evG 8 (y := if 4 < ((nI (s + (s_rn (s_dg b) n s))) - (I 76 3)) then z_go 82 [some (.ref 76)] [.ref 76] 161 ((z_u2 (z_u2 I 76 5 (s_dec b s (s_rn (s_dg b) n s))) 76 4 (nI (s + (s_rn (s_dg b) n s)))), J, RF w) else z_go 86 [some (.ref 76)] [.ref 76] 161 ((z_u2 (z_u2 I 76 5 (s_dec b s (s_rn (s_dg b) n s))) 76 4 (nI (s + (s_rn (s_dg b) n s)))), J, RF w)) (fun _ => rfl) ?_
        refine z_evIN (show _ ↔ 4 < ((s + (s_rn (s_dg b) n s)) - s) from z_ltN rfl (z_subE rfl h_s (by omega)) (by omega) (by omega)) (fun h3 => ?_) (fun h3 => ?_)
        · refine z_evL ?_
          refine z_evG 4 (y := some (.inr (none, 161, (z_u2 (z_u2 (z_u2 I 76 5 (s_dec b s (s_rn (s_dg b) n s))) 76 4 (nI (s + (s_rn (s_dg b) n s)))) 76 2 1), J, RF w))) (fun _ => rfl) ?_
          exact z_evR (by rw [if_pos (show 4 < s_rn (s_dg b) n s from by have := h3; omega)])
        · refine z_evL ?_
          refine z_evG 3 (y := some (.inr (none, 161, (z_u2 (z_u2 (z_u2 I 76 5 (s_dec b s (s_rn (s_dg b) n s))) 76 4 (nI (s + (s_rn (s_dg b) n s)))) 76 2 2), J, RF w))) (fun _ => rfl) ?_
          exact z_evR (by rw [if_neg (show ¬ 4 < s_rn (s_dg b) n s from by have := h3; omega)])
      · refine z_evL ?_
        exact absurd ⟨h1, (z_dgE (hb _ h1).1 (hb _ h1).2).mp h2⟩ (s_rn_end _ _ _)
    · refine z_evL ?_
      refine z_evG 8 (y := if 4 < ((nI (s + (s_rn (s_dg b) n s))) - (I 76 3)) then z_go 82 [some (.ref 76)] [.ref 76] 161 ((z_u2 (z_u2 I 76 5 (s_dec b s (s_rn (s_dg b) n s))) 76 4 (nI (s + (s_rn (s_dg b) n s)))), J, RF w) else z_go 86 [some (.ref 76)] [.ref 76] 161 ((z_u2 (z_u2 I 76 5 (s_dec b s (s_rn (s_dg b) n s))) 76 4 (nI (s + (s_rn (s_dg b) n s)))), J, RF w)) (fun _ => rfl) ?_
      refine z_evIN (show _ ↔ 4 < ((s + (s_rn (s_dg b) n s)) - s) from z_ltN rfl (z_subE rfl h_s (by omega)) (by omega) (by omega)) (fun h4 => ?_) (fun h4 => ?_)
      · refine z_evL ?_
        refine z_evG 4 (y := some (.inr (none, 161, (z_u2 (z_u2 (z_u2 I 76 5 (s_dec b s (s_rn (s_dg b) n s))) 76 4 (nI (s + (s_rn (s_dg b) n s)))) 76 2 1), J, RF w))) (fun _ => rfl) ?_
        exact z_evR (by rw [if_pos (show 4 < s_rn (s_dg b) n s from by have := h4; omega)])
      · refine z_evL ?_
        refine z_evG 3 (y := some (.inr (none, 161, (z_u2 (z_u2 (z_u2 I 76 5 (s_dec b s (s_rn (s_dg b) n s))) 76 4 (nI (s + (s_rn (s_dg b) n s)))) 76 2 2), J, RF w))) (fun _ => rfl) ?_
        exact z_evR (by rw [if_neg (show ¬ 4 < s_rn (s_dg b) n s from by have := h4; omega)])
  · show z_Ev E (d + 1) z_m75 5 [some (.ref 76)] [] 161 ((z_u2 (z_u2 I 76 5 (s_dec b s k)) 76 4 (nI (s + k))), J, RF w) _
    have hx := s_rn_lt hk
    have nx : (True) → z_Ev E (d + 1) z_m75 5 [some (.ref 76)] [] 161 ((z_u2 (z_u2 I 76 5 (s_dec b s (k + 1))) 76 4 (nI (s + (k + 1)))), J, RF w) _ := next
    refine z_evG 5 (y := if (nI (s + k)) < (I 76 1) then z_go 16 [some (.ref 76)] [] 161 ((z_u2 (z_u2 I 76 5 (s_dec b s k)) 76 4 (nI (s + k))), J, RF w) else z_go 68 [some (.ref 76)] [] 161 ((z_u2 (z_u2 I 76 5 (s_dec b s k)) 76 4 (nI (s + k))), J, RF w)) (fun _ => rfl) ?_
    refine z_evT ((z_ltN rfl h_n (by omega) (by omega)).mpr hx.1) ?_
    refine z_evL ?_
    refine z_evG 5 (y := z_ild (z_ia E 161 ((z_u2 (z_u2 I 76 5 (s_dec b s k)) 76 4 (nI (s + k))), J, RF w) 77) (nI (s + k)) fun vv => z_go 25 [some (.ref 76)] [.int vv] 161 ((z_u2 (z_u2 I 76 5 (s_dec b s k)) 76 4 (nI (s + k))), J, RF w)) (fun _ => rfl) ?_
    refine z_evBn (N := 160) (f := ((z_u2 (z_u2 I 76 5 (s_dec b s k)) 76 4 (nI (s + k))) 77)) (k := (s + k)) rfl rfl (by omega) ?_
    refine z_evL ?_
    refine z_evG 1 (y := z_ret (z_cl E (d + 1) 78 [.int (I 77 (s + k))] (161, ((z_u2 (z_u2 I 76 5 (s_dec b s k)) 76 4 (nI (s + k))), J, RF w))) 28 [some (.ref 76)] []) (fun _ => rfl) ?_
    refine z_evK (v := .int (z_bo (¬ (I 77 (s + k)) < 48 ∧ ¬ 57 < (I 77 (s + k))))) (z' := 161) (σ' := ((z_u2 (z_u2 I 76 5 (s_dec b s k)) 76 4 (nI (s + k))), J, RF w)) (x_isDigit E d (z_u2 (z_u2 I 76 5 (s_dec b s k)) 76 4 (nI (s + k))) J w (I 77 (s + k))) ?_
    refine z_evG 1 (y := if (z_bo (¬ (I 77 (s + k)) < 48 ∧ ¬ 57 < (I 77 (s + k)))) = 0 then z_go 68 [some (.ref 76)] [] 161 ((z_u2 (z_u2 I 76 5 (s_dec b s k)) 76 4 (nI (s + k))), J, RF w) else z_go 31 [some (.ref 76)] [] 161 ((z_u2 (z_u2 I 76 5 (s_dec b s k)) 76 4 (nI (s + k))), J, RF w)) (fun _ => rfl) ?_
    refine z_evF (fun q0 => z_bo_0.mp q0 ((z_dgE (hb _ hx.1).1 (hb _ hx.1).2).mpr hx.2)) ?_
    refine z_evL ?_
    refine z_evG 10 (y := z_ild (z_ia E 161 ((z_u2 (z_u2 I 76 5 (s_dec b s k)) 76 4 (nI (s + k))), J, RF w) 77) (nI (s + k)) fun vv => z_go 48 [some (.ref 76)] [.int vv, .int ((s_dec b s k) * 10), .ref 76] 161 ((z_u2 (z_u2 I 76 5 (s_dec b s k)) 76 4 (nI (s + k))), J, RF w)) (fun _ => rfl) ?_
    refine z_evBn (N := 160) (f := ((z_u2 (z_u2 I 76 5 (s_dec b s k)) 76 4 (nI (s + k))) 77)) (k := (s + k)) rfl rfl (by omega) ?_
    refine z_evL ?_
    refine z_evG 11 (y := z_go 5 [some (.ref 76)] [] 161 ((z_u2 (z_u2 (z_u2 (z_u2 I 76 5 (s_dec b s k)) 76 4 (nI (s + k))) 76 5 ((((s_dec b s k) * 10) + (I 77 (s + k))) - 48)) 76 4 ((nI (s + k)) + 1)), J, RF w)) (fun _ => rfl) ?_
    refine z_evL ?_
    rw [nI_1 (s + k), (hb _ hx.1).1, z_u22 _ _ _ _ _ (by decide)]
    exact nx trivial
def s_fk (P : Nat → Bool) (n : Nat) : Nat := match s_first P n with
  | none => n
  | some j => j + 1
theorem s_first_some {P : Nat → Bool} : ∀ {n j : Nat}, s_first P n = some j → j < n ∧ s_first P j = none ∧ P j = true
  | 0, _, h => by cases h
  | n + 1, j, h => by
    change (match s_first P n with | some j => some j | none => if P n then some n else none) = some j at h
    cases q : s_first P n with
    | some i =>
      rw [q] at h
      have e : i = j := by injection h
      subst e
      have := s_first_some q
      exact ⟨by omega, this.2⟩
    | none =>
      rw [q] at h
      change (if P n then some n else none) = some j at h
      by_cases r : P n = true
      · rw [if_pos r] at h
        have e : n = j := by injection h
        subst e
        exact ⟨by omega, q, r⟩
      · rw [if_neg r] at h; cases h
theorem s_first_none {P : Nat → Bool} {n : Nat} (h : s_first P n = none) : ∀ k, k ≤ n → s_first P k = none := by
  intro k hk
  cases q : s_first P k with
  | none => rfl
  | some j =>
    have := s_first_stick q (n - k)
    rw [show k + (n - k) = n by omega, h] at this
    cases this
theorem s_fk_lt {P : Nat → Bool} {n k : Nat} (h : k < s_fk P n) : s_first P k = none ∧ k < n := by
  unfold s_fk at h
  cases q : s_first P n with
  | none => rw [q] at h; exact ⟨s_first_none q k (Nat.le_of_lt h), h⟩
  | some j =>
    rw [q] at h
    change k < j + 1 at h
    obtain ⟨h1, h2, _⟩ := s_first_some q
    exact ⟨s_first_none h2 k (by omega), by omega⟩
theorem s_fk_eq (P : Nat → Bool) (n : Nat) : s_first P (s_fk P n) = s_first P n := by
  unfold s_fk
  cases q : s_first P n with
  | none => exact q
  | some j => obtain ⟨h1, h2, h3⟩ := s_first_some q; exact s_first_t h2 h3
theorem s_fk_le (P : Nat → Bool) (n : Nat) : s_fk P n ≤ n := by
  unfold s_fk
  cases q : s_first P n with
  | none => exact Nat.le_refl n
  | some j => exact (s_first_some q).1
theorem s_fk_end {P : Nat → Bool} {n : Nat} (h : s_fk P n < n) : s_first P n ≠ none := by
  intro q
  unfold s_fk at h
  rw [q] at h
  exact Nat.lt_irrefl _ h
theorem s_wtok1 {P : Nat → Bool} {n : Nat} (hn : n ≤ 11) (h : s_first P n ≠ none) : ¬ nI (s_wtok (s_first P n)) = 1 := by
  cases q : s_first P n with
  | none => exact absurd q h
  | some j =>
    have := (s_first_some q).1
    show ¬ nI (3 + j) = 1
    rw [show (nI (3 + j) = 1) ↔ 3 + j = 1 from z_eqN rfl rfl (by omega) (by decide)]
    omega
set_option maxRecDepth 20000 in
/-- LampHouse$Reader.stepWord -/
theorem x_stepWord (E : zE) (d : Nat) (I : Nat → Nat → Int32) (J : Nat → Nat → Int64) (w : Nat) (b : Nat → Nat) (n s : Nat) (h_n : I 76 1 = nI n) (hm_n : n ≤ 160) (hb : ∀ k, k < n → I 77 k = nI (b k) ∧ b k < 256) (h_s : I 76 3 = nI s) (h_e : I 76 4 = nI s) (hsn : s ≤ n) : z_cl E (d + 6) 76 [.ref 76] (161, I, J, RF w) = some (none, 161, (z_u2 (z_u2 I 76 4 (nI (s + (s_rn (s_al b) n s)))) 76 2 (nI (s_wtok (s_first (s_isw b s (s + (s_rn (s_al b) n s))) 11)))), J, RF w) := by
  refine z_call (d := d + 5) (M := z_m76) rfl rfl ?_
  have st0 : ∀ m0, m0 = 0 → ∀ qz, z_Ev E (d + 5) z_m76 0 [some (.ref 76), none] [] 161 ((z_u2 I 76 4 (nI (s + m0))), J, RF w) qz → z_Ev E (d + 5) z_m76 0 [some (.ref 76), none] [] 161 (I, J, RF w) qz := by intro m0 hm0 qz h; rw [hm0, z_u2_id (show I 76 4 = nI (s + 0) from h_e)] at h; subst hm0; exact h
  refine st0 0 rfl _ ?_
  refine z_loop (F := fun k => ([some (.ref 76), none], ((z_u2 I 76 4 (nI (s + k))), J, RF w))) (P := fun k => True) (s_rn (s_al b) n s) trivial (fun hP => ?_) (fun k hk hP next => ?_)
  · show z_Ev E (d + 5) z_m76 0 [some (.ref 76), none] [] 161 ((z_u2 I 76 4 (nI (s + (s_rn (s_al b) n s)))), J, RF w) _
    have hle := s_rn_le (s_al b) (n := n) (p := s) (by omega)
    refine z_evG 5 (y := if (nI (s + (s_rn (s_al b) n s))) < (I 76 1) then z_go 11 [some (.ref 76), none] [] 161 ((z_u2 I 76 4 (nI (s + (s_rn (s_al b) n s)))), J, RF w) else z_go 39 [some (.ref 76), none] [] 161 ((z_u2 I 76 4 (nI (s + (s_rn (s_al b) n s)))), J, RF w)) (fun _ => rfl) ?_
    refine z_evIN (show _ ↔ (s + (s_rn (s_al b) n s)) < n from z_ltN rfl h_n (by omega) (by omega)) (fun h1 => ?_) (fun h1 => ?_)
    · refine z_evL ?_
      refine z_evG 5 (y := z_ild (z_ia E 161 ((z_u2 I 76 4 (nI (s + (s_rn (s_al b) n s)))), J, RF w) 77) (nI (s + (s_rn (s_al b) n s))) fun vv => z_go 20 [some (.ref 76), none] [.int vv] 161 ((z_u2 I 76 4 (nI (s + (s_rn (s_al b) n s)))), J, RF w)) (fun _ => rfl) ?_
      refine z_evBn (N := 160) (f := ((z_u2 I 76 4 (nI (s + (s_rn (s_al b) n s)))) 77)) (k := (s + (s_rn (s_al b) n s))) rfl rfl (by omega) ?_
      refine z_evL ?_
      refine z_evG 1 (y := z_ret (z_cl E (d + 5) 79 [.int (I 77 (s + (s_rn (s_al b) n s)))] (161, ((z_u2 I 76 4 (nI (s + (s_rn (s_al b) n s)))), J, RF w))) 23 [some (.ref 76), none] []) (fun _ => rfl) ?_
      refine z_evK (v := .int (z_bo (¬ (I 77 (s + (s_rn (s_al b) n s))) < 97 ∧ ¬ 122 < (I 77 (s + (s_rn (s_al b) n s)))))) (z' := 161) (σ' := ((z_u2 I 76 4 (nI (s + (s_rn (s_al b) n s)))), J, RF w)) (x_isLetter E (d + 4) (z_u2 I 76 4 (nI (s + (s_rn (s_al b) n s)))) J w (I 77 (s + (s_rn (s_al b) n s)))) ?_
      refine z_evG 1 (y := if (z_bo (¬ (I 77 (s + (s_rn (s_al b) n s))) < 97 ∧ ¬ 122 < (I 77 (s + (s_rn (s_al b) n s))))) = 0 then z_go 39 [some (.ref 76), none] [] 161 ((z_u2 I 76 4 (nI (s + (s_rn (s_al b) n s)))), J, RF w) else z_go 26 [some (.ref 76), none] [] 161 ((z_u2 I 76 4 (nI (s + (s_rn (s_al b) n s)))), J, RF w)) (fun _ => rfl) ?_
      refine z_evO (fun h2 => ?_) (fun h2 => ?_)
      · refine z_evL ?_
        refine z_evG 5 (y := z_go 46 [some (.ref 76), some (.int 3)] [] 161 ((z_u2 (z_u2 I 76 4 (nI (s + (s_rn (s_al b) n s)))) 76 2 1), J, RF w)) (fun _ => rfl) ?_
        refine z_evL ?_
        refine z_loop (F := fun j => ([some (.ref 76), some (.int (nI (3 + j)))], ((z_u2 (z_u2 I 76 4 (nI (s + (s_rn (s_al b) n s)))) 76 2 (nI (s_wtok (s_first (s_isw b s (s + (s_rn (s_al b) n s))) j)))), J, RF w))) (P := fun j => True) (s_fk (s_isw b s (s + (s_rn (s_al b) n s))) 11) trivial (fun hP => ?_) (fun j hj hP next => ?_)
        · show z_Ev E (d + 5) z_m76 46 [some (.ref 76), some (.int (nI (3 + (s_fk (s_isw b s (s + (s_rn (s_al b) n s))) 11))))] [] 161 ((z_u2 (z_u2 I 76 4 (nI (s + (s_rn (s_al b) n s)))) 76 2 (nI (s_wtok (s_first (s_isw b s (s + (s_rn (s_al b) n s))) (s_fk (s_isw b s (s + (s_rn (s_al b) n s))) 11))))), J, RF w) _
          have hf2 := s_fk_le (s_isw b s (s + (s_rn (s_al b) n s))) 11
          refine z_evG 3 (y := if 13 < (nI (3 + (s_fk (s_isw b s (s + (s_rn (s_al b) n s))) 11))) then z_go 79 [some (.ref 76), some (.int (nI (3 + (s_fk (s_isw b s (s + (s_rn (s_al b) n s))) 11))))] [] 161 ((z_u2 (z_u2 I 76 4 (nI (s + (s_rn (s_al b) n s)))) 76 2 (nI (s_wtok (s_first (s_isw b s (s + (s_rn (s_al b) n s))) (s_fk (s_isw b s (s + (s_rn (s_al b) n s))) 11))))), J, RF w) else z_go 52 [some (.ref 76), some (.int (nI (3 + (s_fk (s_isw b s (s + (s_rn (s_al b) n s))) 11))))] [] 161 ((z_u2 (z_u2 I 76 4 (nI (s + (s_rn (s_al b) n s)))) 76 2 (nI (s_wtok (s_first (s_isw b s (s + (s_rn (s_al b) n s))) (s_fk (s_isw b s (s + (s_rn (s_al b) n s))) 11))))), J, RF w)) (fun _ => rfl) ?_
          refine z_evIN (show _ ↔ 13 < (3 + (s_fk (s_isw b s (s + (s_rn (s_al b) n s))) 11)) from z_ltN rfl rfl (by omega) (by omega)) (fun h3 => ?_) (fun h3 => ?_)
          · refine z_evL ?_
            refine z_evG 1 (y := some (.inr (none, 161, (z_u2 (z_u2 I 76 4 (nI (s + (s_rn (s_al b) n s)))) 76 2 (nI (s_wtok (s_first (s_isw b s (s + (s_rn (s_al b) n s))) (s_fk (s_isw b s (s + (s_rn (s_al b) n s))) 11))))), J, RF w))) (fun _ => rfl) ?_
            exact z_evR (by rw [s_fk_eq])
          · refine z_evL ?_
            refine z_evG 4 (y := if (nI (s_wtok (s_first (s_isw b s (s + (s_rn (s_al b) n s))) (s_fk (s_isw b s (s + (s_rn (s_al b) n s))) 11)))) = 1 then z_go 60 [some (.ref 76), some (.int (nI (3 + (s_fk (s_isw b s (s + (s_rn (s_al b) n s))) 11))))] [] 161 ((z_u2 (z_u2 I 76 4 (nI (s + (s_rn (s_al b) n s)))) 76 2 (nI (s_wtok (s_first (s_isw b s (s + (s_rn (s_al b) n s))) (s_fk (s_isw b s (s + (s_rn (s_al b) n s))) 11))))), J, RF w) else z_go 79 [some (.ref 76), some (.int (nI (3 + (s_fk (s_isw b s (s + (s_rn (s_al b) n s))) 11))))] [] 161 ((z_u2 (z_u2 I 76 4 (nI (s + (s_rn (s_al b) n s)))) 76 2 (nI (s_wtok (s_first (s_isw b s (s + (s_rn (s_al b) n s))) (s_fk (s_isw b s (s + (s_rn (s_al b) n s))) 11))))), J, RF w)) (fun _ => rfl) ?_
            refine z_evIN Iff.rfl (fun h4 => ?_) (fun h4 => ?_)
            · refine z_evL ?_
              exact absurd (by rw [← s_fk_eq]; exact h4) (s_wtok1 (by decide) (s_fk_end (P := (s_isw b s (s + (s_rn (s_al b) n s)))) (n := 11) (by have := h3; omega)))
            · refine z_evL ?_
              refine z_evG 1 (y := some (.inr (none, 161, (z_u2 (z_u2 I 76 4 (nI (s + (s_rn (s_al b) n s)))) 76 2 (nI (s_wtok (s_first (s_isw b s (s + (s_rn (s_al b) n s))) (s_fk (s_isw b s (s + (s_rn (s_al b) n s))) 11))))), J, RF w))) (fun _ => rfl) ?_
              exact z_evR (by rw [s_fk_eq])
        · show z_Ev E (d + 5) z_m76 46 [some (.ref 76), some (.int (nI (3 + j)))] [] 161 ((z_u2 (z_u2 I 76 4 (nI (s + (s_rn (s_al b) n s)))) 76 2 (nI (s_wtok (s_first (s_isw b s (s + (s_rn (s_al b) n s))) j)))), J, RF w) _
          have hx := s_fk_lt hj
          have nx : (True) → z_Ev E (d + 5) z_m76 46 [some (.ref 76), some (.int (nI (3 + (j + 1))))] [] 161 ((z_u2 (z_u2 I 76 4 (nI (s + (s_rn (s_al b) n s)))) 76 2 (nI (s_wtok (s_first (s_isw b s (s + (s_rn (s_al b) n s))) (j + 1))))), J, RF w) _ := next
          refine z_evG 3 (y := if 13 < (nI (3 + j)) then z_go 79 [some (.ref 76), some (.int (nI (3 + j)))] [] 161 ((z_u2 (z_u2 I 76 4 (nI (s + (s_rn (s_al b) n s)))) 76 2 (nI (s_wtok (s_first (s_isw b s (s + (s_rn (s_al b) n s))) j)))), J, RF w) else z_go 52 [some (.ref 76), some (.int (nI (3 + j)))] [] 161 ((z_u2 (z_u2 I 76 4 (nI (s + (s_rn (s_al b) n s)))) 76 2 (nI (s_wtok (s_first (s_isw b s (s + (s_rn (s_al b) n s))) j)))), J, RF w)) (fun _ => rfl) ?_
          refine z_evF (mt (show _ ↔ 13 < 3 + j from z_ltN rfl rfl (by decide) (by omega)).mp (by omega)) ?_
          refine z_evL ?_
          refine z_evG 4 (y := if (nI (s_wtok (s_first (s_isw b s (s + (s_rn (s_al b) n s))) j))) = 1 then z_go 60 [some (.ref 76), some (.int (nI (3 + j)))] [] 161 ((z_u2 (z_u2 I 76 4 (nI (s + (s_rn (s_al b) n s)))) 76 2 (nI (s_wtok (s_first (s_isw b s (s + (s_rn (s_al b) n s))) j)))), J, RF w) else z_go 79 [some (.ref 76), some (.int (nI (3 + j)))] [] 161 ((z_u2 (z_u2 I 76 4 (nI (s + (s_rn (s_al b) n s)))) 76 2 (nI (s_wtok (s_first (s_isw b s (s + (s_rn (s_al b) n s))) j)))), J, RF w)) (fun _ => rfl) ?_
          refine z_evT (by rw [hx.1]; rfl) ?_
          refine z_evL ?_
          refine z_evG 3 (y := z_ret (z_cl E (d + 5) 77 [.ref 76, .int (nI (3 + j))] (161, ((z_u2 (z_u2 I 76 4 (nI (s + (s_rn (s_al b) n s)))) 76 2 (nI (s_wtok (s_first (s_isw b s (s + (s_rn (s_al b) n s))) j)))), J, RF w))) 65 [some (.ref 76), some (.int (nI (3 + j)))] []) (fun _ => rfl) ?_
          refine z_evK (v := .int (z_bo (s_isw b s (s + (s_rn (s_al b) n s)) j = true))) (z' := 161) (σ' := ((z_u2 (z_u2 I 76 4 (nI (s + (s_rn (s_al b) n s)))) 76 2 (nI (s_wtok (s_first (s_isw b s (s + (s_rn (s_al b) n s))) j)))), J, RF w)) (x_isWord E d (z_u2 (z_u2 I 76 4 (nI (s + (s_rn (s_al b) n s)))) 76 2 (nI (s_wtok (s_first (s_isw b s (s + (s_rn (s_al b) n s))) j)))) J w b j s (s + (s_rn (s_al b) n s)) n h_n (by omega) hb h_s rfl (by omega) hle (by omega)) ?_
          refine z_evG 1 (y := if (z_bo (s_isw b s (s + (s_rn (s_al b) n s)) j = true)) = 0 then z_go 73 [some (.ref 76), some (.int (nI (3 + j)))] [] 161 ((z_u2 (z_u2 I 76 4 (nI (s + (s_rn (s_al b) n s)))) 76 2 (nI (s_wtok (s_first (s_isw b s (s + (s_rn (s_al b) n s))) j)))), J, RF w) else z_go 68 [some (.ref 76), some (.int (nI (3 + j)))] [] 161 ((z_u2 (z_u2 I 76 4 (nI (s + (s_rn (s_al b) n s)))) 76 2 (nI (s_wtok (s_first (s_isw b s (s + (s_rn (s_al b) n s))) j)))), J, RF w)) (fun _ => rfl) ?_
          refine z_evO (fun h7 => ?_) (fun h7 => ?_)
          · refine z_evL ?_
            refine z_evG 2 (y := z_go 46 [some (.ref 76), some (.int ((nI (3 + j)) + 1))] [] 161 ((z_u2 (z_u2 I 76 4 (nI (s + (s_rn (s_al b) n s)))) 76 2 (nI (s_wtok (s_first (s_isw b s (s + (s_rn (s_al b) n s))) j)))), J, RF w)) (fun _ => rfl) ?_
            refine z_evL ?_
            rw [show s_first (s_isw b s (s + (s_rn (s_al b) n s))) (j + 1) = s_first (s_isw b s (s + (s_rn (s_al b) n s))) j from (s_first_f hx.1 h7).trans hx.1.symm] at nx
            rw [nI_1 (3 + j)]
            exact nx trivial
          · refine z_evL ?_
            refine z_evG 5 (y := z_go 46 [some (.ref 76), some (.int ((nI (3 + j)) + 1))] [] 161 ((z_u2 (z_u2 (z_u2 I 76 4 (nI (s + (s_rn (s_al b) n s)))) 76 2 (nI (s_wtok (s_first (s_isw b s (s + (s_rn (s_al b) n s))) j)))) 76 2 (nI (3 + j))), J, RF w)) (fun _ => rfl) ?_
            refine z_evL ?_
            rw [s_first_t hx.1 h7] at nx
            rw [nI_1 (3 + j), z_u2u]
            exact nx trivial
      · refine z_evL ?_
        exact absurd ⟨h1, (z_alE (hb _ h1).1 (hb _ h1).2).mp h2⟩ (s_rn_end _ _ _)
    · refine z_evL ?_
      refine z_evG 5 (y := z_go 46 [some (.ref 76), some (.int 3)] [] 161 ((z_u2 (z_u2 I 76 4 (nI (s + (s_rn (s_al b) n s)))) 76 2 1), J, RF w)) (fun _ => rfl) ?_
      refine z_evL ?_
      refine z_loop (F := fun j => ([some (.ref 76), some (.int (nI (3 + j)))], ((z_u2 (z_u2 I 76 4 (nI (s + (s_rn (s_al b) n s)))) 76 2 (nI (s_wtok (s_first (s_isw b s (s + (s_rn (s_al b) n s))) j)))), J, RF w))) (P := fun j => True) (s_fk (s_isw b s (s + (s_rn (s_al b) n s))) 11) trivial (fun hP => ?_) (fun j hj hP next => ?_)
      · show z_Ev E (d + 5) z_m76 46 [some (.ref 76), some (.int (nI (3 + (s_fk (s_isw b s (s + (s_rn (s_al b) n s))) 11))))] [] 161 ((z_u2 (z_u2 I 76 4 (nI (s + (s_rn (s_al b) n s)))) 76 2 (nI (s_wtok (s_first (s_isw b s (s + (s_rn (s_al b) n s))) (s_fk (s_isw b s (s + (s_rn (s_al b) n s))) 11))))), J, RF w) _
        have hf2 := s_fk_le (s_isw b s (s + (s_rn (s_al b) n s))) 11
        refine z_evG 3 (y := if 13 < (nI (3 + (s_fk (s_isw b s (s + (s_rn (s_al b) n s))) 11))) then z_go 79 [some (.ref 76), some (.int (nI (3 + (s_fk (s_isw b s (s + (s_rn (s_al b) n s))) 11))))] [] 161 ((z_u2 (z_u2 I 76 4 (nI (s + (s_rn (s_al b) n s)))) 76 2 (nI (s_wtok (s_first (s_isw b s (s + (s_rn (s_al b) n s))) (s_fk (s_isw b s (s + (s_rn (s_al b) n s))) 11))))), J, RF w) else z_go 52 [some (.ref 76), some (.int (nI (3 + (s_fk (s_isw b s (s + (s_rn (s_al b) n s))) 11))))] [] 161 ((z_u2 (z_u2 I 76 4 (nI (s + (s_rn (s_al b) n s)))) 76 2 (nI (s_wtok (s_first (s_isw b s (s + (s_rn (s_al b) n s))) (s_fk (s_isw b s (s + (s_rn (s_al b) n s))) 11))))), J, RF w)) (fun _ => rfl) ?_
        refine z_evIN (show _ ↔ 13 < (3 + (s_fk (s_isw b s (s + (s_rn (s_al b) n s))) 11)) from z_ltN rfl rfl (by omega) (by omega)) (fun h8 => ?_) (fun h8 => ?_)
        · refine z_evL ?_
          refine z_evG 1 (y := some (.inr (none, 161, (z_u2 (z_u2 I 76 4 (nI (s + (s_rn (s_al b) n s)))) 76 2 (nI (s_wtok (s_first (s_isw b s (s + (s_rn (s_al b) n s))) (s_fk (s_isw b s (s + (s_rn (s_al b) n s))) 11))))), J, RF w))) (fun _ => rfl) ?_
          exact z_evR (by rw [s_fk_eq])
        · refine z_evL ?_
          refine z_evG 4 (y := if (nI (s_wtok (s_first (s_isw b s (s + (s_rn (s_al b) n s))) (s_fk (s_isw b s (s + (s_rn (s_al b) n s))) 11)))) = 1 then z_go 60 [some (.ref 76), some (.int (nI (3 + (s_fk (s_isw b s (s + (s_rn (s_al b) n s))) 11))))] [] 161 ((z_u2 (z_u2 I 76 4 (nI (s + (s_rn (s_al b) n s)))) 76 2 (nI (s_wtok (s_first (s_isw b s (s + (s_rn (s_al b) n s))) (s_fk (s_isw b s (s + (s_rn (s_al b) n s))) 11))))), J, RF w) else z_go 79 [some (.ref 76), some (.int (nI (3 + (s_fk (s_isw b s (s + (s_rn (s_al b) n s))) 11))))] [] 161 ((z_u2 (z_u2 I 76 4 (nI (s + (s_rn (s_al b) n s)))) 76 2 (nI (s_wtok (s_first (s_isw b s (s + (s_rn (s_al b) n s))) (s_fk (s_isw b s (s + (s_rn (s_al b) n s))) 11))))), J, RF w)) (fun _ => rfl) ?_
          refine z_evIN Iff.rfl (fun h9 => ?_) (fun h9 => ?_)
          · refine z_evL ?_
            exact absurd (by rw [← s_fk_eq]; exact h9) (s_wtok1 (by decide) (s_fk_end (P := (s_isw b s (s + (s_rn (s_al b) n s)))) (n := 11) (by have := h8; omega)))
          · refine z_evL ?_
            refine z_evG 1 (y := some (.inr (none, 161, (z_u2 (z_u2 I 76 4 (nI (s + (s_rn (s_al b) n s)))) 76 2 (nI (s_wtok (s_first (s_isw b s (s + (s_rn (s_al b) n s))) (s_fk (s_isw b s (s + (s_rn (s_al b) n s))) 11))))), J, RF w))) (fun _ => rfl) ?_
            exact z_evR (by rw [s_fk_eq])
      · show z_Ev E (d + 5) z_m76 46 [some (.ref 76), some (.int (nI (3 + j)))] [] 161 ((z_u2 (z_u2 I 76 4 (nI (s + (s_rn (s_al b) n s)))) 76 2 (nI (s_wtok (s_first (s_isw b s (s + (s_rn (s_al b) n s))) j)))), J, RF w) _
        have hx := s_fk_lt hj
        have nx : (True) → z_Ev E (d + 5) z_m76 46 [some (.ref 76), some (.int (nI (3 + (j + 1))))] [] 161 ((z_u2 (z_u2 I 76 4 (nI (s + (s_rn (s_al b) n s)))) 76 2 (nI (s_wtok (s_first (s_isw b s (s + (s_rn (s_al b) n s))) (j + 1))))), J, RF w) _ := next
        refine z_evG 3 (y := if 13 < (nI (3 + j)) then z_go 79 [some (.ref 76), some (.int (nI (3 + j)))] [] 161 ((z_u2 (z_u2 I 76 4 (nI (s + (s_rn (s_al b) n s)))) 76 2 (nI (s_wtok (s_first (s_isw b s (s + (s_rn (s_al b) n s))) j)))), J, RF w) else z_go 52 [some (.ref 76), some (.int (nI (3 + j)))] [] 161 ((z_u2 (z_u2 I 76 4 (nI (s + (s_rn (s_al b) n s)))) 76 2 (nI (s_wtok (s_first (s_isw b s (s + (s_rn (s_al b) n s))) j)))), J, RF w)) (fun _ => rfl) ?_
        refine z_evF (mt (show _ ↔ 13 < 3 + j from z_ltN rfl rfl (by decide) (by omega)).mp (by omega)) ?_
        refine z_evL ?_
        refine z_evG 4 (y := if (nI (s_wtok (s_first (s_isw b s (s + (s_rn (s_al b) n s))) j))) = 1 then z_go 60 [some (.ref 76), some (.int (nI (3 + j)))] [] 161 ((z_u2 (z_u2 I 76 4 (nI (s + (s_rn (s_al b) n s)))) 76 2 (nI (s_wtok (s_first (s_isw b s (s + (s_rn (s_al b) n s))) j)))), J, RF w) else z_go 79 [some (.ref 76), some (.int (nI (3 + j)))] [] 161 ((z_u2 (z_u2 I 76 4 (nI (s + (s_rn (s_al b) n s)))) 76 2 (nI (s_wtok (s_first (s_isw b s (s + (s_rn (s_al b) n s))) j)))), J, RF w)) (fun _ => rfl) ?_
        refine z_evT (by rw [hx.1]; rfl) ?_
        refine z_evL ?_
        refine z_evG 3 (y := z_ret (z_cl E (d + 5) 77 [.ref 76, .int (nI (3 + j))] (161, ((z_u2 (z_u2 I 76 4 (nI (s + (s_rn (s_al b) n s)))) 76 2 (nI (s_wtok (s_first (s_isw b s (s + (s_rn (s_al b) n s))) j)))), J, RF w))) 65 [some (.ref 76), some (.int (nI (3 + j)))] []) (fun _ => rfl) ?_
        refine z_evK (v := .int (z_bo (s_isw b s (s + (s_rn (s_al b) n s)) j = true))) (z' := 161) (σ' := ((z_u2 (z_u2 I 76 4 (nI (s + (s_rn (s_al b) n s)))) 76 2 (nI (s_wtok (s_first (s_isw b s (s + (s_rn (s_al b) n s))) j)))), J, RF w)) (x_isWord E d (z_u2 (z_u2 I 76 4 (nI (s + (s_rn (s_al b) n s)))) 76 2 (nI (s_wtok (s_first (s_isw b s (s + (s_rn (s_al b) n s))) j)))) J w b j s (s + (s_rn (s_al b) n s)) n h_n (by omega) hb h_s rfl (by omega) hle (by omega)) ?_
        refine z_evG 1 (y := if (z_bo (s_isw b s (s + (s_rn (s_al b) n s)) j = true)) = 0 then z_go 73 [some (.ref 76), some (.int (nI (3 + j)))] [] 161 ((z_u2 (z_u2 I 76 4 (nI (s + (s_rn (s_al b) n s)))) 76 2 (nI (s_wtok (s_first (s_isw b s (s + (s_rn (s_al b) n s))) j)))), J, RF w) else z_go 68 [some (.ref 76), some (.int (nI (3 + j)))] [] 161 ((z_u2 (z_u2 I 76 4 (nI (s + (s_rn (s_al b) n s)))) 76 2 (nI (s_wtok (s_first (s_isw b s (s + (s_rn (s_al b) n s))) j)))), J, RF w)) (fun _ => rfl) ?_
        refine z_evO (fun h12 => ?_) (fun h12 => ?_)
        · refine z_evL ?_
          refine z_evG 2 (y := z_go 46 [some (.ref 76), some (.int ((nI (3 + j)) + 1))] [] 161 ((z_u2 (z_u2 I 76 4 (nI (s + (s_rn (s_al b) n s)))) 76 2 (nI (s_wtok (s_first (s_isw b s (s + (s_rn (s_al b) n s))) j)))), J, RF w)) (fun _ => rfl) ?_
          refine z_evL ?_
          rw [show s_first (s_isw b s (s + (s_rn (s_al b) n s))) (j + 1) = s_first (s_isw b s (s + (s_rn (s_al b) n s))) j from (s_first_f hx.1 h12).trans hx.1.symm] at nx
          rw [nI_1 (3 + j)]
          exact nx trivial
        · refine z_evL ?_
          refine z_evG 5 (y := z_go 46 [some (.ref 76), some (.int ((nI (3 + j)) + 1))] [] 161 ((z_u2 (z_u2 (z_u2 I 76 4 (nI (s + (s_rn (s_al b) n s)))) 76 2 (nI (s_wtok (s_first (s_isw b s (s + (s_rn (s_al b) n s))) j)))) 76 2 (nI (3 + j))), J, RF w)) (fun _ => rfl) ?_
          refine z_evL ?_
          rw [s_first_t hx.1 h12] at nx
          rw [nI_1 (3 + j), z_u2u]
          exact nx trivial
  · show z_Ev E (d + 5) z_m76 0 [some (.ref 76), none] [] 161 ((z_u2 I 76 4 (nI (s + k))), J, RF w) _
    have hx := s_rn_lt hk
    have nx : (True) → z_Ev E (d + 5) z_m76 0 [some (.ref 76), none] [] 161 ((z_u2 I 76 4 (nI (s + (k + 1)))), J, RF w) _ := next
    refine z_evG 5 (y := if (nI (s + k)) < (I 76 1) then z_go 11 [some (.ref 76), none] [] 161 ((z_u2 I 76 4 (nI (s + k))), J, RF w) else z_go 39 [some (.ref 76), none] [] 161 ((z_u2 I 76 4 (nI (s + k))), J, RF w)) (fun _ => rfl) ?_
    refine z_evT ((z_ltN rfl h_n (by omega) (by omega)).mpr hx.1) ?_
    refine z_evL ?_
    refine z_evG 5 (y := z_ild (z_ia E 161 ((z_u2 I 76 4 (nI (s + k))), J, RF w) 77) (nI (s + k)) fun vv => z_go 20 [some (.ref 76), none] [.int vv] 161 ((z_u2 I 76 4 (nI (s + k))), J, RF w)) (fun _ => rfl) ?_
    refine z_evBn (N := 160) (f := ((z_u2 I 76 4 (nI (s + k))) 77)) (k := (s + k)) rfl rfl (by omega) ?_
    refine z_evL ?_
    refine z_evG 1 (y := z_ret (z_cl E (d + 5) 79 [.int (I 77 (s + k))] (161, ((z_u2 I 76 4 (nI (s + k))), J, RF w))) 23 [some (.ref 76), none] []) (fun _ => rfl) ?_
    refine z_evK (v := .int (z_bo (¬ (I 77 (s + k)) < 97 ∧ ¬ 122 < (I 77 (s + k))))) (z' := 161) (σ' := ((z_u2 I 76 4 (nI (s + k))), J, RF w)) (x_isLetter E (d + 4) (z_u2 I 76 4 (nI (s + k))) J w (I 77 (s + k))) ?_
    refine z_evG 1 (y := if (z_bo (¬ (I 77 (s + k)) < 97 ∧ ¬ 122 < (I 77 (s + k)))) = 0 then z_go 39 [some (.ref 76), none] [] 161 ((z_u2 I 76 4 (nI (s + k))), J, RF w) else z_go 26 [some (.ref 76), none] [] 161 ((z_u2 I 76 4 (nI (s + k))), J, RF w)) (fun _ => rfl) ?_
    refine z_evF (fun q0 => z_bo_0.mp q0 ((z_alE (hb _ hx.1).1 (hb _ hx.1).2).mpr hx.2)) ?_
    refine z_evL ?_
    refine z_evG 7 (y := z_go 0 [some (.ref 76), none] [] 161 ((z_u2 (z_u2 I 76 4 (nI (s + k))) 76 4 ((nI (s + k)) + 1)), J, RF w)) (fun _ => rfl) ?_
    refine z_evL ?_
    rw [nI_1 (s + k), z_u2u]
    exact nx trivial
