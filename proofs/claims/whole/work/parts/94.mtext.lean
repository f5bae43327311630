-- READ TEXT by the reference
def s_fin : Nat ⊕ (Nat × List Int32 × List Int32 × Int32) → Option (Nat ⊕ (Nat × Int32))
  | .inl q => some (.inl q)
  | .inr (p, S, V, dp) => match s_wd 1 S V dp with
    | none => none
    | some (S', V', _) => match S', V' with
      | _ :: _, _ => some (.inl p)
      | [], [v] => some (.inr (p, v))
      | [], _ => none
def s_wrt (b : Nat → Nat) (n : Nat) (fa : Nat → Int32) (q : Nat) : Option (Nat ⊕ (Nat × Int32)) := (s_mrun b n fa (n + 2) q [] [] 0 true true).bind s_fin
def s_M0 (I0 I : Nat → Nat → Int32) (b : Nat → Nat) (n q : Nat) : Prop := s_by I b n ∧ I 127 23 = nI q ∧ I 127 27 = 0 ∧ ∀ a k, ¬ s_scM a k → I a k = I0 a k
theorem s_st5_same {I : Nat → Nat → Int32} {a k : Nat} (q : ¬ s_scM a k) : z_u2 (z_u2 (z_u2 (z_u2 (z_u2 I 127 31 0) 127 33 0) 127 28 0) 127 36 1) 127 37 1 a k = I a k :=
  (z_u2_sc (s_sc_f (by omega)) q).trans ((z_u2_sc (s_sc_f (by omega)) q).trans ((z_u2_sc (s_sc_f (by omega)) q).trans ((z_u2_sc (s_sc_f (by omega)) q).trans (z_u2_sc (s_sc_f (by omega)) q))))
theorem m_readWorthQ (E : zE) (d : Nat) {I0 I : Nat → Nat → Int32} {b : Nat → Nat} {n q : Nat} (J : Nat → Nat → Int64) (w : Nat) (h : s_M0 I0 I b n q) (hq : q ≤ n) (hn : n ≤ 160) {R : Nat ⊕ (Nat × Int32)} (e : s_wrt b n (I0 141) q = some R) :
    match R with
    | .inl p => p ≤ n ∧ ∃ I', z_cl E (d + 5) 213 [.ref 127] (161, I, J, RF w) = some (some (.int 0), 161, I', J, RF w) ∧ s_MB I0 I' b n p
    | .inr (p, v) => p ≤ n ∧ ∃ I', z_cl E (d + 5) 213 [.ref 127] (161, I, J, RF w) = some (some (.int v), 161, I', J, RF w) ∧ s_M0 I0 I' b n (s_en b n p) := by
  have go : ∀ {r : zR}, z_Ev E (d + 4) z_m213 0 [some (.ref 127)] [] 161 (I, J, RF w) r → z_cl E (d + 5) 213 [.ref 127] (161, I, J, RF w) = some r := fun q => z_call (d := d + 4) (M := z_m213) rfl rfl q
  have hx := m_next E (d + 1) (z_u2 (z_u2 (z_u2 (z_u2 (z_u2 I 127 31 0) 127 33 0) 127 28 0) 127 36 1) 127 37 1) J w b n q h.1 h.2.1 hq
  have c : s_MS I0 (s_nxt (z_u2 (z_u2 (z_u2 (z_u2 (z_u2 I 127 31 0) 127 33 0) 127 28 0) 127 36 1) 127 37 1) (nI (s_en b n q)) (s_mtk (s_tok b n q)) (nI (s_st b n q)) (s_mva (z_u2 (z_u2 (z_u2 (z_u2 (z_u2 I 127 31 0) 127 33 0) 127 28 0) 127 36 1) 127 37 1) b n q)) b n q [] [] 0 true true := by
    refine s_MS.mk ?_ rfl rfl rfl (fun q => s_mva_num q) (fun q q' => s_mva_na q q') h.2.2.1 rfl rfl trivial rfl trivial rfl rfl ?_
    · exact s_by_eq h.1 rfl rfl rfl rfl rfl
    · intro a k q
      exact (s_nxt_o (fun r => q (.inl ⟨r.1, by omega⟩))).trans ((s_st5_same q).trans (h.2.2.2 a k q))
  unfold s_wrt at e
  cases r : s_mrun b n (I0 141) (n + 2) q [] [] 0 true true with
  | none => rw [r] at e; cases e
  | some R0 =>
    rw [r] at e
    have L := m_rw_loop E d J w hn (n + 2) q [] [] 0 true true _ c (fun s hs => by cases hs) hq (Nat.zero_le _) (Nat.zero_le _) r
    cases R0 with
    | inl p =>
      have e' : R = .inl p := by injection e with e; exact e.symm
      subst e'
      obtain ⟨a1, I', a2, a3⟩ := L
      exact ⟨a1, I', go (m_rw_start E d I J w _ hx a2), a3⟩
    | inr x =>
      obtain ⟨p, S, V, dp⟩ := x
      obtain ⟨a1, a2, a3, a4, I', mn', a5, a6⟩ := L
      change (match s_wd 1 S V dp with
        | none => none
        | some (S', V', _) => match S', V' with
          | _ :: _, _ => some (.inl p)
          | [], [v] => some (.inr (p, v))
          | [], _ => none) = some R at e
      cases r2 : s_wd 1 S V dp with
      | none => rw [r2] at e; cases e
      | some R1 =>
        obtain ⟨S1, V1, dp1⟩ := R1
        rw [r2] at e
        have l := s_wd_len r2
        obtain ⟨I1, e1, c1⟩ := m_workDownQ E (d + 1) J w (t := 1) (by decide) (by decide) a6 a4 (by omega) (by omega) r2
        cases S1 with
        | cons s S1 =>
          have e' : R = .inl p := by injection e with e; exact e.symm
          subst e'
          exact ⟨a1, _, go (m_rw_start E d I J w _ hx (a5 _ (m_rw_end1 E d I' J w S1.length I1 a6.bad e1 c1.sm (by simp only [List.length_cons] at l; omega)))), s_MB_1 c1⟩
        | nil =>
          cases V1 with
          | nil => cases e
          | cons v V1 =>
            cases V1 with
            | cons v2 V1 => cases e
            | nil =>
              have e' : R = .inr (p, v) := by injection e with e; exact e.symm
              subst e'
              refine ⟨a1, z_u2 I1 127 27 0, ?_, c1.by, c1.at, rfl, fun a k q => (z_u2_sc (s_sc_f (by omega)) q).trans (c1.same a k q)⟩
              have hv : I1 142 0 = v := c1.vs.1
              have t := m_rw_end0 E d I' J w I1 a6.bad e1 c1.sm
              rw [hv] at t
              exact go (m_rw_start E d I J w _ hx (a5 _ t))
set_option maxRecDepth 20000 in
theorem m_rt_a (E : zE) (d : Nat) (I : Nat → Nat → Int32) (J : Nat → Nat → Int64) (w : Nat) (x : Int32) (I1 : Nat → Nat → Int32) (hx1 : z_cl E (d + 5) 204 [.ref 127] (161, I, J, RF w) = some (none, 161, I1, J, RF w)) (h1 : ¬ I1 127 24 = 10) : z_Ev E (d + 5) z_m214 42 [some (.ref 127), some (.int x)] [] 161 (I, J, RF w) (some (.int (I1 127 25)), 161, (z_u2 (z_u2 (z_u2 I1 127 27 1) 127 34 0) 127 35 0), J, RF w) := by
  refine z_evG 2 (y := z_ret (z_cl E (d + 5) 204 [.ref 127] (161, (I, J, RF w))) 46 [some (.ref 127), some (.int x)] []) (fun _ => rfl) ?_
  refine z_evV (z' := 161) (σ' := (I1, J, RF w)) hx1 ?_
  refine z_evG 5 (y := if (I1 127 24) = 10 then z_go 60 [some (.ref 127), some (.int x)] [.ref 127] 161 (I1, J, RF w) else z_go 56 [some (.ref 127), some (.int x)] [.ref 127] 161 (I1, J, RF w)) (fun _ => rfl) ?_
  refine z_evF h1 ?_
  refine z_evL ?_
  refine z_evG 7 (y := if 1 = 0 then z_go 76 [some (.ref 127), some (.int x)] [.ref 127] 161 ((z_u2 I1 127 27 1), J, RF w) else z_go 72 [some (.ref 127), some (.int x)] [.ref 127] 161 ((z_u2 I1 127 27 1), J, RF w)) (fun _ => rfl) ?_
  refine z_evI (fun q => absurd q (by decide)) (fun _ => ?_)
  refine z_evL ?_
  refine z_evG 6 (y := if 1 = 0 then z_go 90 [some (.ref 127), some (.int x)] [] 161 ((z_u2 (z_u2 I1 127 27 1) 127 34 0), J, RF w) else z_go 112 [some (.ref 127), some (.int x)] [] 161 ((z_u2 (z_u2 I1 127 27 1) 127 34 0), J, RF w)) (fun _ => rfl) ?_
  refine z_evI (fun q => absurd q (by decide)) (fun _ => ?_)
  refine z_evL ?_
  refine z_evG 4 (y := if 1 = 0 then z_go 124 [some (.ref 127), some (.int x)] [.ref 127] 161 ((z_u2 (z_u2 I1 127 27 1) 127 34 0), J, RF w) else z_go 120 [some (.ref 127), some (.int x)] [.ref 127] 161 ((z_u2 (z_u2 I1 127 27 1) 127 34 0), J, RF w)) (fun _ => rfl) ?_
  refine z_evI (fun q => absurd q (by decide)) (fun _ => ?_)
  refine z_evL ?_
  refine z_evG 6 (y := if 1 = 0 then z_go 138 [some (.ref 127), some (.int x)] [] 161 ((z_u2 (z_u2 (z_u2 I1 127 27 1) 127 34 0) 127 35 0), J, RF w) else z_go 158 [some (.ref 127), some (.int x)] [] 161 ((z_u2 (z_u2 (z_u2 I1 127 27 1) 127 34 0) 127 35 0), J, RF w)) (fun _ => rfl) ?_
  refine z_evI (fun q => absurd q (by decide)) (fun _ => ?_)
  refine z_evL ?_
  refine z_evG 3 (y := if 1 = 0 then z_go 172 [some (.ref 127), some (.int x)] [] 161 ((z_u2 (z_u2 (z_u2 I1 127 27 1) 127 34 0) 127 35 0), J, RF w) else z_go 165 [some (.ref 127), some (.int x)] [] 161 ((z_u2 (z_u2 (z_u2 I1 127 27 1) 127 34 0) 127 35 0), J, RF w)) (fun _ => rfl) ?_
  refine z_evI (fun q => absurd q (by decide)) (fun _ => ?_)
  refine z_evL ?_
  refine z_evG 4 (y := some (.inr (some (.int (I1 127 25)), 161, (z_u2 (z_u2 (z_u2 I1 127 27 1) 127 34 0) 127 35 0), J, RF w))) (fun _ => rfl) ?_
  exact z_evR rfl
set_option maxRecDepth 20000 in
theorem m_rt_b (E : zE) (d : Nat) (I : Nat → Nat → Int32) (J : Nat → Nat → Int64) (w : Nat) (x : Int32) (I1 I2 : Nat → Nat → Int32) (v1 : Int32) (hx1 : z_cl E (d + 5) 204 [.ref 127] (161, I, J, RF w) = some (none, 161, I1, J, RF w)) (h1 : I1 127 24 = 10) (hw1 : z_cl E (d + 5) 213 [.ref 127] (161, z_u2 I1 127 27 0, J, RF w) = some (some (.int v1), 161, I2, J, RF w)) (hb : I2 127 27 = 1) : z_Ev E (d + 5) z_m214 42 [some (.ref 127), some (.int x)] [] 161 (I, J, RF w) (some (.int (I2 127 25)), 161, (z_u2 (z_u2 I2 127 34 v1) 127 35 0), J, RF w) := by
  refine z_evG 2 (y := z_ret (z_cl E (d + 5) 204 [.ref 127] (161, (I, J, RF w))) 46 [some (.ref 127), some (.int x)] []) (fun _ => rfl) ?_
  refine z_evV (z' := 161) (σ' := (I1, J, RF w)) hx1 ?_
  refine z_evG 5 (y := if (I1 127 24) = 10 then z_go 60 [some (.ref 127), some (.int x)] [.ref 127] 161 (I1, J, RF w) else z_go 56 [some (.ref 127), some (.int x)] [.ref 127] 161 (I1, J, RF w)) (fun _ => rfl) ?_
  refine z_evT h1 ?_
  refine z_evL ?_
  refine z_evG 6 (y := if 0 = 0 then z_go 76 [some (.ref 127), some (.int x)] [.ref 127] 161 ((z_u2 I1 127 27 0), J, RF w) else z_go 72 [some (.ref 127), some (.int x)] [.ref 127] 161 ((z_u2 I1 127 27 0), J, RF w)) (fun _ => rfl) ?_
  refine z_evI (fun _ => ?_) (fun q => absurd (by decide) q)
  refine z_evL ?_
  refine z_evG 2 (y := z_ret (z_cl E (d + 5) 213 [.ref 127] (161, ((z_u2 I1 127 27 0), J, RF w))) 80 [some (.ref 127), some (.int x)] [.ref 127]) (fun _ => rfl) ?_
  refine z_evK (v := .int v1) (z' := 161) (σ' := (I2, J, RF w)) hw1 ?_
  refine z_evG 4 (y := if (I2 127 27) = 0 then z_go 90 [some (.ref 127), some (.int x)] [] 161 ((z_u2 I2 127 34 v1), J, RF w) else z_go 112 [some (.ref 127), some (.int x)] [] 161 ((z_u2 I2 127 34 v1), J, RF w)) (fun _ => rfl) ?_
  refine z_evF (by rw [hb]; decide) ?_
  refine z_evL ?_
  refine z_evG 4 (y := if (I2 127 27) = 0 then z_go 124 [some (.ref 127), some (.int x)] [.ref 127] 161 ((z_u2 I2 127 34 v1), J, RF w) else z_go 120 [some (.ref 127), some (.int x)] [.ref 127] 161 ((z_u2 I2 127 34 v1), J, RF w)) (fun _ => rfl) ?_
  refine z_evF (by rw [hb]; decide) ?_
  refine z_evL ?_
  refine z_evG 6 (y := if (I2 127 27) = 0 then z_go 138 [some (.ref 127), some (.int x)] [] 161 ((z_u2 (z_u2 I2 127 34 v1) 127 35 0), J, RF w) else z_go 158 [some (.ref 127), some (.int x)] [] 161 ((z_u2 (z_u2 I2 127 34 v1) 127 35 0), J, RF w)) (fun _ => rfl) ?_
  refine z_evF (by rw [hb]; decide) ?_
  refine z_evL ?_
  refine z_evG 3 (y := if (I2 127 27) = 0 then z_go 172 [some (.ref 127), some (.int x)] [] 161 ((z_u2 (z_u2 I2 127 34 v1) 127 35 0), J, RF w) else z_go 165 [some (.ref 127), some (.int x)] [] 161 ((z_u2 (z_u2 I2 127 34 v1) 127 35 0), J, RF w)) (fun _ => rfl) ?_
  refine z_evF (by rw [hb]; decide) ?_
  refine z_evL ?_
  refine z_evG 4 (y := some (.inr (some (.int (I2 127 25)), 161, (z_u2 (z_u2 I2 127 34 v1) 127 35 0), J, RF w))) (fun _ => rfl) ?_
  exact z_evR rfl
set_option maxRecDepth 20000 in
theorem m_rt_c (E : zE) (d : Nat) (I : Nat → Nat → Int32) (J : Nat → Nat → Int64) (w : Nat) (x : Int32) (I1 I2 I3 : Nat → Nat → Int32) (v1 : Int32) (hx1 : z_cl E (d + 5) 204 [.ref 127] (161, I, J, RF w) = some (none, 161, I1, J, RF w)) (h1 : I1 127 24 = 10) (hw1 : z_cl E (d + 5) 213 [.ref 127] (161, z_u2 I1 127 27 0, J, RF w) = some (some (.int v1), 161, I2, J, RF w)) (hb1 : I2 127 27 = 0) (hx2 : z_cl E (d + 5) 204 [.ref 127] (161, z_u2 I2 127 34 v1, J, RF w) = some (none, 161, I3, J, RF w)) (h2 : ¬ I3 127 24 = 11) : z_Ev E (d + 5) z_m214 42 [some (.ref 127), some (.int x)] [] 161 (I, J, RF w) (some (.int (I3 127 25)), 161, (z_u2 (z_u2 I3 127 27 1) 127 35 0), J, RF w) := by
  refine z_evG 2 (y := z_ret (z_cl E (d + 5) 204 [.ref 127] (161, (I, J, RF w))) 46 [some (.ref 127), some (.int x)] []) (fun _ => rfl) ?_
  refine z_evV (z' := 161) (σ' := (I1, J, RF w)) hx1 ?_
  refine z_evG 5 (y := if (I1 127 24) = 10 then z_go 60 [some (.ref 127), some (.int x)] [.ref 127] 161 (I1, J, RF w) else z_go 56 [some (.ref 127), some (.int x)] [.ref 127] 161 (I1, J, RF w)) (fun _ => rfl) ?_
  refine z_evT h1 ?_
  refine z_evL ?_
  refine z_evG 6 (y := if 0 = 0 then z_go 76 [some (.ref 127), some (.int x)] [.ref 127] 161 ((z_u2 I1 127 27 0), J, RF w) else z_go 72 [some (.ref 127), some (.int x)] [.ref 127] 161 ((z_u2 I1 127 27 0), J, RF w)) (fun _ => rfl) ?_
  refine z_evI (fun _ => ?_) (fun q => absurd (by decide) q)
  refine z_evL ?_
  refine z_evG 2 (y := z_ret (z_cl E (d + 5) 213 [.ref 127] (161, ((z_u2 I1 127 27 0), J, RF w))) 80 [some (.ref 127), some (.int x)] [.ref 127]) (fun _ => rfl) ?_
  refine z_evK (v := .int v1) (z' := 161) (σ' := (I2, J, RF w)) hw1 ?_
  refine z_evG 4 (y := if (I2 127 27) = 0 then z_go 90 [some (.ref 127), some (.int x)] [] 161 ((z_u2 I2 127 34 v1), J, RF w) else z_go 112 [some (.ref 127), some (.int x)] [] 161 ((z_u2 I2 127 34 v1), J, RF w)) (fun _ => rfl) ?_
  refine z_evT hb1 ?_
  refine z_evL ?_
  refine z_evG 2 (y := z_ret (z_cl E (d + 5) 204 [.ref 127] (161, ((z_u2 I2 127 34 v1), J, RF w))) 94 [some (.ref 127), some (.int x)] []) (fun _ => rfl) ?_
  refine z_evV (z' := 161) (σ' := (I3, J, RF w)) hx2 ?_
  refine z_evG 5 (y := if (I3 127 24) = 11 then z_go 108 [some (.ref 127), some (.int x)] [.ref 127] 161 (I3, J, RF w) else z_go 104 [some (.ref 127), some (.int x)] [.ref 127] 161 (I3, J, RF w)) (fun _ => rfl) ?_
  refine z_evF h2 ?_
  refine z_evL ?_
  refine z_evG 7 (y := if 1 = 0 then z_go 124 [some (.ref 127), some (.int x)] [.ref 127] 161 ((z_u2 I3 127 27 1), J, RF w) else z_go 120 [some (.ref 127), some (.int x)] [.ref 127] 161 ((z_u2 I3 127 27 1), J, RF w)) (fun _ => rfl) ?_
  refine z_evI (fun q => absurd q (by decide)) (fun _ => ?_)
  refine z_evL ?_
  refine z_evG 6 (y := if 1 = 0 then z_go 138 [some (.ref 127), some (.int x)] [] 161 ((z_u2 (z_u2 I3 127 27 1) 127 35 0), J, RF w) else z_go 158 [some (.ref 127), some (.int x)] [] 161 ((z_u2 (z_u2 I3 127 27 1) 127 35 0), J, RF w)) (fun _ => rfl) ?_
  refine z_evI (fun q => absurd q (by decide)) (fun _ => ?_)
  refine z_evL ?_
  refine z_evG 3 (y := if 1 = 0 then z_go 172 [some (.ref 127), some (.int x)] [] 161 ((z_u2 (z_u2 I3 127 27 1) 127 35 0), J, RF w) else z_go 165 [some (.ref 127), some (.int x)] [] 161 ((z_u2 (z_u2 I3 127 27 1) 127 35 0), J, RF w)) (fun _ => rfl) ?_
  refine z_evI (fun q => absurd q (by decide)) (fun _ => ?_)
  refine z_evL ?_
  refine z_evG 4 (y := some (.inr (some (.int (I3 127 25)), 161, (z_u2 (z_u2 I3 127 27 1) 127 35 0), J, RF w))) (fun _ => rfl) ?_
  exact z_evR rfl
set_option maxRecDepth 20000 in
theorem m_rt_d (E : zE) (d : Nat) (I : Nat → Nat → Int32) (J : Nat → Nat → Int64) (w : Nat) (x : Int32) (I1 I2 I3 I4 : Nat → Nat → Int32) (v1 v2 : Int32) (hx1 : z_cl E (d + 5) 204 [.ref 127] (161, I, J, RF w) = some (none, 161, I1, J, RF w)) (h1 : I1 127 24 = 10) (hw1 : z_cl E (d + 5) 213 [.ref 127] (161, z_u2 I1 127 27 0, J, RF w) = some (some (.int v1), 161, I2, J, RF w)) (hb1 : I2 127 27 = 0) (hx2 : z_cl E (d + 5) 204 [.ref 127] (161, z_u2 I2 127 34 v1, J, RF w) = some (none, 161, I3, J, RF w)) (h2 : I3 127 24 = 11) (hw2 : z_cl E (d + 5) 213 [.ref 127] (161, z_u2 I3 127 27 0, J, RF w) = some (some (.int v2), 161, I4, J, RF w)) (hb : I4 127 27 = 1) : z_Ev E (d + 5) z_m214 42 [some (.ref 127), some (.int x)] [] 161 (I, J, RF w) (some (.int (I4 127 25)), 161, (z_u2 I4 127 35 v2), J, RF w) := by
  refine z_evG 2 (y := z_ret (z_cl E (d + 5) 204 [.ref 127] (161, (I, J, RF w))) 46 [some (.ref 127), some (.int x)] []) (fun _ => rfl) ?_
  refine z_evV (z' := 161) (σ' := (I1, J, RF w)) hx1 ?_
  refine z_evG 5 (y := if (I1 127 24) = 10 then z_go 60 [some (.ref 127), some (.int x)] [.ref 127] 161 (I1, J, RF w) else z_go 56 [some (.ref 127), some (.int x)] [.ref 127] 161 (I1, J, RF w)) (fun _ => rfl) ?_
  refine z_evT h1 ?_
  refine z_evL ?_
  refine z_evG 6 (y := if 0 = 0 then z_go 76 [some (.ref 127), some (.int x)] [.ref 127] 161 ((z_u2 I1 127 27 0), J, RF w) else z_go 72 [some (.ref 127), some (.int x)] [.ref 127] 161 ((z_u2 I1 127 27 0), J, RF w)) (fun _ => rfl) ?_
  refine z_evI (fun _ => ?_) (fun q => absurd (by decide) q)
  refine z_evL ?_
  refine z_evG 2 (y := z_ret (z_cl E (d + 5) 213 [.ref 127] (161, ((z_u2 I1 127 27 0), J, RF w))) 80 [some (.ref 127), some (.int x)] [.ref 127]) (fun _ => rfl) ?_
  refine z_evK (v := .int v1) (z' := 161) (σ' := (I2, J, RF w)) hw1 ?_
  refine z_evG 4 (y := if (I2 127 27) = 0 then z_go 90 [some (.ref 127), some (.int x)] [] 161 ((z_u2 I2 127 34 v1), J, RF w) else z_go 112 [some (.ref 127), some (.int x)] [] 161 ((z_u2 I2 127 34 v1), J, RF w)) (fun _ => rfl) ?_
  refine z_evT hb1 ?_
  refine z_evL ?_
  refine z_evG 2 (y := z_ret (z_cl E (d + 5) 204 [.ref 127] (161, ((z_u2 I2 127 34 v1), J, RF w))) 94 [some (.ref 127), some (.int x)] []) (fun _ => rfl) ?_
  refine z_evV (z' := 161) (σ' := (I3, J, RF w)) hx2 ?_
  refine z_evG 5 (y := if (I3 127 24) = 11 then z_go 108 [some (.ref 127), some (.int x)] [.ref 127] 161 (I3, J, RF w) else z_go 104 [some (.ref 127), some (.int x)] [.ref 127] 161 (I3, J, RF w)) (fun _ => rfl) ?_
  refine z_evT h2 ?_
  refine z_evL ?_
  refine z_evG 6 (y := if 0 = 0 then z_go 124 [some (.ref 127), some (.int x)] [.ref 127] 161 ((z_u2 I3 127 27 0), J, RF w) else z_go 120 [some (.ref 127), some (.int x)] [.ref 127] 161 ((z_u2 I3 127 27 0), J, RF w)) (fun _ => rfl) ?_
  refine z_evI (fun _ => ?_) (fun q => absurd (by decide) q)
  refine z_evL ?_
  refine z_evG 2 (y := z_ret (z_cl E (d + 5) 213 [.ref 127] (161, ((z_u2 I3 127 27 0), J, RF w))) 128 [some (.ref 127), some (.int x)] [.ref 127]) (fun _ => rfl) ?_
  refine z_evK (v := .int v2) (z' := 161) (σ' := (I4, J, RF w)) hw2 ?_
  refine z_evG 4 (y := if (I4 127 27) = 0 then z_go 138 [some (.ref 127), some (.int x)] [] 161 ((z_u2 I4 127 35 v2), J, RF w) else z_go 158 [some (.ref 127), some (.int x)] [] 161 ((z_u2 I4 127 35 v2), J, RF w)) (fun _ => rfl) ?_
  refine z_evF (by rw [hb]; decide) ?_
  refine z_evL ?_
  refine z_evG 3 (y := if (I4 127 27) = 0 then z_go 172 [some (.ref 127), some (.int x)] [] 161 ((z_u2 I4 127 35 v2), J, RF w) else z_go 165 [some (.ref 127), some (.int x)] [] 161 ((z_u2 I4 127 35 v2), J, RF w)) (fun _ => rfl) ?_
  refine z_evF (by rw [hb]; decide) ?_
  refine z_evL ?_
  refine z_evG 4 (y := some (.inr (some (.int (I4 127 25)), 161, (z_u2 I4 127 35 v2), J, RF w))) (fun _ => rfl) ?_
  exact z_evR rfl
set_option maxRecDepth 20000 in
theorem m_rt_e (E : zE) (d : Nat) (I : Nat → Nat → Int32) (J : Nat → Nat → Int64) (w : Nat) (x : Int32) (I1 I2 I3 I4 I5 : Nat → Nat → Int32) (v1 v2 : Int32) (hx1 : z_cl E (d + 5) 204 [.ref 127] (161, I, J, RF w) = some (none, 161, I1, J, RF w)) (h1 : I1 127 24 = 10) (hw1 : z_cl E (d + 5) 213 [.ref 127] (161, z_u2 I1 127 27 0, J, RF w) = some (some (.int v1), 161, I2, J, RF w)) (hb1 : I2 127 27 = 0) (hx2 : z_cl E (d + 5) 204 [.ref 127] (161, z_u2 I2 127 34 v1, J, RF w) = some (none, 161, I3, J, RF w)) (h2 : I3 127 24 = 11) (hw2 : z_cl E (d + 5) 213 [.ref 127] (161, z_u2 I3 127 27 0, J, RF w) = some (some (.int v2), 161, I4, J, RF w)) (hb2 : I4 127 27 = 0) (hx3 : z_cl E (d + 5) 204 [.ref 127] (161, z_u2 I4 127 35 v2, J, RF w) = some (none, 161, I5, J, RF w)) (h3 : ¬ I5 127 24 = 0) : z_Ev E (d + 5) z_m214 42 [some (.ref 127), some (.int x)] [] 161 (I, J, RF w) (some (.int (I5 127 25)), 161, (z_u2 I5 127 27 1), J, RF w) := by
  refine z_evG 2 (y := z_ret (z_cl E (d + 5) 204 [.ref 127] (161, (I, J, RF w))) 46 [some (.ref 127), some (.int x)] []) (fun _ => rfl) ?_
  refine z_evV (z' := 161) (σ' := (I1, J, RF w)) hx1 ?_
  refine z_evG 5 (y := if (I1 127 24) = 10 then z_go 60 [some (.ref 127), some (.int x)] [.ref 127] 161 (I1, J, RF w) else z_go 56 [some (.ref 127), some (.int x)] [.ref 127] 161 (I1, J, RF w)) (fun _ => rfl) ?_
  refine z_evT h1 ?_
  refine z_evL ?_
  refine z_evG 6 (y := if 0 = 0 then z_go 76 [some (.ref 127), some (.int x)] [.ref 127] 161 ((z_u2 I1 127 27 0), J, RF w) else z_go 72 [some (.ref 127), some (.int x)] [.ref 127] 161 ((z_u2 I1 127 27 0), J, RF w)) (fun _ => rfl) ?_
  refine z_evI (fun _ => ?_) (fun q => absurd (by decide) q)
  refine z_evL ?_
  refine z_evG 2 (y := z_ret (z_cl E (d + 5) 213 [.ref 127] (161, ((z_u2 I1 127 27 0), J, RF w))) 80 [some (.ref 127), some (.int x)] [.ref 127]) (fun _ => rfl) ?_
  refine z_evK (v := .int v1) (z' := 161) (σ' := (I2, J, RF w)) hw1 ?_
  refine z_evG 4 (y := if (I2 127 27) = 0 then z_go 90 [some (.ref 127), some (.int x)] [] 161 ((z_u2 I2 127 34 v1), J, RF w) else z_go 112 [some (.ref 127), some (.int x)] [] 161 ((z_u2 I2 127 34 v1), J, RF w)) (fun _ => rfl) ?_
  refine z_evT hb1 ?_
  refine z_evL ?_
  refine z_evG 2 (y := z_ret (z_cl E (d + 5) 204 [.ref 127] (161, ((z_u2 I2 127 34 v1), J, RF w))) 94 [some (.ref 127), some (.int x)] []) (fun _ => rfl) ?_
  refine z_evV (z' := 161) (σ' := (I3, J, RF w)) hx2 ?_
  refine z_evG 5 (y := if (I3 127 24) = 11 then z_go 108 [some (.ref 127), some (.int x)] [.ref 127] 161 (I3, J, RF w) else z_go 104 [some (.ref 127), some (.int x)] [.ref 127] 161 (I3, J, RF w)) (fun _ => rfl) ?_
  refine z_evT h2 ?_
  refine z_evL ?_
  refine z_evG 6 (y := if 0 = 0 then z_go 124 [some (.ref 127), some (.int x)] [.ref 127] 161 ((z_u2 I3 127 27 0), J, RF w) else z_go 120 [some (.ref 127), some (.int x)] [.ref 127] 161 ((z_u2 I3 127 27 0), J, RF w)) (fun _ => rfl) ?_
  refine z_evI (fun _ => ?_) (fun q => absurd (by decide) q)
  refine z_evL ?_
  refine z_evG 2 (y := z_ret (z_cl E (d + 5) 213 [.ref 127] (161, ((z_u2 I3 127 27 0), J, RF w))) 128 [some (.ref 127), some (.int x)] [.ref 127]) (fun _ => rfl) ?_
  refine z_evK (v := .int v2) (z' := 161) (σ' := (I4, J, RF w)) hw2 ?_
  refine z_evG 4 (y := if (I4 127 27) = 0 then z_go 138 [some (.ref 127), some (.int x)] [] 161 ((z_u2 I4 127 35 v2), J, RF w) else z_go 158 [some (.ref 127), some (.int x)] [] 161 ((z_u2 I4 127 35 v2), J, RF w)) (fun _ => rfl) ?_
  refine z_evT hb2 ?_
  refine z_evL ?_
  refine z_evG 2 (y := z_ret (z_cl E (d + 5) 204 [.ref 127] (161, ((z_u2 I4 127 35 v2), J, RF w))) 142 [some (.ref 127), some (.int x)] []) (fun _ => rfl) ?_
  refine z_evV (z' := 161) (σ' := (I5, J, RF w)) hx3 ?_
  refine z_evG 4 (y := if (I5 127 24) = 0 then z_go 154 [some (.ref 127), some (.int x)] [.ref 127] 161 (I5, J, RF w) else z_go 150 [some (.ref 127), some (.int x)] [.ref 127] 161 (I5, J, RF w)) (fun _ => rfl) ?_
  refine z_evF h3 ?_
  refine z_evL ?_
  refine z_evG 6 (y := if 1 = 0 then z_go 172 [some (.ref 127), some (.int x)] [] 161 ((z_u2 I5 127 27 1), J, RF w) else z_go 165 [some (.ref 127), some (.int x)] [] 161 ((z_u2 I5 127 27 1), J, RF w)) (fun _ => rfl) ?_
  refine z_evI (fun q => absurd q (by decide)) (fun _ => ?_)
  refine z_evL ?_
  refine z_evG 4 (y := some (.inr (some (.int (I5 127 25)), 161, (z_u2 I5 127 27 1), J, RF w))) (fun _ => rfl) ?_
  exact z_evR rfl
set_option maxRecDepth 20000 in
theorem m_rt_f (E : zE) (d : Nat) (I : Nat → Nat → Int32) (J : Nat → Nat → Int64) (w : Nat) (x : Int32) (I1 I2 I3 I4 I5 : Nat → Nat → Int32) (v1 v2 : Int32) (hx1 : z_cl E (d + 5) 204 [.ref 127] (161, I, J, RF w) = some (none, 161, I1, J, RF w)) (h1 : I1 127 24 = 10) (hw1 : z_cl E (d + 5) 213 [.ref 127] (161, z_u2 I1 127 27 0, J, RF w) = some (some (.int v1), 161, I2, J, RF w)) (hb1 : I2 127 27 = 0) (hx2 : z_cl E (d + 5) 204 [.ref 127] (161, z_u2 I2 127 34 v1, J, RF w) = some (none, 161, I3, J, RF w)) (h2 : I3 127 24 = 11) (hw2 : z_cl E (d + 5) 213 [.ref 127] (161, z_u2 I3 127 27 0, J, RF w) = some (some (.int v2), 161, I4, J, RF w)) (hb2 : I4 127 27 = 0) (hx3 : z_cl E (d + 5) 204 [.ref 127] (161, z_u2 I4 127 35 v2, J, RF w) = some (none, 161, I5, J, RF w)) (h3 : I5 127 24 = 0) : z_Ev E (d + 5) z_m214 42 [some (.ref 127), some (.int x)] [] 161 (I, J, RF w) (some (.int (-1)), 161, (z_u2 I5 127 27 0), J, RF w) := by
  refine z_evG 2 (y := z_ret (z_cl E (d + 5) 204 [.ref 127] (161, (I, J, RF w))) 46 [some (.ref 127), some (.int x)] []) (fun _ => rfl) ?_
  refine z_evV (z' := 161) (σ' := (I1, J, RF w)) hx1 ?_
  refine z_evG 5 (y := if (I1 127 24) = 10 then z_go 60 [some (.ref 127), some (.int x)] [.ref 127] 161 (I1, J, RF w) else z_go 56 [some (.ref 127), some (.int x)] [.ref 127] 161 (I1, J, RF w)) (fun _ => rfl) ?_
  refine z_evT h1 ?_
  refine z_evL ?_
  refine z_evG 6 (y := if 0 = 0 then z_go 76 [some (.ref 127), some (.int x)] [.ref 127] 161 ((z_u2 I1 127 27 0), J, RF w) else z_go 72 [some (.ref 127), some (.int x)] [.ref 127] 161 ((z_u2 I1 127 27 0), J, RF w)) (fun _ => rfl) ?_
  refine z_evI (fun _ => ?_) (fun q => absurd (by decide) q)
  refine z_evL ?_
  refine z_evG 2 (y := z_ret (z_cl E (d + 5) 213 [.ref 127] (161, ((z_u2 I1 127 27 0), J, RF w))) 80 [some (.ref 127), some (.int x)] [.ref 127]) (fun _ => rfl) ?_
  refine z_evK (v := .int v1) (z' := 161) (σ' := (I2, J, RF w)) hw1 ?_
  refine z_evG 4 (y := if (I2 127 27) = 0 then z_go 90 [some (.ref 127), some (.int x)] [] 161 ((z_u2 I2 127 34 v1), J, RF w) else z_go 112 [some (.ref 127), some (.int x)] [] 161 ((z_u2 I2 127 34 v1), J, RF w)) (fun _ => rfl) ?_
  refine z_evT hb1 ?_
  refine z_evL ?_
  refine z_evG 2 (y := z_ret (z_cl E (d + 5) 204 [.ref 127] (161, ((z_u2 I2 127 34 v1), J, RF w))) 94 [some (.ref 127), some (.int x)] []) (fun _ => rfl) ?_
  refine z_evV (z' := 161) (σ' := (I3, J, RF w)) hx2 ?_
  refine z_evG 5 (y := if (I3 127 24) = 11 then z_go 108 [some (.ref 127), some (.int x)] [.ref 127] 161 (I3, J, RF w) else z_go 104 [some (.ref 127), some (.int x)] [.ref 127] 161 (I3, J, RF w)) (fun _ => rfl) ?_
  refine z_evT h2 ?_
  refine z_evL ?_
  refine z_evG 6 (y := if 0 = 0 then z_go 124 [some (.ref 127), some (.int x)] [.ref 127] 161 ((z_u2 I3 127 27 0), J, RF w) else z_go 120 [some (.ref 127), some (.int x)] [.ref 127] 161 ((z_u2 I3 127 27 0), J, RF w)) (fun _ => rfl) ?_
  refine z_evI (fun _ => ?_) (fun q => absurd (by decide) q)
  refine z_evL ?_
  refine z_evG 2 (y := z_ret (z_cl E (d + 5) 213 [.ref 127] (161, ((z_u2 I3 127 27 0), J, RF w))) 128 [some (.ref 127), some (.int x)] [.ref 127]) (fun _ => rfl) ?_
  refine z_evK (v := .int v2) (z' := 161) (σ' := (I4, J, RF w)) hw2 ?_
  refine z_evG 4 (y := if (I4 127 27) = 0 then z_go 138 [some (.ref 127), some (.int x)] [] 161 ((z_u2 I4 127 35 v2), J, RF w) else z_go 158 [some (.ref 127), some (.int x)] [] 161 ((z_u2 I4 127 35 v2), J, RF w)) (fun _ => rfl) ?_
  refine z_evT hb2 ?_
  refine z_evL ?_
  refine z_evG 2 (y := z_ret (z_cl E (d + 5) 204 [.ref 127] (161, ((z_u2 I4 127 35 v2), J, RF w))) 142 [some (.ref 127), some (.int x)] []) (fun _ => rfl) ?_
  refine z_evV (z' := 161) (σ' := (I5, J, RF w)) hx3 ?_
  refine z_evG 4 (y := if (I5 127 24) = 0 then z_go 154 [some (.ref 127), some (.int x)] [.ref 127] 161 (I5, J, RF w) else z_go 150 [some (.ref 127), some (.int x)] [.ref 127] 161 (I5, J, RF w)) (fun _ => rfl) ?_
  refine z_evT h3 ?_
  refine z_evL ?_
  refine z_evG 5 (y := if 0 = 0 then z_go 172 [some (.ref 127), some (.int x)] [] 161 ((z_u2 I5 127 27 0), J, RF w) else z_go 165 [some (.ref 127), some (.int x)] [] 161 ((z_u2 I5 127 27 0), J, RF w)) (fun _ => rfl) ?_
  refine z_evI (fun _ => ?_) (fun q => absurd (by decide) q)
  refine z_evL ?_
  refine z_evG 2 (y := some (.inr (some (.int (-1)), 161, (z_u2 I5 127 27 0), J, RF w))) (fun _ => rfl) ?_
  exact z_evR rfl
set_option maxRecDepth 20000 in
theorem m_rt_0 (E : zE) (d : Nat) (I : Nat → Nat → Int32) (J : Nat → Nat → Int64) (w : Nat) {r : zR} (x : Int32) (hx : x < 0) (hz : z_Ev E (d + 5) z_m214 42 [some (.ref 127), some (.int x)] [] 161 ((z_u2 (z_u2 (z_u2 (z_u2 I 127 21 x) 127 22 (I 127 15)) 127 23 0) 127 27 0), J, RF w) r) : z_Ev E (d + 5) z_m214 0 [some (.ref 127), some (.int x)] [] 161 (I, J, RF w) r := by
  refine z_evG 7 (y := if x < 0 then z_go 13 [some (.ref 127), some (.int x)] [.ref 127] 161 ((z_u2 I 127 21 x), J, RF w) else z_go 20 [some (.ref 127), some (.int x)] [.ref 127] 161 ((z_u2 I 127 21 x), J, RF w)) (fun _ => rfl) ?_
  refine z_evT hx ?_
  refine z_evL ?_
  refine z_evG 10 (y := z_go 42 [some (.ref 127), some (.int x)] [] 161 ((z_u2 (z_u2 (z_u2 (z_u2 I 127 21 x) 127 22 (I 127 15)) 127 23 0) 127 27 0), J, RF w)) (fun _ => rfl) ?_
  refine z_evL ?_
  exact hz
set_option maxRecDepth 20000 in
theorem m_rt_1 (E : zE) (d : Nat) (I : Nat → Nat → Int32) (J : Nat → Nat → Int64) (w : Nat) {r : zR} (t : Nat) (ht : t < 6) (hz : z_Ev E (d + 5) z_m214 42 [some (.ref 127), some (.int (nI t))] [] 161 ((z_u2 (z_u2 (z_u2 (z_u2 I 127 21 (nI t)) 127 22 (I 140 t)) 127 23 0) 127 27 0), J, RF w) r) : z_Ev E (d + 5) z_m214 0 [some (.ref 127), some (.int (nI t))] [] 161 (I, J, RF w) r := by
  refine z_evG 7 (y := if (nI t) < 0 then z_go 13 [some (.ref 127), some (.int (nI t))] [.ref 127] 161 ((z_u2 I 127 21 (nI t)), J, RF w) else z_go 20 [some (.ref 127), some (.int (nI t))] [.ref 127] 161 ((z_u2 I 127 21 (nI t)), J, RF w)) (fun _ => rfl) ?_
  refine z_evF (nI_pos (by omega)) ?_
  refine z_evL ?_
  refine z_evG 5 (y := z_ild (z_ia E 161 ((z_u2 I 127 21 (nI t)), J, RF w) 140) (nI t) fun vv => z_go 29 [some (.ref 127), some (.int (nI t))] [.int vv, .ref 127] 161 ((z_u2 I 127 21 (nI t)), J, RF w)) (fun _ => rfl) ?_
  refine z_evBn (N := 6) (f := ((z_u2 I 127 21 (nI t)) 140)) (k := t) rfl rfl (by omega) ?_
  refine z_evL ?_
  refine z_evG 7 (y := z_go 42 [some (.ref 127), some (.int (nI t))] [] 161 ((z_u2 (z_u2 (z_u2 (z_u2 I 127 21 (nI t)) 127 22 (I 140 t)) 127 23 0) 127 27 0), J, RF w)) (fun _ => rfl) ?_
  refine z_evL ?_
  exact hz
