-- READ TEXT by the reference: all of it
def s_mtx (b : Nat → Nat) (n : Nat) (fa : Nat → Int32) : Option (Nat ⊕ (Int32 × Int32)) :=
  if ¬ s_tok b n 0 = 3 then some (.inl 0)
  else match s_wrt b n fa (s_en b n 0) with
  | none => none
  | some (.inl p) => some (.inl p)
  | some (.inr (p, v1)) => if ¬ s_tok b n (s_en b n p) = 4 then some (.inl (s_en b n p))
    else match s_wrt b n fa (s_en b n (s_en b n p)) with
    | none => none
    | some (.inl p) => some (.inl p)
    | some (.inr (p2, v2)) => if s_tok b n (s_en b n p2) = 0 then some (.inr (v1, v2)) else some (.inl (s_en b n p2))
def s_scT (a k : Nat) : Prop := (a = 127 ∧ 21 ≤ k ∧ k ≤ 37) ∨ a = 142 ∨ a = 143
theorem s_scMT {a k : Nat} (q : ¬ s_scT a k) : ¬ s_scM a k := by
  unfold s_scM s_scT at *
  omega
theorem z_u2_scT {I : Nat → Nat → Int32} {i b j : Nat} {x : Int32} (h : 21 ≤ i ∧ i ≤ 37) (q : ¬ s_scT b j) : z_u2 I 127 i x b j = I b j := z_u2_n _ _ (fun r => q (.inl ⟨r.1, by omega⟩))
theorem m_nextM (E : zE) (d : Nat) {I : Nat → Nat → Int32} {b : Nat → Nat} {n q : Nat} (J : Nat → Nat → Int64) (w : Nat) (h1 : s_by I b n) (h2 : I 127 23 = nI q) (hq : q ≤ n) : ∃ I', z_cl E (d + 3) 204 [.ref 127] (161, I, J, RF w) = some (none, 161, I', J, RF w) ∧ s_by I' b n ∧ I' 127 23 = nI (s_en b n q) ∧ I' 127 24 = s_mtk (s_tok b n q) ∧ I' 127 25 = nI (s_st b n q) ∧ I' 127 27 = I 127 27 ∧ I' 127 34 = I 127 34 ∧ I' 127 35 = I 127 35 ∧ ∀ a k, ¬ s_scT a k → I' a k = I a k :=
  ⟨_, m_next E d I J w b n q h1 h2 hq, s_by_eq h1 rfl rfl rfl rfl rfl, rfl, rfl, rfl, rfl, rfl, rfl, fun a k q => s_nxt_o (fun r => q (.inl ⟨r.1, by omega⟩))⟩
theorem m_rtQ (E : zE) (d : Nat) {I : Nat → Nat → Int32} {b : Nat → Nat} {n : Nat} (J : Nat → Nat → Int64) (w : Nat) (x : Int32) (hB : s_by I b n) (hn : n ≤ 160) (h23 : I 127 23 = nI 0) (h27 : I 127 27 = 0) {R : Nat ⊕ (Int32 × Int32)} (e : s_mtx b n (I 141) = some R) : ∃ I', (∀ a k, ¬ s_scT a k → I' a k = I a k) ∧ match R with
    | .inl p => p ≤ n ∧ z_Ev E (d + 5) z_m214 42 [some (.ref 127), some (.int x)] [] 161 (I, J, RF w) (some (.int (nI (s_st b n p))), 161, I', J, RF w)
    | .inr (v1, v2) => z_Ev E (d + 5) z_m214 42 [some (.ref 127), some (.int x)] [] 161 (I, J, RF w) (some (.int (-1)), 161, I', J, RF w) ∧ I' 127 34 = v1 ∧ I' 127 35 = v2 := by
  have tk : ∀ t, t ∈ z_tks → (s_mtk t = 10 ↔ t = 3) ∧ (s_mtk t = 11 ↔ t = 4) ∧ (s_mtk t = 0 ↔ t = 0) := by decide
  obtain ⟨I1, e1, b1, a1, t1, l1, f1, _, _, s1⟩ := m_nextM E (d + 2) J w hB h23 (Nat.zero_le n)
  unfold s_mtx at e
  by_cases c1 : s_tok b n 0 = 3
  · rw [if_neg (not_not_intro c1)] at e
    have g1 : I1 127 24 = 10 := t1.trans ((tk _ (s_tok_mem b n 0)).1.mpr c1)
    have fa1 : (z_u2 I1 127 27 0) 141 = I 141 := funext fun k => s1 141 k (by unfold s_scT; omega)
    have m0 : s_M0 (z_u2 I1 127 27 0) (z_u2 I1 127 27 0) b n (s_en b n 0) := ⟨b1, a1, rfl, fun _ _ _ => rfl⟩
    cases r1 : s_wrt b n (I 141) (s_en b n 0) with
    | none => rw [r1] at e; cases e
    | some W1 =>
      rw [r1] at e
      have Q1 := m_readWorthQ E (d + 0) J w m0 (s_en_le b (Nat.zero_le n)) hn (R := W1) (by rw [fa1]; exact r1)
      cases W1 with
      | inl p =>
        have e' : R = .inl p := by injection e with e; exact e.symm
        subst e'
        obtain ⟨hp, I2, w1, mb⟩ := Q1
        refine ⟨_, ?_, hp, mb.2.1 ▸ m_rt_b E d I J w x I1 I2 0 e1 g1 w1 mb.1⟩
        intro a k q
        exact (z_u2_scT (by omega) q).trans ((z_u2_scT (by omega) q).trans ((mb.2.2.2 a k (s_scMT q)).trans ((z_u2_scT (by omega) q).trans (s1 a k q))))
      | inr pv =>
        obtain ⟨p, v1⟩ := pv
        obtain ⟨hp, I2, w1, mb⟩ := Q1
        have hB2 : s_by (z_u2 I2 127 34 v1) b n := s_by_eq mb.1 rfl rfl rfl rfl rfl
        obtain ⟨I3, e3, b3, a3, t3, l3, f3, g34, _, s3⟩ := m_nextM E (d + 2) (I := z_u2 I2 127 34 v1) J w hB2 mb.2.1 (s_en_le b hp)
        have same3 : ∀ a k, ¬ s_scT a k → I3 a k = I a k := fun a k q => (s3 a k q).trans ((z_u2_scT (by omega) q).trans ((mb.2.2.2 a k (s_scMT q)).trans ((z_u2_scT (by omega) q).trans (s1 a k q))))
        change (if ¬ s_tok b n (s_en b n p) = 4 then some (.inl (s_en b n p))
          else match s_wrt b n (I 141) (s_en b n (s_en b n p)) with
          | none => none
          | some (.inl p) => some (.inl p)
          | some (.inr (p2, v2)) => if s_tok b n (s_en b n p2) = 0 then some (.inr (v1, v2)) else some (.inl (s_en b n p2))) = some R at e
        by_cases c2 : s_tok b n (s_en b n p) = 4
        · rw [if_neg (not_not_intro c2)] at e
          have g3 : I3 127 24 = 11 := t3.trans ((tk _ (s_tok_mem b n _)).2.1.mpr c2)
          have fa3 : (z_u2 I3 127 27 0) 141 = I 141 := funext fun k => same3 141 k (by unfold s_scT; omega)
          have m3 : s_M0 (z_u2 I3 127 27 0) (z_u2 I3 127 27 0) b n (s_en b n (s_en b n p)) := ⟨b3, a3, rfl, fun _ _ _ => rfl⟩
          cases r2 : s_wrt b n (I 141) (s_en b n (s_en b n p)) with
          | none => rw [r2] at e; cases e
          | some W2 =>
            rw [r2] at e
            have Q2 := m_readWorthQ E (d + 0) J w m3 (s_en_le b (s_en_le b hp)) hn (R := W2) (by rw [fa3]; exact r2)
            cases W2 with
            | inl p2 =>
              have e' : R = .inl p2 := by injection e with e; exact e.symm
              subst e'
              obtain ⟨hp2, I4, w2, mb2⟩ := Q2
              refine ⟨_, ?_, hp2, mb2.2.1 ▸ m_rt_d E d I J w x I1 I2 I3 I4 v1 0 e1 g1 w1 mb.2.2.1 e3 g3 w2 mb2.1⟩
              intro a k q
              exact (z_u2_scT (by omega) q).trans ((mb2.2.2.2 a k (s_scMT q)).trans ((z_u2_scT (by omega) q).trans (same3 a k q)))
            | inr pv2 =>
              obtain ⟨p2, v2⟩ := pv2
              obtain ⟨hp2, I4, w2, mb2⟩ := Q2
              have hB4 : s_by (z_u2 I4 127 35 v2) b n := s_by_eq mb2.1 rfl rfl rfl rfl rfl
              obtain ⟨I5, e5, b5, a5, t5, l5, f5, h34, h35, s5⟩ := m_nextM E (d + 2) (I := z_u2 I4 127 35 v2) J w hB4 mb2.2.1 (s_en_le b hp2)
              have same5 : ∀ a k, ¬ s_scT a k → I5 a k = I a k := fun a k q => (s5 a k q).trans ((z_u2_scT (by omega) q).trans ((mb2.2.2.2 a k (s_scMT q)).trans ((z_u2_scT (by omega) q).trans (same3 a k q))))
              change (if s_tok b n (s_en b n p2) = 0 then some (.inr (v1, v2)) else some (.inl (s_en b n p2))) = some R at e
              by_cases c3 : s_tok b n (s_en b n p2) = 0
              · rw [if_pos c3] at e
                have e' : R = .inr (v1, v2) := by injection e with e; exact e.symm
                subst e'
                have g5 : I5 127 24 = 0 := t5.trans ((tk _ (s_tok_mem b n _)).2.2.mpr c3)
                refine ⟨_, ?_, m_rt_f E d I J w x I1 I2 I3 I4 I5 v1 v2 e1 g1 w1 mb.2.2.1 e3 g3 w2 mb2.2.2.1 e5 g5, ?_, ?_⟩
                · intro a k q
                  exact (z_u2_scT (by omega) q).trans (same5 a k q)
                · show I5 127 34 = v1
                  rw [h34]
                  show I4 127 34 = v1
                  rw [mb2.2.2.2 127 34 (by unfold s_scM; omega)]
                  show I3 127 34 = v1
                  rw [g34]
                  rfl
                · show I5 127 35 = v2
                  rw [h35]
                  rfl
              · rw [if_neg c3] at e
                have e' : R = .inl (s_en b n p2) := by injection e with e; exact e.symm
                subst e'
                have g5 : ¬ I5 127 24 = 0 := fun q => c3 ((tk _ (s_tok_mem b n _)).2.2.mp (t5.symm.trans q))
                refine ⟨_, ?_, s_en_le b hp2, l5 ▸ m_rt_e E d I J w x I1 I2 I3 I4 I5 v1 v2 e1 g1 w1 mb.2.2.1 e3 g3 w2 mb2.2.2.1 e5 g5⟩
                intro a k q
                exact (z_u2_scT (by omega) q).trans (same5 a k q)
        · rw [if_pos c2] at e
          have e' : R = .inl (s_en b n p) := by injection e with e; exact e.symm
          subst e'
          have g3 : ¬ I3 127 24 = 11 := fun q => c2 ((tk _ (s_tok_mem b n _)).2.1.mp (t3.symm.trans q))
          refine ⟨_, ?_, s_en_le b hp, l3 ▸ m_rt_c E d I J w x I1 I2 I3 v1 e1 g1 w1 mb.2.2.1 e3 g3⟩
          intro a k q
          exact (z_u2_scT (by omega) q).trans ((z_u2_scT (by omega) q).trans (same3 a k q))
  · rw [if_pos c1] at e
    have e' : R = .inl 0 := by injection e with e; exact e.symm
    subst e'
    have g1 : ¬ I1 127 24 = 10 := fun q => c1 ((tk _ (s_tok_mem b n 0)).1.mp (t1.symm.trans q))
    refine ⟨_, ?_, Nat.zero_le _, l1 ▸ m_rt_a E d I J w x I1 e1 g1⟩
    intro a k q
    exact (z_u2_scT (by omega) q).trans ((z_u2_scT (by omega) q).trans ((z_u2_scT (by omega) q).trans (s1 a k q)))
