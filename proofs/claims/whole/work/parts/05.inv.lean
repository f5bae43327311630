-- INVERSIONS of the pure step
section INV
variable {st : List Value} {y : zP ⊕ zR} {ls : zL} {i : Nat}
theorem z_pI_inv {k : Int32 → List Value → zY} (h : z_pI st k = some y) : ∃ x r, st = .int x :: r ∧ k x r = some y := by
  unfold z_pI at h; split at h
  · exact ⟨_, _, rfl, h⟩
  · cases h
theorem z_pJ_inv {k : Int64 → List Value → zY} (h : z_pJ st k = some y) : ∃ x r, st = .long x :: r ∧ k x r = some y := by
  unfold z_pJ at h; split at h
  · exact ⟨_, _, rfl, h⟩
  · cases h
theorem z_pA_inv {k : Nat → List Value → zY} (h : z_pA st k = some y) : ∃ x r, st = .ref x :: r ∧ k x r = some y := by
  unfold z_pA at h; split at h
  · exact ⟨_, _, rfl, h⟩
  · cases h
theorem z_p1_inv {k : Value → List Value → zY} (h : z_p1 st k = some y) : ∃ v r, st = v :: r ∧ k v r = some y ∧ ((∃ a, v = .int a) ∨ ∃ a, v = .ref a) := by
  unfold z_p1 at h; split at h
  · exact ⟨_, _, rfl, h, Or.inl ⟨_, rfl⟩⟩
  · exact ⟨_, _, rfl, h, Or.inr ⟨_, rfl⟩⟩
  · cases h
theorem z_ck_inv {b : Bool} {x : zY} (h : z_ck b x = some y) : b = true ∧ x = some y := by
  unfold z_ck at h; split at h
  · exact ⟨rfl, h⟩
  · cases h
theorem z_pR_inv {k : Option Nat → List Value → zY} (h : z_pR st k = some y) : ∃ o r, st = z_rv o :: r ∧ k o r = some y ∧ ∀ a, o = some a → a < 1000 := by
  unfold z_pR at h; split at h
  · obtain ⟨h1, h⟩ := z_ck_inv h
    refine ⟨some _, _, rfl, h, fun a e => ?_⟩
    cases e
    exact Nat.ble_eq.mp h1
  · exact ⟨none, _, rfl, h, fun a e => by cases e⟩
  · cases h
theorem z_pops_inv : ∀ (n : Nat) (as st : List Value) (k : List Value → List Value → zY), z_pops n as st k = some y → ∃ bs r, bs.length = n ∧ st = bs ++ r ∧ k (bs.reverse ++ as) r = some y := by
  intro n
  induction n with
  | zero => intro as st k h; exact ⟨[], st, rfl, rfl, h⟩
  | succ n ih =>
    intro as st k h
    cases st with
    | nil => cases h
    | cons v st =>
      obtain ⟨bs, r, h1, h2, h3⟩ := ih (v :: as) st k h
      refine ⟨v :: bs, r, by simp [h1], by simp [h2], ?_⟩
      simpa using h3
theorem z_lI_inv {k : Int32 → zY} (h : z_lI ls i k = some y) : ∃ x, z_gl ls i = some (.int x) ∧ k x = some y := by
  unfold z_lI at h; split at h
  · exact ⟨_, by assumption, h⟩
  · cases h
theorem z_lJ_inv {k : Int64 → zY} (h : z_lJ ls i k = some y) : ∃ x, z_gl ls i = some (.long x) ∧ k x = some y := by
  unfold z_lJ at h; split at h
  · exact ⟨_, by assumption, h⟩
  · cases h
theorem z_lA_inv {k : Nat → zY} (h : z_lA ls i k = some y) : ∃ x, z_gl ls i = some (.ref x) ∧ k x = some y := by
  unfold z_lA at h; split at h
  · exact ⟨_, by assumption, h⟩
  · cases h
theorem z_ild_inv {o : Option (Nat × (Nat → Int32))} {i : Int32} {k : Int32 → zY} (h : z_ild o i k = some y) : ∃ N f, o = some (N, f) ∧ z_in i N = true ∧ k (f i.toNatClampNeg) = some y := by
  unfold z_ild at h; split at h
  · obtain ⟨h1, h2⟩ := z_ck_inv h
    exact ⟨_, _, rfl, h1, h2⟩
  · cases h
theorem z_t0_inv {ts : List Nat} {k : Nat → zY} (h : z_t0 ts k = some y) : ∃ t r, ts = t :: r ∧ k t = some y := by
  unfold z_t0 at h; split at h
  · exact ⟨_, _, rfl, h⟩
  · cases h
theorem z_t2_inv {ts : List Nat} {k : Nat → Nat → zY} (h : z_t2 ts k = some y) : ∃ a b, ts = [a, b] ∧ k a b = some y := by
  unfold z_t2 at h; split at h
  · exact ⟨_, _, rfl, h⟩
  · cases h
theorem z_sw_inv {o : Option Nat} {z : Nat} {σ : zS} (h : z_sw o ls st z σ = some y) : ∃ t, o = some t ∧ z_go t ls st z σ = some y := by
  unfold z_sw at h; split at h
  · exact ⟨_, rfl, h⟩
  · cases h
theorem z_ret_inv {o : Option zR} {pc : Nat} (h : z_ret o pc ls st = some y) : ∃ r : zR, o = some r ∧ z_go pc ls (r.1.toList ++ st) r.2.1 r.2.2 = some y := by
  unfold z_ret at h; split at h
  · exact ⟨_, rfl, h⟩
  · exact ⟨_, rfl, h⟩
  · cases h
theorem z_in_inv {i : Int32} {n : Nat} (h : z_in i n = true) : vp_in i n := by
  unfold z_in at h
  simp only [Bool.and_eq_true, decide_eq_true_eq] at h
  rintro (q | q)
  · exact absurd h.1 (Int32.not_le.mpr q)
  · have := Nat.ble_eq.mp h.2
    omega
theorem z_ia_inv {E : zE} {z : Nat} {σ : zS} {a N : Nat} {f : Nat → Int32} (h : z_ia E z σ a = some (N, f)) : (a < 1000 ∧ a < z ∧ z_SH a = (0, N) ∧ f = σ.1 a) ∨ (1000 ≤ a ∧ z_roI E a = some (N, f)) := by
  unfold z_ia at h
  cases h1 : Nat.blt a 1000 with
  | true =>
    rw [h1] at h
    have h1 := Nat.ble_eq.mp h1
    refine Or.inl ?_
    cases h2 : (Nat.blt a z && Nat.beq (z_SH a).1 0) with
    | true =>
      rw [h2] at h
      simp only [Bool.and_eq_true] at h2
      have e := Nat.eq_of_beq_eq_true h2.2
      simp only [cond_true, Option.some.injEq, Prod.mk.injEq] at h
      exact ⟨h1, Nat.ble_eq.mp h2.1, by rw [← h.1, ← e], h.2.symm⟩
    | false => rw [h2] at h; cases h
  | false =>
    rw [h1] at h
    refine Or.inr ⟨?_, h⟩
    rcases Nat.lt_or_ge a 1000 with q | q
    · rw [show Nat.blt a 1000 = true from Nat.ble_eq.mpr q] at h1; cases h1
    · exact q
theorem z_ba_inv {z : Nat} {σ : zS} {a N : Nat} {f : Nat → Int32} (h : z_ba z σ a = some (N, f)) : (a < 1000 ∧ a < z ∧ z_SH a = (2, N) ∧ f = σ.1 a) ∨ (1000 ≤ a ∧ z_roB a = some (N, f)) := by
  unfold z_ba at h
  cases h1 : Nat.blt a 1000 with
  | true =>
    rw [h1] at h
    have h1 := Nat.ble_eq.mp h1
    refine Or.inl ?_
    cases h2 : (Nat.blt a z && Nat.beq (z_SH a).1 2) with
    | true =>
      rw [h2] at h
      simp only [Bool.and_eq_true] at h2
      have e := Nat.eq_of_beq_eq_true h2.2
      simp only [cond_true, Option.some.injEq, Prod.mk.injEq] at h
      exact ⟨h1, Nat.ble_eq.mp h2.1, by rw [← h.1, ← e], h.2.symm⟩
    | false => rw [h2] at h; cases h
  | false =>
    rw [h1] at h
    refine Or.inr ⟨?_, h⟩
    rcases Nat.lt_or_ge a 1000 with q | q
    · rw [show Nat.blt a 1000 = true from Nat.ble_eq.mpr q] at h1; cases h1
    · exact q
theorem z_roI_inv {E : zE} {a N : Nat} {f : Nat → Int32} (h : z_roI E a = some (N, f)) : (a = 1000 ∧ N = 6 ∧ f = z_first) ∨ (a = 1001 ∧ N = 6 ∧ f = z_above) ∨ (a = 1006 ∧ (N, f) = E) := by
  unfold z_roI at h
  cases h1 : Nat.beq a 1000 with
  | true => rw [h1] at h; simp only [cond_true, Option.some.injEq, Prod.mk.injEq] at h; exact Or.inl ⟨Nat.eq_of_beq_eq_true h1, h.1.symm, h.2.symm⟩
  | false =>
    rw [h1] at h
    cases h2 : Nat.beq a 1001 with
    | true => rw [h2] at h; simp only [cond_true, cond_false, Option.some.injEq, Prod.mk.injEq] at h; exact Or.inr (Or.inl ⟨Nat.eq_of_beq_eq_true h2, h.1.symm, h.2.symm⟩)
    | false =>
      rw [h2] at h
      cases h3 : Nat.beq a 1006 with
      | true => rw [h3] at h; simp only [cond_true, cond_false, Option.some.injEq] at h; exact Or.inr (Or.inr ⟨Nat.eq_of_beq_eq_true h3, h.symm⟩)
      | false => rw [h3] at h; cases h
theorem z_roB_inv {a N : Nat} {f : Nat → Int32} (h : z_roB a = some (N, f)) : (a = 1003 ∧ N = 55 ∧ f = fun j => z_wordsL.getD j 0) ∨ (a = 1005 ∧ N = 8 ∧ f = fun j => z_signsL.getD j 0) := by
  unfold z_roB at h
  cases h1 : Nat.beq a 1003 with
  | true => rw [h1] at h; simp only [cond_true, Option.some.injEq, Prod.mk.injEq] at h; exact Or.inl ⟨Nat.eq_of_beq_eq_true h1, h.1.symm, h.2.symm⟩
  | false =>
    rw [h1] at h
    cases h2 : Nat.beq a 1005 with
    | true => rw [h2] at h; simp only [cond_true, cond_false, Option.some.injEq, Prod.mk.injEq] at h; exact Or.inr ⟨Nat.eq_of_beq_eq_true h2, h.1.symm, h.2.symm⟩
    | false => rw [h2] at h; cases h
theorem z_isA_inv {z : Nat} {σ : zS} {a k : Nat} (h : z_isA z σ a k = true) : a < 1000 ∧ a < z ∧ z_SH a = (k, (z_SH a).2) := by
  unfold z_isA at h
  simp only [Bool.and_eq_true] at h
  refine ⟨Nat.ble_eq.mp h.1.1, Nat.ble_eq.mp h.1.2, ?_⟩
  rw [← Nat.eq_of_beq_eq_true h.2]
theorem z_isO_inv {z : Nat} {σ : zS} {a ci : Nat} (h : z_isO z σ a ci = true) : a < 1000 ∧ a < z ∧ z_SH a = (ci + 4, z_nf ci) ∧ ci < 12 := by
  unfold z_isO at h
  simp only [Bool.and_eq_true] at h
  refine ⟨Nat.ble_eq.mp h.1.1.1.1, Nat.ble_eq.mp h.1.1.1.2, ?_, Nat.ble_eq.mp h.2⟩
  rw [← Nat.eq_of_beq_eq_true h.1.1.2, ← Nat.eq_of_beq_eq_true h.1.2]
theorem z_go_inv {pc : Nat} {z : Nat} {σ : zS} (h : z_go pc ls st z σ = some y) : y = .inl (pc, ls, st, z, σ) := (Option.some.inj h).symm
theorem z_str_inv {fk a : Nat} {k : Value → zY} (h : z_str fk a k = some y) : (a = 1002 ∨ a = 1004) ∧ ((fk = 0 ∧ k (.ref (a + 1)) = some y) ∨ (fk ≠ 0 ∧ k (.int 0) = some y)) := by
  unfold z_str at h
  cases h1 : (Nat.beq a 1002 || Nat.beq a 1004) with
  | false => rw [h1] at h; cases h
  | true =>
    rw [h1] at h
    simp only [Bool.or_eq_true] at h1
    refine ⟨h1.imp Nat.eq_of_beq_eq_true Nat.eq_of_beq_eq_true, ?_⟩
    cases h2 : Nat.beq fk 0 with
    | true => rw [h2] at h; exact Or.inl ⟨Nat.eq_of_beq_eq_true h2, h⟩
    | false => rw [h2] at h; exact Or.inr ⟨Nat.ne_of_beq_eq_false h2, h⟩
end INV
