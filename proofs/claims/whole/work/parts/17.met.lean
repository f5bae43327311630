-- no end but at a return
/-- a step goes on, and makes no cell unmade -/
def z_nr (w : Nat) (y : zY) : Prop := ∀ v, y = some v → ∃ pc ls st z σ, v = .inl (pc, ls, st, z, σ) ∧ w ≤ z
section NR
variable {w : Nat}
theorem z_nr_0 : z_nr w none := fun _ h => by cases h
theorem z_nr_go {pc : Nat} {ls : zL} {st : List Value} {z : Nat} {σ : zS} (hz : w ≤ z) : z_nr w (z_go pc ls st z σ) := fun _ h => ⟨pc, ls, st, z, σ, (Option.some.inj h).symm, hz⟩
theorem z_nr_pI {st : List Value} {k : Int32 → List Value → zY} (h : ∀ a r, z_nr w (k a r)) : z_nr w (z_pI st k) := by
  unfold z_pI; split
  · exact h _ _
  · exact z_nr_0
theorem z_nr_pJ {st : List Value} {k : Int64 → List Value → zY} (h : ∀ a r, z_nr w (k a r)) : z_nr w (z_pJ st k) := by
  unfold z_pJ; split
  · exact h _ _
  · exact z_nr_0
theorem z_nr_pA {st : List Value} {k : Nat → List Value → zY} (h : ∀ a r, z_nr w (k a r)) : z_nr w (z_pA st k) := by
  unfold z_pA; split
  · exact h _ _
  · exact z_nr_0
theorem z_nr_p1 {st : List Value} {k : Value → List Value → zY} (h : ∀ a r, z_nr w (k a r)) : z_nr w (z_p1 st k) := by
  unfold z_p1; split
  · exact h _ _
  · exact h _ _
  · exact z_nr_0
theorem z_nr_ck {b : Bool} {y : zY} (h : z_nr w y) : z_nr w (z_ck b y) := by
  cases b
  · exact z_nr_0
  · exact h
theorem z_nr_pR {st : List Value} {k : Option Nat → List Value → zY} (h : ∀ a r, z_nr w (k a r)) : z_nr w (z_pR st k) := by
  unfold z_pR; split
  · exact z_nr_ck (h _ _)
  · exact h _ _
  · exact z_nr_0
theorem z_nr_pops {k : List Value → List Value → zY} (h : ∀ a r, z_nr w (k a r)) : ∀ (n : Nat) (as st : List Value), z_nr w (z_pops n as st k)
  | 0, as, st => h _ _
  | n + 1, as, v :: st => z_nr_pops h n (v :: as) st
  | n + 1, as, [] => z_nr_0
theorem z_nr_lI {ls : zL} {i : Nat} {k : Int32 → zY} (h : ∀ a, z_nr w (k a)) : z_nr w (z_lI ls i k) := by
  unfold z_lI; split
  · exact h _
  · exact z_nr_0
theorem z_nr_lJ {ls : zL} {i : Nat} {k : Int64 → zY} (h : ∀ a, z_nr w (k a)) : z_nr w (z_lJ ls i k) := by
  unfold z_lJ; split
  · exact h _
  · exact z_nr_0
theorem z_nr_lA {ls : zL} {i : Nat} {k : Nat → zY} (h : ∀ a, z_nr w (k a)) : z_nr w (z_lA ls i k) := by
  unfold z_lA; split
  · exact h _
  · exact z_nr_0
theorem z_nr_ild {o : Option (Nat × (Nat → Int32))} {i : Int32} {k : Int32 → zY} (h : ∀ a, z_nr w (k a)) : z_nr w (z_ild o i k) := by
  unfold z_ild; split
  · exact z_nr_ck (h _)
  · exact z_nr_0
theorem z_nr_t0 {ts : List Nat} {k : Nat → zY} (h : ∀ a, z_nr w (k a)) : z_nr w (z_t0 ts k) := by
  unfold z_t0; split
  · exact h _
  · exact z_nr_0
theorem z_nr_t2 {ts : List Nat} {k : Nat → Nat → zY} (h : ∀ a b, z_nr w (k a b)) : z_nr w (z_t2 ts k) := by
  unfold z_t2; split
  · exact h _ _
  · exact z_nr_0
theorem z_nr_if {c : Prop} {_ : Decidable c} {a b : zY} (ha : z_nr w a) (hb : z_nr w b) : z_nr w (if c then a else b) := by
  split
  · exact ha
  · exact hb
theorem z_nr_bif {c : Bool} {a b : zY} (ha : z_nr w a) (hb : z_nr w b) : z_nr w (bif c then a else b) := by
  cases c
  · exact hb
  · exact ha
theorem z_nr_sw {o : Option Nat} {ls : zL} {st : List Value} {z : Nat} {σ : zS} (hz : w ≤ z) : z_nr w (z_sw o ls st z σ) := by
  unfold z_sw; split
  · exact z_nr_go hz
  · exact z_nr_0
theorem z_nr_ret {o : Option zR} {pc : Nat} {ls : zL} {st : List Value} (hc : ∀ r, o = some r → w ≤ r.2.1) : z_nr w (z_ret o pc ls st) := by
  unfold z_ret; split
  · exact z_nr_go (hc _ rfl)
  · exact z_nr_go (hc _ rfl)
  · exact z_nr_0
theorem z_nr_br {cd : Jvm.ClassFile.Cond} {a b : Int32} {t n : Nat} {ls : zL} {st : List Value} {z : Nat} {σ : zS} (hz : w ≤ z) : z_nr w (z_br cd a b t n ls st z σ) := by
  cases cd <;> exact z_nr_if (z_nr_go hz) (z_nr_go hz)
theorem z_nr_str {fk a : Nat} {k : Value → zY} (h : ∀ v, z_nr w (k v)) : z_nr w (z_str fk a k) := z_nr_bif (z_nr_bif (h _) (h _)) z_nr_0
theorem z_nr_put {M : zM} {ci fk : Nat} {st : List Value} {z : Nat} {σ : zS} {k : List Value → Nat → zS → zY} (h : ∀ a c, z_nr w (k a z c)) : z_nr w (z_put M ci fk st z σ k) := by
  unfold z_put; split
  · exact z_nr_pI fun _ _ => z_nr_pA fun _ _ => z_nr_ck (h _ _)
  · exact z_nr_pI fun _ _ => z_nr_pA fun _ _ => z_nr_ck (h _ _)
  · exact z_nr_pJ fun _ _ => z_nr_pA fun _ _ => z_nr_ck (h _ _)
  · exact z_nr_pR fun _ _ => z_nr_pA fun _ _ => z_nr_ck (h _ _)
theorem z_nr_copy {E : zE} {z : Nat} {σ : zS} {s d : Nat} {sp dp n : Int32} {k : Nat → zS → zY} (h : ∀ b, z_nr w (k z b)) : z_nr w (z_copy E z σ s d sp dp n k) := by
  unfold z_copy; split
  · exact z_nr_ck (h _)
  · exact z_nr_0
theorem z_nr_invk {cal : Nat → List Value → zG → Option zR} {E : zE} {ts : List Nat} {pc : Nat} {ls : zL} {st : List Value} {z : Nat} {σ : zS} (hc : ∀ mid as r, cal mid as (z, σ) = some r → z ≤ r.2.1) : z_nr z (z_invk cal E ts pc ls st z σ) := by
  unfold z_invk; split
  · exact z_nr_pops (fun _ _ => z_nr_pA fun _ _ => z_nr_ck (z_nr_ret (hc _ _))) _ _ _
  · exact z_nr_pops (fun _ _ => z_nr_ck (z_nr_ret (hc _ _))) _ _ _
  · exact z_nr_pops (fun _ _ => z_nr_pA fun _ _ => z_nr_ck (z_nr_ret (hc _ _))) _ _ _
  · exact z_nr_pops (fun _ _ => z_nr_ck (z_nr_ret (hc _ _))) _ _ _
  · exact z_nr_pops (fun _ _ => z_nr_pA fun _ _ => z_nr_ck (z_nr_ret (hc _ _))) _ _ _
  · exact z_nr_pI fun _ _ => z_nr_pI fun _ _ => z_nr_pA fun _ _ => z_nr_pI fun _ _ => z_nr_pA fun _ _ => z_nr_ck (z_nr_copy fun _ => z_nr_go (Nat.le_refl _))
  · exact z_nr_pA fun _ _ => z_nr_ck (z_nr_go (Nat.le_refl _))
  · exact z_nr_pI fun _ _ => z_nr_pI fun _ _ => z_nr_ck (z_nr_go (Nat.le_refl _))
  · exact z_nr_pI fun _ _ => z_nr_pI fun _ _ => z_nr_ck (z_nr_go (Nat.le_refl _))
  · exact z_nr_pJ fun _ _ => z_nr_pJ fun _ _ => z_nr_ck (z_nr_go (Nat.le_refl _))
  · exact z_nr_pJ fun _ _ => z_nr_ck (z_nr_go (Nat.le_refl _))
  · exact z_nr_0
theorem z_nr_aln {E : zE} {a : Nat} {pc : Nat} {ls : zL} {st : List Value} {z : Nat} {σ : zS} (hz : w ≤ z) : z_nr w (match z_al E z σ a with
    | some n => z_go (pc + 1) ls (.int (Int32.ofNat n) :: st) z σ
    | none => none) := by
  split
  · exact z_nr_go hz
  · exact z_nr_0
end NR
section NR2
variable {cal : Nat → List Value → zG → Option zR} {E : zE} {M : zM} {pc : Nat} {ls : zL} {st : List Value} {z : Nat} {σ : zS}
def z_isRet : Instr → Bool
  | .ireturn => true
  | .lreturn => true
  | .areturn => true
  | .return_ => true
  | _ => false
theorem z_nr_x1 (q : zI) (hq : z_isRet q.1 = false) (hc : ∀ mid as r, cal mid as (z, σ) = some r → z ≤ r.2.1) : z_nr z (z_x1 cal E M q pc ls st z σ) := by
  obtain ⟨ins, len, ts, cv⟩ := q
  cases ins with
  | iload i => exact z_nr_lI fun _ => (z_nr_go (Nat.le_refl _))
  | iload_n i => exact z_nr_lI fun _ => (z_nr_go (Nat.le_refl _))
  | lload i => exact z_nr_lJ fun _ => (z_nr_go (Nat.le_refl _))
  | lload_n i => exact z_nr_lJ fun _ => (z_nr_go (Nat.le_refl _))
  | aload i => exact z_nr_lA fun _ => (z_nr_go (Nat.le_refl _))
  | aload_n i => exact z_nr_lA fun _ => (z_nr_go (Nat.le_refl _))
  | istore i => exact z_nr_pI fun _ _ => (z_nr_go (Nat.le_refl _))
  | istore_n i => exact z_nr_pI fun _ _ => (z_nr_go (Nat.le_refl _))
  | lstore i => exact z_nr_pJ fun _ _ => (z_nr_go (Nat.le_refl _))
  | lstore_n i => exact z_nr_pJ fun _ _ => (z_nr_go (Nat.le_refl _))
  | astore i => exact z_nr_pA fun _ _ => (z_nr_go (Nat.le_refl _))
  | astore_n i => exact z_nr_pA fun _ _ => (z_nr_go (Nat.le_refl _))
  | iinc i n => exact z_nr_lI fun _ => z_nr_pI fun _ _ => (z_nr_go (Nat.le_refl _))
  | iconst n => exact z_nr_pI fun _ _ => (z_nr_go (Nat.le_refl _))
  | bipush n => exact z_nr_pI fun _ _ => (z_nr_go (Nat.le_refl _))
  | sipush n => exact z_nr_pI fun _ _ => (z_nr_go (Nat.le_refl _))
  | ldc_w n => exact z_nr_pI fun _ _ => (z_nr_go (Nat.le_refl _))
  | lconst n => exact z_nr_pJ fun _ _ => (z_nr_go (Nat.le_refl _))
  | ldc2_w n => exact z_nr_pJ fun _ _ => (z_nr_go (Nat.le_refl _))
  | ldc n => exact (show z_nr z (z_p1 [cv] fun v _ => z_go (pc + 2) ls (v :: st) z σ) from z_nr_p1 fun _ _ => (z_nr_go (Nat.le_refl _)))
  | getstatic n => exact (show z_nr z (z_p1 [cv] fun v _ => z_go (pc + 3) ls (v :: st) z σ) from z_nr_p1 fun _ _ => (z_nr_go (Nat.le_refl _)))
  | getfield n => exact z_nr_t2 fun _ _ => z_nr_pA fun _ _ => z_nr_bif (z_nr_ck (z_nr_go (Nat.le_refl _))) (z_nr_str fun _ => (z_nr_go (Nat.le_refl _)))
  | putfield n => exact z_nr_t2 fun _ _ => z_nr_put fun _ _ => (z_nr_go (Nat.le_refl _))
  | invokevirtual n => exact z_nr_invk hc
  | invokestatic n => exact z_nr_invk hc
  | invokespecial n => exact z_nr_invk hc
  | iaload => exact z_nr_pI fun _ _ => z_nr_pA fun _ _ => z_nr_ild fun _ => (z_nr_go (Nat.le_refl _))
  | baload => exact z_nr_pI fun _ _ => z_nr_pA fun _ _ => z_nr_ild fun _ => (z_nr_go (Nat.le_refl _))
  | laload => exact z_nr_pI fun _ _ => z_nr_pA fun _ _ => z_nr_ck (z_nr_go (Nat.le_refl _))
  | aaload => exact z_nr_pI fun _ _ => z_nr_pA fun _ _ => z_nr_ck (z_nr_go (Nat.le_refl _))
  | iastore => exact z_nr_pI fun _ _ => z_nr_pI fun _ _ => z_nr_pA fun _ _ => z_nr_ck (z_nr_go (Nat.le_refl _))
  | bastore => exact z_nr_pI fun _ _ => z_nr_pI fun _ _ => z_nr_pA fun _ _ => z_nr_ck (z_nr_go (Nat.le_refl _))
  | lastore => exact z_nr_pJ fun _ _ => z_nr_pI fun _ _ => z_nr_pA fun _ _ => z_nr_ck (z_nr_go (Nat.le_refl _))
  | arraylength => exact z_nr_pA fun _ _ => z_nr_aln (Nat.le_refl _)
  | new n => exact z_nr_t0 fun _ => z_nr_ck (z_nr_go (Nat.le_succ _))
  | newarray n => exact z_nr_pI fun _ _ => z_nr_ck (z_nr_go (Nat.le_succ _))
  | multianewarray n k => exact z_nr_pI fun _ _ => z_nr_pI fun _ _ => z_nr_ck (z_nr_go (by omega))
  | iadd => exact z_nr_pI fun _ _ => z_nr_pI fun _ _ => (z_nr_go (Nat.le_refl _))
  | isub => exact z_nr_pI fun _ _ => z_nr_pI fun _ _ => (z_nr_go (Nat.le_refl _))
  | imul => exact z_nr_pI fun _ _ => z_nr_pI fun _ _ => (z_nr_go (Nat.le_refl _))
  | iand => exact z_nr_pI fun _ _ => z_nr_pI fun _ _ => (z_nr_go (Nat.le_refl _))
  | ior => exact z_nr_pI fun _ _ => z_nr_pI fun _ _ => (z_nr_go (Nat.le_refl _))
  | ixor => exact z_nr_pI fun _ _ => z_nr_pI fun _ _ => (z_nr_go (Nat.le_refl _))
  | ishl => exact z_nr_pI fun _ _ => z_nr_pI fun _ _ => (z_nr_go (Nat.le_refl _))
  | ishr => exact z_nr_pI fun _ _ => z_nr_pI fun _ _ => (z_nr_go (Nat.le_refl _))
  | iushr => exact z_nr_pI fun _ _ => z_nr_pI fun _ _ => (z_nr_go (Nat.le_refl _))
  | idiv => exact z_nr_pI fun _ _ => z_nr_pI fun _ _ => z_nr_ck (z_nr_go (Nat.le_refl _))
  | irem => exact z_nr_pI fun _ _ => z_nr_pI fun _ _ => z_nr_ck (z_nr_go (Nat.le_refl _))
  | ladd => exact z_nr_pJ fun _ _ => z_nr_pJ fun _ _ => (z_nr_go (Nat.le_refl _))
  | lsub => exact z_nr_pJ fun _ _ => z_nr_pJ fun _ _ => (z_nr_go (Nat.le_refl _))
  | lmul => exact z_nr_pJ fun _ _ => z_nr_pJ fun _ _ => (z_nr_go (Nat.le_refl _))
  | land => exact z_nr_pJ fun _ _ => z_nr_pJ fun _ _ => (z_nr_go (Nat.le_refl _))
  | lor => exact z_nr_pJ fun _ _ => z_nr_pJ fun _ _ => (z_nr_go (Nat.le_refl _))
  | lcmp => exact z_nr_pJ fun _ _ => z_nr_pJ fun _ _ => (z_nr_go (Nat.le_refl _))
  | ldiv => exact z_nr_pJ fun _ _ => z_nr_pJ fun _ _ => z_nr_ck (z_nr_go (Nat.le_refl _))
  | lrem => exact z_nr_pJ fun _ _ => z_nr_pJ fun _ _ => z_nr_ck (z_nr_go (Nat.le_refl _))
  | lshl => exact z_nr_pI fun _ _ => z_nr_pJ fun _ _ => (z_nr_go (Nat.le_refl _))
  | lshr => exact z_nr_pI fun _ _ => z_nr_pJ fun _ _ => (z_nr_go (Nat.le_refl _))
  | ineg => exact z_nr_pI fun _ _ => (z_nr_go (Nat.le_refl _))
  | i2l => exact z_nr_pI fun _ _ => (z_nr_go (Nat.le_refl _))
  | i2b => exact z_nr_pI fun _ _ => (z_nr_go (Nat.le_refl _))
  | i2s => exact z_nr_pI fun _ _ => (z_nr_go (Nat.le_refl _))
  | i2c => exact z_nr_pI fun _ _ => (z_nr_go (Nat.le_refl _))
  | lneg => exact z_nr_pJ fun _ _ => (z_nr_go (Nat.le_refl _))
  | l2i => exact z_nr_pJ fun _ _ => (z_nr_go (Nat.le_refl _))
  | ifCond a b => exact z_nr_t0 fun _ => z_nr_pI fun _ _ => z_nr_br (Nat.le_refl _)
  | if_icmp a b => exact z_nr_t0 fun _ => z_nr_pI fun _ _ => z_nr_pI fun _ _ => z_nr_br (Nat.le_refl _)
  | goto a => exact z_nr_t0 fun _ => (z_nr_go (Nat.le_refl _))
  | tableswitch a b k f => exact z_nr_pI fun _ _ => z_nr_if (z_nr_sw (Nat.le_refl _)) (z_nr_sw (Nat.le_refl _))
  | lookupswitch a b => exact z_nr_t0 fun _ => z_nr_pI fun _ _ => (z_nr_go (Nat.le_refl _))
  | dup => exact (show z_nr z (z_p1 st fun v st => z_go (pc + 1) ls (v :: v :: st) z σ) from z_nr_p1 fun _ _ => (z_nr_go (Nat.le_refl _)))
  | pop => exact (show z_nr z (z_p1 st fun v st => z_go (pc + 1) ls st z σ) from z_nr_p1 fun _ _ => (z_nr_go (Nat.le_refl _)))
  | dup_x1 => exact (show z_nr z (z_p1 st fun v st => z_p1 st fun w st => z_go (pc + 1) ls (v :: w :: v :: st) z σ) from z_nr_p1 fun _ _ => z_nr_p1 fun _ _ => (z_nr_go (Nat.le_refl _)))
  | dup2 => exact (show z_nr z (z_p1 st fun v st => z_p1 st fun w st => z_go (pc + 1) ls (v :: w :: v :: w :: st) z σ) from z_nr_p1 fun _ _ => z_nr_p1 fun _ _ => (z_nr_go (Nat.le_refl _)))
  | ireturn => cases hq
  | lreturn => cases hq
  | areturn => cases hq
  | return_ => cases hq
  | _ => exact z_nr_0
end NR2
-- RETURNS, AND THE CONTRACT OF EVERY CALL
section RET
variable {p : Program} {l : Launch} {e : Env} {R : Room} {s : State} {m : MethodId} {args : Array Value} {below : List Frame} {meth : Method} {c : Code} {Q : State → Prop} {x : zX} {E : zE} {M : zM} {d z0 : Nat} {res : zR}
variable {pc : Nat} {ls : zL} {st : List Value} {z : Nat} {σ : zS}
theorem z_rok_inv {v : Int32} (h : z_rok M v = true) : ∃ ty, M.2.2.2.1 = some ty ∧ narrow ty (.int v) = .int v := by
  unfold z_rok at h
  split at h
  · rename_i e1; exact ⟨_, e1, rfl⟩
  · rename_i e1; exact ⟨_, e1, (z_b01_n h).1⟩
  · rename_i e1; exact ⟨_, e1, of_decide_eq_true h⟩
  · rename_i e1; exact ⟨_, e1, of_decide_eq_true h⟩
  · cases h
/-- the four ends of a method -/
theorem z_end (cal : Nat → List Value → zG → Option zR) (hc : ∀ mid as r, cal mid as (z, σ) = some r → z ≤ r.2.1) (okM : z_okM M = true) (h : z_st cal E M pc ls st z σ = some (.inr res)) :
    (∃ v ty, st = [.int v] ∧ res = (some (.int v), z, σ) ∧ decode M.2.1 pc = .ok (.ireturn, 1) ∧ M.2.2.2.1 = some ty ∧ narrow ty (.int v) = .int v) ∨
    (∃ v, st = [.long v] ∧ res = (some (.long v), z, σ) ∧ decode M.2.1 pc = .ok (.lreturn, 1) ∧ M.2.2.2.1 = some .long) ∨
    (∃ v, st = [.ref v] ∧ res = (some (.ref v), z, σ) ∧ decode M.2.1 pc = .ok (.areturn, 1) ∧ M.2.2.2.1 = some (.array .int)) ∨
    (st = [] ∧ res = (none, z, σ) ∧ decode M.2.1 pc = .ok (.return_, 1) ∧ M.2.2.2.1 = none) := by
  unfold z_st at h
  split at h
  · rename_i q hq
    obtain ⟨ok, okl⟩ := z_at_ok (z_okM_C okM) hq
    clear hq
    obtain ⟨ins, len, ts, cv⟩ := q
    unfold z_okb at ok
    rw [Bool.and_eq_true] at ok
    obtain ⟨hd0, ok⟩ := ok
    have hd : decode M.2.1 pc = .ok (ins, len) := of_decide_eq_true hd0
    clear hd0
    cases ins with
    | ireturn =>
      have hl : len = 1 := Nat.eq_of_beq_eq_true okl
      subst hl
      obtain ⟨v, r, e1, h1⟩ := z_pI_inv h
      split at h1
      · obtain ⟨hk, h2⟩ := z_ck_inv h1
        obtain ⟨ty, t1, t2⟩ := z_rok_inv hk
        have e2 : (some (.int v), z, σ) = res := Sum.inr.inj (Option.some.inj h2)
        exact Or.inl ⟨v, ty, e1, e2.symm, hd, t1, t2⟩
      · cases h1
    | lreturn =>
      have hl : len = 1 := Nat.eq_of_beq_eq_true okl
      subst hl
      obtain ⟨v, r, e1, h1⟩ := z_pJ_inv h
      split at h1
      · have e2 : (some (.long v), z, σ) = res := Sum.inr.inj (Option.some.inj h1)
        exact Or.inr (Or.inl ⟨v, e1, e2.symm, hd, of_decide_eq_true ok⟩)
      · cases h1
    | areturn =>
      have hl : len = 1 := Nat.eq_of_beq_eq_true okl
      subst hl
      obtain ⟨v, r, e1, h1⟩ := z_pA_inv h
      split at h1
      · have e2 : (some (.ref v), z, σ) = res := Sum.inr.inj (Option.some.inj h1)
        exact Or.inr (Or.inr (Or.inl ⟨v, e1, e2.symm, hd, of_decide_eq_true ok⟩))
      · cases h1
    | return_ =>
      have hl : len = 1 := Nat.eq_of_beq_eq_true okl
      subst hl
      have h : (match st with | [] => some (.inr (none, z, σ)) | _ => (none : zY)) = some (.inr res) := h
      split at h
      · have e2 : (none, z, σ) = res := Sum.inr.inj (Option.some.inj h)
        exact Or.inr (Or.inr (Or.inr ⟨rfl, e2.symm, hd, of_decide_eq_true ok⟩))
      · cases h
    | _ => obtain ⟨_, _, _, _, _, q, -⟩ := z_nr_x1 (_, len, ts, cv) rfl hc _ h; cases q
  · cases h
end RET
theorem z_pad_get {v : Value} : ∀ (n : Nat) (l : zL) (j : Nat), z_gl (z_pad n l) j = some v → z_gl l j = some v
  | 0, l, j, h => by simp [z_pad, z_gl] at h
  | n + 1, [], 0, h => by simp [z_pad, z_gl] at h
  | n + 1, [], j + 1, h => by
    have := z_pad_get n [] j h
    simp [z_gl] at this
  | n + 1, w :: t, 0, h => h
  | n + 1, w :: t, j + 1, h => z_pad_get n t j h
theorem z_isJ_cat (v : Value) : z_isJ (some v) = true ↔ v.category = 2 := by cases v <;> simp [z_isJ, Value.category]
theorem z_argl_len {x : zX} (hf : x.2.2.2.2.category = 1) : ∀ as : List Value, (lg_sl (as.map (z_tr x))).length = (z_argl as).length
  | [] => rfl
  | v :: t => by
    have ih := z_argl_len hf t
    have e1 : lg_sl ((v :: t).map (z_tr x)) = (if (z_tr x v).category = 2 then [.val (z_tr x v), .second] else [.val (z_tr x v)]) ++ lg_sl (t.map (z_tr x)) := by simp [lg_sl]
    rw [e1, z_tr_cat hf]
    unfold z_argl
    cases hj : z_isJ (some v) with
    | true => rw [if_pos ((z_isJ_cat v).mp hj)]; simp [ih]
    | false => rw [if_neg (fun q => by rw [(z_isJ_cat v).mpr q] at hj; cases hj)]; simp [ih]
theorem z_argl_get {x : zX} (hf : x.2.2.2.2.category = 1) : ∀ (as : List Value) (i j : Nat) (v : Value), z_gl (z_argl as) j = some v → (i + j, z_tr x v) ∈ lv_args i (as.map (z_tr x))
  | [], i, j, v, h => by simp [z_argl, z_gl] at h
  | w :: t, i, j, v, h => by
    rw [List.map_cons]
    unfold lv_args
    unfold z_argl at h
    cases hj : z_isJ (some w) with
    | true =>
      rw [hj, cond_true] at h
      rw [if_pos (by rw [z_tr_cat hf]; exact (z_isJ_cat w).mp hj)]
      match j, h with
      | 0, h => cases h; exact List.mem_cons_self
      | 1, h => cases h
      | j + 2, h =>
        refine List.mem_cons_of_mem _ ?_
        have := z_argl_get hf t (i + 2) j v h
        rwa [show i + 2 + j = i + (j + 2) by omega] at this
    | false =>
      rw [hj, cond_false] at h
      rw [if_neg (by rw [z_tr_cat hf]; exact fun q => by rw [(z_isJ_cat w).mpr q] at hj; cases hj)]
      match j, h with
      | 0, h => cases h; exact List.mem_cons_self
      | j + 1, h =>
        refine List.mem_cons_of_mem _ ?_
        have := z_argl_get hf t (i + 1) j v h
        rwa [show i + 1 + j = i + (j + 1) by omega] at this
section MAIN
variable {p : Program} {l : Launch} {e : Env} {R : Room} {s : State} {m : MethodId} {args : Array Value} {below : List Frame} {meth : Method} {c : Code} {Q : State → Prop} {x : zX} {E : zE} {M : zM} {d z0 : Nat} {res : zR}
/-- a run of the pure machine is one of the machine -/
theorem z_sim (X : z_Fx p R s m args meth c x E M d z0 res) (HC : z_Ct l x E d) (okM : z_okM M = true) (HR : ∀ (pc : Nat) (ls : zL) (st : List Value) (z : Nat) (σ : zS), z_st (z_cl E d) E M pc ls st z σ = some (.inr res) → z ≤ res.2.1 ∧ z_W p l e R s m args below meth c Q x M z0 pc ls st z σ) :
    ∀ (n pc : Nat) (ls : zL) (st : List Value) (z : Nat) (σ : zS), z_run (z_cl E d) E M n pc ls st z σ = some res → z ≤ res.2.1 ∧ z_W p l e R s m args below meth c Q x M z0 pc ls st z σ := by
  intro n
  induction n with
  | zero => intro _ _ _ _ _ h; cases h
  | succ n ih =>
    intro pc ls st z σ h
    unfold z_run at h
    split at h
    · rename_i pc' ls' st' z' σ' h1
      obtain ⟨h2, h3⟩ := ih _ _ _ _ _ h
      obtain ⟨h4, h5⟩ := z_step X HC okM h1 h2 h3
      exact ⟨Nat.le_trans h4 h2, h5⟩
    · rename_i r h1
      have e1 : r = res := Option.some.inj h
      rw [e1] at h1
      exact HR _ _ _ _ _ h1
    · cases h
/-- the end of a method, by its contract -/
theorem z_endW (X : z_Fx p R s m args meth c x E M d z0 res) (okM : z_okM M = true) (hr : meth.sig.returnType = M.2.2.2.1) (hlocks : meth.locks = false) {cal : Nat → List Value → zG → Option zR} {pc : Nat} {ls : zL} {st : List Value} {z : Nat} {σ : zS} (hc : ∀ mid as r, cal mid as (z, σ) = some r → z ≤ r.2.1) (h : z_st cal E M pc ls st z σ = some (.inr res)) :
    z ≤ res.2.1 ∧ z_W p l e R s m args below meth c (MQ below (z_Q x res) args s (res.2.1 - z0) (z_SL res.2.1 - z_SL z0) (z_B x)) x M z0 pc ls st z σ := by
  obtain ⟨hx, hb, hml, hown, hts, hF, -⟩ := X
  rcases z_end cal hc okM h with ⟨v, ty, rfl, rfl, hd, ht, hn⟩ | ⟨v, rfl, rfl, hd, ht⟩ | ⟨v, rfl, rfl, hd, ht⟩ | ⟨rfl, rfl, hd, ht⟩
  · refine ⟨Nat.le_refl _, fun H locs cells slots rls hP hS hc hs hl => ?_⟩
    have c1 : z - z0 = cells := by omega
    have c2 : z_SL z - z_SL z0 = slots := by omega
    dsimp only
    rw [c1, c2]
    exact W.zret hx hb (hr.trans ht) hn (fun t ht hw => ⟨rfl, by rw [ht]; exact hP, hS.F ht⟩) hS.2.2 hd hlocks
  · refine ⟨Nat.le_refl _, fun H locs cells slots rls hP hS hc hs hl => ?_⟩
    have c1 : z - z0 = cells := by omega
    have c2 : z_SL z - z_SL z0 = slots := by omega
    dsimp only
    rw [c1, c2]
    exact W.lret hx hb (hr.trans ht) (fun t ht hw => ⟨rfl, by rw [ht]; exact hP, hS.F ht⟩) hS.2.2 hd hlocks
  · refine ⟨Nat.le_refl _, fun H locs cells slots rls hP hS hc hs hl => ?_⟩
    have c1 : z - z0 = cells := by omega
    have c2 : z_SL z - z_SL z0 = slots := by omega
    dsimp only
    rw [c1, c2]
    exact W.aret hx hb (hr.trans ht) (Or.inr ⟨_, rfl⟩) ((z_trA hF v).symm) (fun t ht hw => ⟨rfl, by rw [ht]; exact hP, hS.F ht⟩) hS.2.2 hd hlocks
  · refine ⟨Nat.le_refl _, fun H locs cells slots rls hP hS hc hs hl => ?_⟩
    have c1 : z - z0 = cells := by omega
    have c2 : z_SL z - z_SL z0 = slots := by omega
    dsimp only
    rw [c1, c2]
    exact W.vret hx hb (hr.trans ht) (fun t ht hw => ⟨rfl, by rw [ht]; exact hP, hS.F ht⟩) hS.2.2 hd hlocks
end MAIN
/-- cells are never unmade -/
theorem z_run_le {E : zE} {M : zM} {cal : Nat → List Value → zG → Option zR} (hc : ∀ mid as z σ r, cal mid as (z, σ) = some r → z ≤ r.2.1) (okM : z_okM M = true) : ∀ (n pc : Nat) (ls : zL) (st : List Value) (z : Nat) (σ : zS) (r : zR), z_run cal E M n pc ls st z σ = some r → z ≤ r.2.1 := by
  intro n
  induction n with
  | zero => intro _ _ _ _ _ r h; cases h
  | succ n ih =>
    intro pc ls st z σ r h
    unfold z_run at h
    split at h
    · rename_i pc' ls' st' z' σ' h1
      have h2 := ih _ _ _ _ _ _ h
      unfold z_st at h1
      split at h1
      · rename_i q hq
        cases hr : z_isRet q.1 with
        | false =>
          obtain ⟨a1, a2, a3, a4, a5, e1, hle⟩ := z_nr_x1 q hr (fun mid as r => hc mid as z σ r) _ h1
          simp only [Sum.inl.injEq, Prod.mk.injEq] at e1
          rw [← e1.2.2.2.1] at hle
          exact Nat.le_trans hle h2
        | true =>
          have h1' : z_st cal E M pc ls st z σ = some (.inl (pc', ls', st', z', σ')) := by unfold z_st; rw [hq]; exact h1
          exfalso
          obtain ⟨ins, len, ts, cv⟩ := q
          cases ins with
          | ireturn =>
            obtain ⟨v, r, e1, h1⟩ := z_pI_inv h1
            split at h1
            · obtain ⟨-, h2⟩ := z_ck_inv h1
              cases h2
            · cases h1
          | lreturn =>
            obtain ⟨v, r, e1, h1⟩ := z_pJ_inv h1
            split at h1 <;> cases h1
          | areturn =>
            obtain ⟨v, r, e1, h1⟩ := z_pA_inv h1
            split at h1 <;> cases h1
          | return_ =>
            have h1 : (match st with | [] => some (.inr (none, z, σ)) | _ => (none : zY)) = some (.inl (pc', ls', st', z', σ')) := h1
            split at h1 <;> cases h1
          | _ => cases hr
      · cases h1
    · rename_i r' h1
      have e1 : r' = r := Option.some.inj h
      subst e1
      rcases z_end cal (fun mid as r => hc mid as z σ r) okM h1 with ⟨v, ty, rfl, rfl, -⟩ | ⟨v, rfl, rfl, -⟩ | ⟨v, rfl, rfl, -⟩ | ⟨rfl, rfl, -⟩ <;> exact Nat.le_refl _
    · cases h
theorem z_okM_pl {M : zM} (h : z_okM M = true) : plainName M.1.cls = true := by
  unfold z_okM at h
  simp only [Bool.and_eq_true] at h
  exact h.2
theorem z_met (l : Launch) (x : zX) (E : zE) (okA : ∀ (mid : Nat) (M : zM), z_mt mid = some M → z_okM M = true) : ∀ d, z_Ct l x E d := by
  intro d
  induction d with
  | zero => intro mid as g r M hM h; cases h
  | succ d ih =>
    intro mid as g r M hM h
    have okM := okA mid M hM
    unfold z_cl at h
    rw [hM] at h
    dsimp only at h
    cases hlen : Nat.ble (z_argl as).length M.2.2.1 with
    | false => rw [hlen] at h; cases h
    | true =>
      rw [hlen, cond_true] at h
      obtain ⟨n, h⟩ := z_lim_inv h
      have hlen := Nat.ble_eq.mp hlen
      obtain ⟨z, σ⟩ := g
      have hcal : ∀ mid as z σ r, z_cl E d mid as (z, σ) = some r → z ≤ r.2.1 := fun mid as z σ r hq => by
        cases hN : z_mt mid with
        | some N => exact (ih mid as (z, σ) r N hN hq).1
        | none =>
          cases d with
          | zero => cases hq
          | succ d => unfold z_cl at hq; rw [hN] at hq; cases hq
      have main : ∀ {p : Program} {e : Env} {s : State} {m : MethodId} {args : Array Value} {below : List Frame} {meth : Method} {c : Code}, z_Fx p (z_rm (d + 1) z r) s m args meth c x E M d z r → meth.sig.returnType = M.2.2.2.1 → meth.locks = false → z ≤ r.2.1 ∧ z_W p l e (z_rm (d + 1) z r) s m args below meth c (MQ below (z_Q x r) args s (r.2.1 - z) (z_SL r.2.1 - z_SL z) (z_B x)) x M z 0 (z_pad M.2.2.1 (z_argl as)) [] z σ := fun X hr hk => z_sim X ih okM (fun pc ls st z1 σ1 h1 => z_endW X okM hr hk (fun mid as r => hcal mid as z1 σ1 r) h1) n 0 _ _ _ _ h
      refine ⟨z_run_le hcal okM n 0 _ _ _ _ _ h, ?_⟩
      refine Met.ofW (cc := M.2.1) (maxL := M.2.2.1) (ret := M.2.2.2.1) (z_okM_pl okM) rfl ?_
      intro p e s m args below meth c s₁ B hml hv
      obtain ⟨rfl, hsz, hP, hF⟩ := hv
      have hts := atoms_spec (ws := z_ws M) B.pre
      have hf1 := z_f1 hF.2.2.2.2.2.2.2.2.2.2.2
      have X : z_Fx p (z_rm (d + 1) z r) s m (as.map (z_tr x)).toArray meth c x E M d z r := ⟨B.exec, B.bytes, hml, findClass_of_methodNamed B.named, fun w hw => hts w (List.mem_cons_of_mem _ hw), hF, hsz, Nat.le_refl _, Nat.le_refl _, Nat.le_refl _, Nat.le_refl _, fun hi => (name_of_methodNamed B.named B.method).1.trans (z_okM_ini okM hi).2⟩
      obtain ⟨-, hW⟩ := main (e := e) (below := below) X B.returns B.notSynchronized
      rw [lg_entry_eq]
      refine hW s.heap [] 0 0 _ hP va_S.rf (by omega) (by omega) ?_
      refine z_lp_sub (lv_entry (as.map (z_tr x)) (n := M.2.2.1) (by rw [z_argl_len hf1]; exact hlen)) fun q hq => ?_
      obtain ⟨j, v, h1, rfl⟩ := (z_lp_mem _ 0 q).mp hq
      exact z_argl_get hf1 as 0 j v (z_pad_get _ _ _ h1)
