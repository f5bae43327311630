-- THE STEP, all instructions together
theorem z_look_mem {α : Type} {k : Nat} {v : α} : ∀ {l : List (Nat × α)}, z_look k l = some v → (k, v) ∈ l
  | [], h => by cases h
  | (a, w) :: t, h => by
    unfold z_look at h
    cases hb : Nat.beq a k with
    | true =>
      rw [hb, cond_true] at h
      rw [Nat.eq_of_beq_eq_true hb, Option.some.inj h]
      exact List.mem_cons_self
    | false =>
      rw [hb, cond_false] at h
      exact List.mem_cons_of_mem _ (z_look_mem h)
theorem z_at_ok {M : zM} {pc : Nat} {q : zI} (hC : z_okC M = true) (h : z_at M pc = some q) : z_okb M pc q = true ∧ z_okl q = true := by
  unfold z_at at h
  split at h
  · rename_i c hc
    have h1 := z_look_mem hc
    have h2 := z_look_mem h
    unfold z_okC at hC
    have h3 := List.all_eq_true.mp hC _ h1
    have h4 := List.all_eq_true.mp h3 _ h2
    simp only [Bool.and_eq_true] at h4
    exact h4
  · cases h
/-- what is asked of a method's table -/
def z_okM (M : zM) : Bool := z_okC M && (!(M.2.2.2.2.1) || (decide (M.1.cls = z_cn M.2.2.2.2.2.1) && decide (M.1.name = "<init>"))) && plainName M.1.cls
theorem z_okM_ini {M : zM} (h : z_okM M = true) : M.2.2.2.2.1 = true → M.1.cls = z_cn M.2.2.2.2.2.1 ∧ M.1.name = "<init>" := by
  intro hi
  unfold z_okM at h
  rw [hi] at h
  simp only [Bool.not_true, Bool.false_or, Bool.and_eq_true, decide_eq_true_eq] at h
  exact h.1.2
theorem z_okM_C {M : zM} (h : z_okM M = true) : z_okC M = true := by
  unfold z_okM at h
  simp only [Bool.and_eq_true] at h
  exact h.1.1
theorem z_oks_at {pc : Nat} : ∀ {os : List Int} {ts : List Nat}, z_oks pc os ts = true → ∀ (i : Nat) (t : Nat), ts[i]? = some t → ∃ o, os[i]? = some o ∧ (pc : Int) + o = (t : Int)
  | [], [], _, i, t, h => by simp at h
  | o :: os, u :: ts, hk, i, t, h => by
    unfold z_oks at hk
    simp only [Bool.and_eq_true, decide_eq_true_eq] at hk
    cases i with
    | zero => cases h; exact ⟨o, rfl, hk.1⟩
    | succ i => exact z_oks_at hk.2 i t h
  | [], _ :: _, hk, _, _, _ => by cases hk
  | _ :: _, [], hk, _, _, _ => by cases hk
theorem z_psw_ok {pc : Nat} {x d : Int} {td : Nat} (hd : (pc : Int) + d = (td : Int)) : ∀ {ps : List (Int × Int)} {ts : List Nat}, z_oks pc (ps.map (fun p => p.2)) ts = true → (pc : Int) + Op.lookupswitch.offset ps d x = (z_psw ps ts td x : Nat)
  | [], [], _ => hd
  | (k, o) :: ps, t :: ts, hk => by
    rw [List.map_cons] at hk
    unfold z_oks at hk
    simp only [Bool.and_eq_true, decide_eq_true_eq] at hk
    have ih := z_psw_ok (x := x) hd hk.2
    unfold z_psw
    by_cases q : k = x
    · rw [if_pos q]
      simp [Op.lookupswitch.offset, q, hk.1]
    · rw [if_neg q]
      simpa [Op.lookupswitch.offset, q] using ih
  | [], _ :: _, hk => by cases hk
  | _ :: _, [], hk => by cases hk
section SIMH
variable {p : Program} {l : Launch} {e : Env} {R : Room} {s : State} {m : MethodId} {args : Array Value} {below : List Frame} {meth : Method} {c : Code} {Q : State → Prop} {x : zX} {E : zE} {M : zM} {d z0 : Nat} {res : zR}
variable {pc : Nat} {ls : zL} {st : List Value} {z : Nat} {σ : zS} {pc' : Nat} {ls' : zL} {st' : List Value} {z' : Nat} {σ' : zS} {ts : List Nat} {idx : Nat}
theorem z_go_eq {pc1 : Nat} {ls1 : zL} {st1 : List Value} {z1 : Nat} {σ1 : zS} (h : z_go pc1 ls1 st1 z1 σ1 = some (.inl (pc', ls', st', z', σ'))) : pc1 = pc' ∧ ls1 = ls' ∧ st1 = st' ∧ z1 = z' ∧ σ1 = σ' := by
  have h := z_go_inv h
  simp only [Sum.inl.injEq, Prod.mk.injEq] at h
  exact ⟨h.1.symm, h.2.1.symm, h.2.2.1.symm, h.2.2.2.1.symm, h.2.2.2.2.symm⟩
theorem z_call_eq {o : Option zR} {pc1 : Nat} {rest : List Value} (h : z_ret o pc1 ls rest = some (.inl (pc', ls', st', z', σ'))) : ∃ r : zR, o = some r ∧ pc1 = pc' ∧ ls = ls' ∧ r.1.toList ++ rest = st' ∧ r.2.1 = z' ∧ r.2.2 = σ' := by
  obtain ⟨r, h1, h2⟩ := z_ret_inv h
  exact ⟨r, h1, z_go_eq h2⟩
theorem z_inv {virt : Nat} (X : z_Fx p R s m args meth c x E M d z0 res) (HC : z_Ct l x E d) (hd0 : virt = 0 → decode M.2.1 pc = .ok (.invokevirtual idx, 3)) (hd1 : virt = 1 → decode M.2.1 pc = .ok (.invokestatic idx, 3)) (hd2 : virt = 2 → decode M.2.1 pc = .ok (.invokespecial idx, 3)) (ok : z_okI M.1.cls idx ts virt = true)
    (h : z_invk (z_cl E d) E ts pc ls st z σ = some (.inl (pc', ls', st', z', σ'))) (hz : z' ≤ res.2.1) (K : z_W p l e R s m args below meth c Q x M z0 pc' ls' st' z' σ') : z ≤ z' ∧ z_W p l e R s m args below meth c Q x M z0 pc ls st z σ := by
  unfold z_invk at h
  split at h
  · rename_i mid n ci
    have ok : z_okI0 M.1.cls idx mid n ci virt = true := ok
    unfold z_okI0 at ok
    cases hN : z_mt mid with
    | none => rw [hN] at ok; cases ok
    | some N =>
      rw [hN] at ok
      simp only [Bool.and_eq_true] at ok
      obtain ⟨⟨⟨⟨⟨⟨ov, o1⟩, o2⟩, o3⟩, o4⟩, o5⟩, o6⟩ := ok
      obtain ⟨bs, r1, e1, e2, h1⟩ := z_pops_inv _ _ _ _ h
      obtain ⟨a, r2, e3, h2⟩ := z_pA_inv h1
      obtain ⟨hck, h3⟩ := z_ck_inv h2
      obtain ⟨r, hr, f1, f2, f3, f4, f5⟩ := z_call_eq h3
      rw [List.append_nil] at hr
      clear h h1 h2 h3
      subst e2 e3 f1 f2 f3 f4 f5
      exact z_iv0 X HC (hd0 (Nat.eq_of_beq_eq_true ov)) hN (ci := ci) (by simp only [Bool.and_eq_true]; exact ⟨⟨⟨⟨⟨o1, o2⟩, o3⟩, o4⟩, o5⟩, o6⟩) e1 hck hr hz K
  · rename_i mid n
    have ok : z_okI1 M.1.cls idx mid n virt = true := ok
    unfold z_okI1 at ok
    cases hN : z_mt mid with
    | none => rw [hN] at ok; cases ok
    | some N =>
      rw [hN] at ok
      simp only [Bool.and_eq_true] at ok
      obtain ⟨⟨⟨ov, o1⟩, o2⟩, o3⟩ := ok
      obtain ⟨bs, r1, e1, e2, h1⟩ := z_pops_inv _ _ _ _ h
      obtain ⟨hck, h3⟩ := z_ck_inv h1
      obtain ⟨r, hr, f1, f2, f3, f4, f5⟩ := z_call_eq h3
      rw [List.append_nil] at hr
      clear h h1 h3
      subst e2 f1 f2 f3 f4 f5
      exact z_iv1 X HC (hd1 (Nat.eq_of_beq_eq_true ov)) hN (by simp only [Bool.and_eq_true]; exact ⟨⟨o1, o2⟩, o3⟩) e1 hck hr hz K
  · rename_i mid n
    have ok : z_okI2 M.1.cls idx mid n virt = true := ok
    unfold z_okI2 at ok
    cases hN : z_mt mid with
    | none => rw [hN] at ok; cases ok
    | some N =>
      rw [hN] at ok
      simp only [Bool.and_eq_true] at ok
      obtain ⟨⟨⟨⟨⟨ov, o1⟩, o2⟩, o3⟩, o4⟩, o5⟩ := ok
      obtain ⟨bs, r1, e1, e2, h1⟩ := z_pops_inv _ _ _ _ h
      obtain ⟨a, r2, e3, h2⟩ := z_pA_inv h1
      obtain ⟨hck, h3⟩ := z_ck_inv h2
      obtain ⟨r, hr, f1, f2, f3, f4, f5⟩ := z_call_eq h3
      rw [List.append_nil] at hr
      clear h h1 h2 h3
      subst e2 e3 f1 f2 f3 f4 f5
      exact z_iv2 X HC (hd2 (Nat.eq_of_beq_eq_true ov)) hN (by simp only [Bool.and_eq_true]; exact ⟨⟨⟨⟨o1, o2⟩, o3⟩, o4⟩, o5⟩) e1 hck hr hz K
  · rename_i mid n
    have ok : z_okI3 M.1.cls idx mid n virt = true := ok
    unfold z_okI3 at ok
    cases hN : z_mt mid with
    | none => rw [hN] at ok; cases ok
    | some N =>
      rw [hN] at ok
      simp only [Bool.and_eq_true] at ok
      obtain ⟨⟨⟨ov, o1⟩, o2⟩, o3⟩ := ok
      obtain ⟨bs, r1, e1, e2, h1⟩ := z_pops_inv _ _ _ _ h
      obtain ⟨hck, h3⟩ := z_ck_inv h1
      obtain ⟨r, hr, f1, f2, f3, f4, f5⟩ := z_call_eq h3
      rw [List.append_nil] at hr
      clear h h1 h3
      subst e2 f1 f2 f3 f4 f5
      exact z_iv3 X HC (hd1 (Nat.eq_of_beq_eq_true ov)) hN (by simp only [Bool.and_eq_true]; exact ⟨⟨o1, o2⟩, o3⟩) e1 hck hr hz K
  · rename_i mid n
    have ok : z_okI4 M.1.cls idx mid n virt = true := ok
    unfold z_okI4 at ok
    cases hN : z_mt mid with
    | none => rw [hN] at ok; cases ok
    | some N =>
      rw [hN] at ok
      simp only [Bool.and_eq_true] at ok
      obtain ⟨⟨⟨⟨⟨ov, o1⟩, o2⟩, o3⟩, o4⟩, o5⟩ := ok
      obtain ⟨bs, r1, e1, e2, h1⟩ := z_pops_inv _ _ _ _ h
      obtain ⟨a, r2, e3, h2⟩ := z_pA_inv h1
      obtain ⟨hck, h3⟩ := z_ck_inv h2
      obtain ⟨r, hr, f1, f2, f3, f4, f5⟩ := z_call_eq h3
      rw [List.append_nil] at hr
      clear h h1 h2 h3
      subst e2 e3 f1 f2 f3 f4 f5
      exact z_iv4 X HC (hd2 (Nat.eq_of_beq_eq_true ov)) hN (by simp only [Bool.and_eq_true]; exact ⟨⟨⟨⟨o1, o2⟩, o3⟩, o4⟩, o5⟩) e1 hck hr hz K
  · have ok : z_okI5 M.1.cls idx virt = true := ok
    unfold z_okI5 at ok
    simp only [Bool.and_eq_true] at ok
    obtain ⟨⟨⟨⟨ov, o1⟩, o2⟩, o3⟩, o4⟩ := ok
    exact z_cp X (hd1 (Nat.eq_of_beq_eq_true ov)) (by simp only [Bool.and_eq_true]; exact ⟨⟨⟨o1, o2⟩, o3⟩, o4⟩) h K
  · have ok : z_okI6 M.1.cls idx virt = true := ok
    unfold z_okI6 at ok
    simp only [Bool.and_eq_true] at ok
    obtain ⟨⟨⟨ov, o1⟩, o2⟩, o3⟩ := ok
    obtain ⟨a, r2, e3, h2⟩ := z_pA_inv h
    obtain ⟨hck, h3⟩ := z_ck_inv h2
    obtain ⟨f1, f2, f3, f4, f5⟩ := z_go_eq h3
    clear h h2 h3
    subst e3 f1 f2 f3 f4 f5
    exact z_iv6 X (hd2 (Nat.eq_of_beq_eq_true ov)) (by simp only [Bool.and_eq_true]; exact ⟨⟨o1, o2⟩, o3⟩) hck K
  · have ok : z_okI7 M.1.cls idx virt = true := ok
    unfold z_okI7 at ok
    simp only [Bool.and_eq_true] at ok
    obtain ⟨⟨⟨⟨ov, o1⟩, o2⟩, o3⟩, o4⟩ := ok
    obtain ⟨w, r1, e1, h1⟩ := z_pI_inv h
    obtain ⟨v, r2, e2, h2⟩ := z_pI_inv h1
    obtain ⟨hck, h3⟩ := z_ck_inv h2
    obtain ⟨f1, f2, f3, f4, f5⟩ := z_go_eq h3
    clear h h1 h2 h3
    subst e1 e2 f1 f2 f3 f4 f5
    exact z_iv7 X (hd1 (Nat.eq_of_beq_eq_true ov)) (by simp only [Bool.and_eq_true]; exact ⟨⟨⟨o1, o2⟩, o3⟩, o4⟩) hck hz K
  · have ok : z_okI8 M.1.cls idx virt = true := ok
    unfold z_okI8 at ok
    simp only [Bool.and_eq_true] at ok
    obtain ⟨⟨⟨⟨ov, o1⟩, o2⟩, o3⟩, o4⟩ := ok
    obtain ⟨w, r1, e1, h1⟩ := z_pI_inv h
    obtain ⟨v, r2, e2, h2⟩ := z_pI_inv h1
    obtain ⟨hck, h3⟩ := z_ck_inv h2
    obtain ⟨f1, f2, f3, f4, f5⟩ := z_go_eq h3
    clear h h1 h2 h3
    subst e1 e2 f1 f2 f3 f4 f5
    exact z_iv8 X (hd1 (Nat.eq_of_beq_eq_true ov)) (by simp only [Bool.and_eq_true]; exact ⟨⟨⟨o1, o2⟩, o3⟩, o4⟩) hck hz K
  · have ok : z_okI9 M.1.cls idx virt = true := ok
    unfold z_okI9 at ok
    simp only [Bool.and_eq_true] at ok
    obtain ⟨⟨⟨⟨ov, o1⟩, o2⟩, o3⟩, o4⟩ := ok
    obtain ⟨w, r1, e1, h1⟩ := z_pJ_inv h
    obtain ⟨v, r2, e2, h2⟩ := z_pJ_inv h1
    obtain ⟨hck, h3⟩ := z_ck_inv h2
    obtain ⟨f1, f2, f3, f4, f5⟩ := z_go_eq h3
    clear h h1 h2 h3
    subst e1 e2 f1 f2 f3 f4 f5
    exact z_iv9 X (hd1 (Nat.eq_of_beq_eq_true ov)) (by simp only [Bool.and_eq_true]; exact ⟨⟨⟨o1, o2⟩, o3⟩, o4⟩) hck hz K
  · have ok : z_okI10 M.1.cls idx virt = true := ok
    unfold z_okI10 at ok
    simp only [Bool.and_eq_true] at ok
    obtain ⟨⟨⟨⟨ov, o1⟩, o2⟩, o3⟩, o4⟩ := ok
    obtain ⟨v, r2, e2, h2⟩ := z_pJ_inv h
    obtain ⟨hck, h3⟩ := z_ck_inv h2
    obtain ⟨f1, f2, f3, f4, f5⟩ := z_go_eq h3
    clear h h2 h3
    subst e2 f1 f2 f3 f4 f5
    exact z_iv10 X (hd1 (Nat.eq_of_beq_eq_true ov)) (by simp only [Bool.and_eq_true]; exact ⟨⟨⟨o1, o2⟩, o3⟩, o4⟩) hck hz K
  · cases h
end SIMH
section SIMI
variable {p : Program} {l : Launch} {e : Env} {R : Room} {s : State} {m : MethodId} {args : Array Value} {below : List Frame} {meth : Method} {c : Code} {Q : State → Prop} {x : zX} {E : zE} {M : zM} {d z0 : Nat} {res : zR}
variable {pc : Nat} {ls : zL} {st : List Value} {z : Nat} {σ : zS} {pc' : Nat} {ls' : zL} {st' : List Value} {z' : Nat} {σ' : zS} {ts : List Nat} {idx : Nat}
theorem z_okt_inv {off : Int} {t : Nat} {r : List Nat} (h : z_okt pc off (t :: r) = true) : (pc : Int) + off = (t : Int) := of_decide_eq_true h
/-- loads and stores of locals -/
theorem z_stl1 (X : z_Fx p R s m args meth c x E M d z0 res) {i : Nat} {v : Value} {n : Nat} (hv : v.category = 1) (hi : i < M.2.2.1)
    (hd : ∀ {H : Heap} {locs : List Loc} {cells slots : Nat} {rls : Array Slot} {rest : List Value}, lv_has rls M.2.2.1 (z_lp x 0 ls) → (∀ ls' : Array Slot, lv_has ls' M.2.2.1 ((i, z_tr x v) :: (z_lp x 0 ls).filter (fun q => !(q.1 == i) && !(q.1 + 1 == i && q.2.category == 2))) → W p l e R s m args below meth c H locs cells slots Q (F0 m n ls' rest)) → W p l e R s m args below meth c H locs cells slots Q (F0 m pc rls (st'.map (z_tr x) ++ rest)))
    (K : z_W p l e R s m args below meth c Q x M z0 n (z_s1 ls i v) st z σ) : z ≤ z ∧ z_W p l e R s m args below meth c Q x M z0 pc ls (st' ++ st) z σ := by
  refine ⟨Nat.le_refl _, fun H locs cells slots rls hP hS hc hs hl => ?_⟩
  rw [List.map_append]
  exact hd hl fun ls' h' => K H locs cells slots ls' hP hS hc hs (z_st1 (z_f1 X.2.2.2.2.2.1.2.2.2.2.2.2.2.2.2.2.2) hv h')
theorem z_stl2 (X : z_Fx p R s m args meth c x E M d z0 res) {i : Nat} {v : Value} {n : Nat} (hi : i + 1 < M.2.2.1)
    (hd : ∀ {H : Heap} {locs : List Loc} {cells slots : Nat} {rls : Array Slot} {rest : List Value}, lv_has rls M.2.2.1 (z_lp x 0 ls) → (∀ ls' : Array Slot, lv_has ls' M.2.2.1 ((i, z_tr x v) :: (z_lp x 0 ls).filter (fun q => !(q.1 == i) && (!(q.1 == i + 1) && !(q.1 + 1 == i && q.2.category == 2)))) → W p l e R s m args below meth c H locs cells slots Q (F0 m n ls' rest)) → W p l e R s m args below meth c H locs cells slots Q (F0 m pc rls (z_tr x v :: rest)))
    (K : z_W p l e R s m args below meth c Q x M z0 n (z_s2 ls i v) st z σ) : z ≤ z ∧ z_W p l e R s m args below meth c Q x M z0 pc ls (v :: st) z σ := by
  refine ⟨Nat.le_refl _, fun H locs cells slots rls hP hS hc hs hl => ?_⟩
  rw [List.map_cons]
  exact hd hl fun ls' h' => K H locs cells slots ls' hP hS hc hs (z_st2 (z_f1 X.2.2.2.2.2.1.2.2.2.2.2.2.2.2.2.2.2) h')
theorem z_lp_find {x : zX} {ls : zL} {i : Nat} {v : Value} (h : z_gl ls i = some v) : ∃ k : Nat, (z_lp x 0 ls)[k]? = some (i, z_tr x v) := by
  have := (z_lp_mem ls 0 (i, z_tr x v)).mpr ⟨i, v, h, by rw [Nat.zero_add]⟩
  exact List.getElem?_of_mem this
end SIMI
