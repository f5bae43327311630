theorem z_trA {x : zX} {E : zE} {s : State} (hF : z_F x E s) (v : Nat) : (∃ b, z_tr x (.ref v) = .ref b) ∨ z_tr x (.ref v) = .null := by
  show (∃ b, (if v < 1000 then Value.ref (x.1 + v) else if v = 1007 then x.2.2.2.2 else Value.ref (x.2.2.2.1 v)) = .ref b) ∨ (if v < 1000 then Value.ref (x.1 + v) else if v = 1007 then x.2.2.2.2 else Value.ref (x.2.2.2.1 v)) = .null
  by_cases h : v < 1000
  · exact Or.inl ⟨_, if_pos h⟩
  · rw [if_neg h]
    by_cases h2 : v = 1007
    · rw [if_pos h2]
      exact (hF.2.2.2.2.2.2.2.2.2.2.2).symm
    · rw [if_neg h2]
      exact Or.inl ⟨_, rfl⟩
theorem z_c1 {x : zX} {E : zE} {s : State} (hF : z_F x E s) {v : Value} (h : (∃ a, v = .int a) ∨ ∃ a, v = .ref a) : (z_tr x v).category = 1 := by
  rw [z_tr_cat (z_f1 hF.2.2.2.2.2.2.2.2.2.2.2)]
  rcases h with ⟨a, rfl⟩ | ⟨a, rfl⟩ <;> rfl
theorem z_new_ok {ci : Nat} {a : Nat} {r : List Nat} {b : Bool} {own : String} {idx z : Nat} (hck : (Nat.beq (z_SH z).1 (ci + 4) && Nat.beq (z_SH z).2 (z_nf ci) && Nat.blt ci 12 && Nat.blt z 1000) = true) : True := trivial

-- THE STEP: every instruction of the tables
section SIMJ
variable {p : Program} {l : Launch} {e : Env} {R : Room} {s : State} {m : MethodId} {args : Array Value} {below : List Frame} {meth : Method} {c : Code} {Q : State → Prop} {x : zX} {E : zE} {M : zM} {d z0 : Nat} {res : zR}
variable {pc : Nat} {ls : zL} {st : List Value} {z : Nat} {σ : zS} {pc' : Nat} {ls' : zL} {st' : List Value} {z' : Nat} {σ' : zS}
set_option maxHeartbeats 4000000 in
theorem z_step (X : z_Fx p R s m args meth c x E M d z0 res) (HC : z_Ct l x E d) (okM : z_okM M = true) (h : z_st (z_cl E d) E M pc ls st z σ = some (.inl (pc', ls', st', z', σ'))) (hz : z' ≤ res.2.1) (K : z_W p l e R s m args below meth c Q x M z0 pc' ls' st' z' σ') : z ≤ z' ∧ z_W p l e R s m args below meth c Q x M z0 pc ls st z σ := by
  have X' := X
  obtain ⟨hx, hb, hml, hown, hts, hF, -⟩ := X'
  have hini := z_okM_ini okM
  unfold z_st at h
  split at h
  · rename_i q hq
    obtain ⟨ok, okl⟩ := z_at_ok (z_okM_C okM) hq
    clear hq
    obtain ⟨ins, len, ts, cv⟩ := q
    unfold z_okb at ok
    rw [Bool.and_eq_true] at ok
    obtain ⟨hd0, ok⟩ := ok
    have hd : decode M.2.1 pc = .ok (ins, len) := of_decide_eq_true hd0
    clear hd0
    cases ins with
    | iload i =>
      have hl : len = 2 := Nat.eq_of_beq_eq_true okl
      subst hl
      have h : (z_lI ls i fun v => z_go (pc + 2) ls (.int v :: st) z σ) = some (.inl (pc', ls', st', z', σ')) := h
      obtain ⟨v, hg, h1⟩ := z_lI_inv h
      obtain ⟨f1, f2, f3, f4, f5⟩ := z_go_eq h1
      clear h h1
      subst f1 f2 f3 f4 f5
      exact z_ld (fun hg k => lv_iload hx hb hd hg k) hg K
    | iload_n i =>
      have hl : len = 1 := Nat.eq_of_beq_eq_true okl
      subst hl
      have h : (z_lI ls i.val fun v => z_go (pc + 1) ls (.int v :: st) z σ) = some (.inl (pc', ls', st', z', σ')) := h
      obtain ⟨v, hg, h1⟩ := z_lI_inv h
      obtain ⟨f1, f2, f3, f4, f5⟩ := z_go_eq h1
      clear h h1
      subst f1 f2 f3 f4 f5
      exact z_ld (fun hg k => lv_iload_n hx hb hd rfl hg k) hg K
    | lload i =>
      have hl : len = 2 := Nat.eq_of_beq_eq_true okl
      subst hl
      have h : (z_lJ ls i fun v => z_go (pc + 2) ls (.long v :: st) z σ) = some (.inl (pc', ls', st', z', σ')) := h
      obtain ⟨v, hg, h1⟩ := z_lJ_inv h
      obtain ⟨f1, f2, f3, f4, f5⟩ := z_go_eq h1
      clear h h1
      subst f1 f2 f3 f4 f5
      exact z_ld (fun hg k => lv_lload hx hb hd hg k) hg K
    | lload_n i =>
      have hl : len = 1 := Nat.eq_of_beq_eq_true okl
      subst hl
      have h : (z_lJ ls i.val fun v => z_go (pc + 1) ls (.long v :: st) z σ) = some (.inl (pc', ls', st', z', σ')) := h
      obtain ⟨v, hg, h1⟩ := z_lJ_inv h
      obtain ⟨f1, f2, f3, f4, f5⟩ := z_go_eq h1
      clear h h1
      subst f1 f2 f3 f4 f5
      exact z_ld (fun hg k => lv_lload_n hx hb hd rfl hg k) hg K
    | aload i =>
      have hl : len = 2 := Nat.eq_of_beq_eq_true okl
      subst hl
      have h : (z_lA ls i fun v => z_go (pc + 2) ls (.ref v :: st) z σ) = some (.inl (pc', ls', st', z', σ')) := h
      obtain ⟨v, hg, h1⟩ := z_lA_inv h
      obtain ⟨f1, f2, f3, f4, f5⟩ := z_go_eq h1
      clear h h1
      subst f1 f2 f3 f4 f5
      refine ⟨Nat.le_refl _, fun H locs cells slots rls hP hS hc hs hl => ?_⟩
      have K := K H locs cells slots rls hP hS hc hs hl
      have hg := z_lp_at hl hg
      rw [List.map_cons] at K
      rcases z_trA hF v with ⟨b, e⟩ | e
      · rw [e] at hg K; exact lv_aload hx hb hd hg K
      · rw [e] at hg K; exact lv_aloadN hx hb hd hg K
    | aload_n i =>
      have hl : len = 1 := Nat.eq_of_beq_eq_true okl
      subst hl
      have h : (z_lA ls i.val fun v => z_go (pc + 1) ls (.ref v :: st) z σ) = some (.inl (pc', ls', st', z', σ')) := h
      obtain ⟨v, hg, h1⟩ := z_lA_inv h
      obtain ⟨f1, f2, f3, f4, f5⟩ := z_go_eq h1
      clear h h1
      subst f1 f2 f3 f4 f5
      refine ⟨Nat.le_refl _, fun H locs cells slots rls hP hS hc hs hl => ?_⟩
      have K := K H locs cells slots rls hP hS hc hs hl
      have hg := z_lp_at hl hg
      rw [List.map_cons] at K
      rcases z_trA hF v with ⟨b, e⟩ | e
      · rw [e] at hg K; exact lv_aload_n hx hb hd rfl hg K
      · rw [e] at hg K; exact lv_aload_nN hx hb hd rfl hg K
    | istore i =>
      have hl : len = 2 := Nat.eq_of_beq_eq_true okl
      subst hl
      have h : (z_pI st fun v st => z_go (pc + 2) (z_s1 ls i (.int v)) st z σ) = some (.inl (pc', ls', st', z', σ')) := h
      obtain ⟨v, r0, e0, h0⟩ := z_pI_inv h
      obtain ⟨f1, f2, f3, f4, f5⟩ := z_go_eq h0
      clear h h0
      subst e0 f1 f2 f3 f4 f5
      have hi : i < M.2.2.1 := Nat.ble_eq.mp ok
      exact z_stl1 (st' := [.int v]) (v := .int v) (n := pc + 2) X rfl hi (fun hl kk => lv_istore hx hb hd hl hi rfl kk) K
    | istore_n i =>
      have hl : len = 1 := Nat.eq_of_beq_eq_true okl
      subst hl
      have h : (z_pI st fun v st => z_go (pc + 1) (z_s1 ls i.val (.int v)) st z σ) = some (.inl (pc', ls', st', z', σ')) := h
      obtain ⟨v, r0, e0, h0⟩ := z_pI_inv h
      obtain ⟨f1, f2, f3, f4, f5⟩ := z_go_eq h0
      clear h h0
      subst e0 f1 f2 f3 f4 f5
      have hi : i.val < M.2.2.1 := Nat.ble_eq.mp ok
      exact z_stl1 (st' := [.int v]) (v := .int v) (n := pc + 1) X rfl hi (fun hl kk => lv_istore_n hx hb hd rfl hl hi rfl kk) K
    | astore i =>
      have hl : len = 2 := Nat.eq_of_beq_eq_true okl
      subst hl
      have h : (z_pA st fun v st => z_go (pc + 2) (z_s1 ls i (.ref v)) st z σ) = some (.inl (pc', ls', st', z', σ')) := h
      obtain ⟨v, r0, e0, h0⟩ := z_pA_inv h
      obtain ⟨f1, f2, f3, f4, f5⟩ := z_go_eq h0
      clear h h0
      subst e0 f1 f2 f3 f4 f5
      have hi : i < M.2.2.1 := Nat.ble_eq.mp ok
      refine z_stl1 (st' := [.ref v]) (v := .ref v) (n := pc + 2) X rfl hi (fun hl kk => ?_) K
      rcases z_trA hF v with ⟨b, e⟩ | e
      · rw [e] at kk; rw [List.map_cons, e]; exact lv_astore hx hb hd hl hi rfl kk
      · rw [e] at kk; rw [List.map_cons, e]; exact lv_astoreN hx hb hd hl hi rfl kk
    | astore_n i =>
      have hl : len = 1 := Nat.eq_of_beq_eq_true okl
      subst hl
      have h : (z_pA st fun v st => z_go (pc + 1) (z_s1 ls i.val (.ref v)) st z σ) = some (.inl (pc', ls', st', z', σ')) := h
      obtain ⟨v, r0, e0, h0⟩ := z_pA_inv h
      obtain ⟨f1, f2, f3, f4, f5⟩ := z_go_eq h0
      clear h h0
      subst e0 f1 f2 f3 f4 f5
      have hi : i.val < M.2.2.1 := Nat.ble_eq.mp ok
      refine z_stl1 (st' := [.ref v]) (v := .ref v) (n := pc + 1) X rfl hi (fun hl kk => ?_) K
      rcases z_trA hF v with ⟨b, e⟩ | e
      · rw [e] at kk; rw [List.map_cons, e]; exact lv_astore_n hx hb hd rfl hl hi rfl kk
      · rw [e] at kk; rw [List.map_cons, e]; exact lv_astore_nN hx hb hd rfl hl hi rfl kk
    | lstore i =>
      have hl : len = 2 := Nat.eq_of_beq_eq_true okl
      subst hl
      have h : (z_pJ st fun v st => z_go (pc + 2) (z_s2 ls i (.long v)) st z σ) = some (.inl (pc', ls', st', z', σ')) := h
      obtain ⟨v, r0, e0, h0⟩ := z_pJ_inv h
      obtain ⟨f1, f2, f3, f4, f5⟩ := z_go_eq h0
      clear h h0
      subst e0 f1 f2 f3 f4 f5
      have hi : i + 1 < M.2.2.1 := Nat.ble_eq.mp ok
      exact z_stl2 (v := .long v) (n := pc + 2) X hi (fun hl kk => lv_lstore hx hb hd hl hi rfl kk) K
    | lstore_n i =>
      have hl : len = 1 := Nat.eq_of_beq_eq_true okl
      subst hl
      have h : (z_pJ st fun v st => z_go (pc + 1) (z_s2 ls i.val (.long v)) st z σ) = some (.inl (pc', ls', st', z', σ')) := h
      obtain ⟨v, r0, e0, h0⟩ := z_pJ_inv h
      obtain ⟨f1, f2, f3, f4, f5⟩ := z_go_eq h0
      clear h h0
      subst e0 f1 f2 f3 f4 f5
      have hi : i.val + 1 < M.2.2.1 := Nat.ble_eq.mp ok
      exact z_stl2 (v := .long v) (n := pc + 1) X hi (fun hl kk => lv_lstore_n hx hb hd rfl hl hi rfl kk) K
    | iinc i n =>
      have hl : len = 3 := Nat.eq_of_beq_eq_true okl
      subst hl
      have h : (z_lI ls i fun v => z_pI [cv] fun w _ => z_go (pc + 3) (z_s1 ls i (.int (v + w))) st z σ) = some (.inl (pc', ls', st', z', σ')) := h
      obtain ⟨v, hg, h1⟩ := z_lI_inv h
      obtain ⟨w, r, e1, h2⟩ := z_pI_inv h1
      obtain ⟨f1, f2, f3, f4, f5⟩ := z_go_eq h2
      clear h h1 h2
      subst f1 f2 f3 f4 f5
      have ok : (Nat.blt i M.2.2.1 && decide (cv = .int (Int32.ofInt n))) = true := ok
      rw [Bool.and_eq_true] at ok
      have hi : i < M.2.2.1 := Nat.ble_eq.mp ok.1
      have hv : cv = .int (Int32.ofInt n) := of_decide_eq_true ok.2
      have hw : w = Int32.ofInt n := Value.int.inj ((List.cons.inj e1).1.symm.trans hv)
      obtain ⟨k, hk⟩ := z_lp_find (x := x) hg
      exact z_stl1 (st' := []) (n := pc + 3) X (v := .int (v + w)) rfl hi (fun hl kk => lv_iinc hx hb hd hl hk (by rw [hw]) hi rfl kk) K
    | iconst n =>
      have hl : len = 1 := Nat.eq_of_beq_eq_true okl
      subst hl
      have h : (z_pI [cv] fun w _ => z_go (pc + 1) ls (.int w :: st) z σ) = some (.inl (pc', ls', st', z', σ')) := h
      obtain ⟨w, r, e1, h2⟩ := z_pI_inv h
      obtain ⟨f1, f2, f3, f4, f5⟩ := z_go_eq h2
      clear h h2
      subst f1 f2 f3 f4 f5
      have ec : cv = .int w := (List.cons.inj e1).1
      have hv : cv = .int (Int32.ofInt n) := of_decide_eq_true ok
      exact z_pu (fun _ k => lv_iconst hx hb hd (Value.int.inj (hv.symm.trans ec)) k) K
    | bipush n =>
      have hl : len = 2 := Nat.eq_of_beq_eq_true okl
      subst hl
      have h : (z_pI [cv] fun w _ => z_go (pc + 2) ls (.int w :: st) z σ) = some (.inl (pc', ls', st', z', σ')) := h
      obtain ⟨w, r, e1, h2⟩ := z_pI_inv h
      obtain ⟨f1, f2, f3, f4, f5⟩ := z_go_eq h2
      clear h h2
      subst f1 f2 f3 f4 f5
      have ec : cv = .int w := (List.cons.inj e1).1
      have hv : cv = .int (Int8.ofInt n).toInt32 := of_decide_eq_true ok
      exact z_pu (fun _ k => lv_bipush hx hb hd (Value.int.inj (hv.symm.trans ec)) k) K
    | sipush n =>
      have hl : len = 3 := Nat.eq_of_beq_eq_true okl
      subst hl
      have h : (z_pI [cv] fun w _ => z_go (pc + 3) ls (.int w :: st) z σ) = some (.inl (pc', ls', st', z', σ')) := h
      obtain ⟨w, r, e1, h2⟩ := z_pI_inv h
      obtain ⟨f1, f2, f3, f4, f5⟩ := z_go_eq h2
      clear h h2
      subst f1 f2 f3 f4 f5
      have ec : cv = .int w := (List.cons.inj e1).1
      have hv : cv = .int (Int16.ofInt n).toInt32 := of_decide_eq_true ok
      exact z_pu (fun _ k => lv_sipush hx hb hd (Value.int.inj (hv.symm.trans ec)) k) K
    | lconst n =>
      have hl : len = 1 := Nat.eq_of_beq_eq_true okl
      subst hl
      have h : (z_pJ [cv] fun w _ => z_go (pc + 1) ls (.long w :: st) z σ) = some (.inl (pc', ls', st', z', σ')) := h
      obtain ⟨w, r, e1, h2⟩ := z_pJ_inv h
      obtain ⟨f1, f2, f3, f4, f5⟩ := z_go_eq h2
      clear h h2
      subst f1 f2 f3 f4 f5
      have ec : cv = .long w := (List.cons.inj e1).1
      have hv : cv = .long (Int64.ofNat n.val) := of_decide_eq_true ok
      exact z_pu (fun _ k => lv_lconst hx hb hd (Value.long.inj (hv.symm.trans ec)) k) K
    | ldc_w idx =>
      have hl : len = 3 := Nat.eq_of_beq_eq_true okl
      subst hl
      have h : (z_pI [cv] fun w _ => z_go (pc + 3) ls (.int w :: st) z σ) = some (.inl (pc', ls', st', z', σ')) := h
      obtain ⟨w, r, e1, h2⟩ := z_pI_inv h
      obtain ⟨f1, f2, f3, f4, f5⟩ := z_go_eq h2
      clear h h2
      subst f1 f2 f3 f4 f5
      have ec : cv = .int w := (List.cons.inj e1).1
      subst ec
      have ok : z_T (.constant M.1.cls idx w) = true := ok
      exact z_pu (fun _ k => lv_ldcw hx hb hown (hts _ (z_T_in ok)) hd k) K
    | ldc2_w idx =>
      have hl : len = 3 := Nat.eq_of_beq_eq_true okl
      subst hl
      have h : (z_pJ [cv] fun w _ => z_go (pc + 3) ls (.long w :: st) z σ) = some (.inl (pc', ls', st', z', σ')) := h
      obtain ⟨w, r, e1, h2⟩ := z_pJ_inv h
      obtain ⟨f1, f2, f3, f4, f5⟩ := z_go_eq h2
      clear h h2
      subst f1 f2 f3 f4 f5
      have ec : cv = .long w := (List.cons.inj e1).1
      subst ec
      have ok : z_T (.constantLong M.1.cls idx w) = true := ok
      exact z_pu (fun _ k => lv_ldc2 hx hb hown (hts _ (z_T_in ok)) hd k) K
    | ldc idx =>
      have hl : len = 2 := Nat.eq_of_beq_eq_true okl
      subst hl
      exact z_lc (q := (.ldc idx, 2, ts, cv)) X hd ok h K
    | getstatic idx =>
      have hl : len = 3 := Nat.eq_of_beq_eq_true okl
      subst hl
      exact z_gs (q := (.getstatic idx, 3, ts, cv)) X rfl hd ok h K
    | getfield idx =>
      have hl : len = 3 := Nat.eq_of_beq_eq_true okl
      subst hl
      exact z_gf X hd ok h K
    | putfield idx =>
      have hl : len = 3 := Nat.eq_of_beq_eq_true okl
      subst hl
      exact z_pf X hd (fun a _ => (hini a).1) ok h K
    | invokevirtual idx =>
      have hl : len = 3 := Nat.eq_of_beq_eq_true okl
      subst hl
      exact z_inv (virt := 0) X HC (fun _ => hd) (fun q => by cases q) (fun q => by cases q) ok h hz K
    | invokestatic idx =>
      have hl : len = 3 := Nat.eq_of_beq_eq_true okl
      subst hl
      exact z_inv (virt := 1) X HC (fun q => by cases q) (fun _ => hd) (fun q => by cases q) ok h hz K
    | invokespecial idx =>
      have hl : len = 3 := Nat.eq_of_beq_eq_true okl
      subst hl
      exact z_inv (virt := 2) X HC (fun q => by cases q) (fun q => by cases q) (fun _ => hd) ok h hz K
    | iaload =>
      have hl : len = 1 := Nat.eq_of_beq_eq_true okl
      subst hl
      exact z_ial X hd h K
    | baload =>
      have hl : len = 1 := Nat.eq_of_beq_eq_true okl
      subst hl
      exact z_bal X hd h K
    | laload =>
      have hl : len = 1 := Nat.eq_of_beq_eq_true okl
      subst hl
      exact z_lal X hd h K
    | aaload =>
      have hl : len = 1 := Nat.eq_of_beq_eq_true okl
      subst hl
      exact z_aal X hd h K
    | iastore =>
      have hl : len = 1 := Nat.eq_of_beq_eq_true okl
      subst hl
      exact z_ias X hd h K
    | bastore =>
      have hl : len = 1 := Nat.eq_of_beq_eq_true okl
      subst hl
      exact z_bas X hd h K
    | lastore =>
      have hl : len = 1 := Nat.eq_of_beq_eq_true okl
      subst hl
      exact z_las X hd h K
    | arraylength =>
      have hl : len = 1 := Nat.eq_of_beq_eq_true okl
      subst hl
      exact z_aln X hd h K
    | new idx =>
      have hl : len = 3 := Nat.eq_of_beq_eq_true okl
      subst hl
      have h : (z_t0 ts fun ci => z_ck (Nat.beq (z_SH z).1 (ci + 4) && Nat.beq (z_SH z).2 (z_nf ci) && Nat.blt ci 12 && Nat.blt z 1000) (z_go (pc + 3) ls (.ref z :: st) (z + 1) (z_new1 z σ))) = some (.inl (pc', ls', st', z', σ')) := h
      obtain ⟨ci, r, e1, h1⟩ := z_t0_inv h
      obtain ⟨hck, h2⟩ := z_ck_inv h1
      obtain ⟨f1, f2, f3, f4, f5⟩ := z_go_eq h2
      clear h h1 h2
      subst e1 f1 f2 f3 f4 f5
      exact z_nw X hd ok hz hck K
    | newarray t =>
      have hl : len = 2 := Nat.eq_of_beq_eq_true okl
      subst hl
      have h : (z_pI st fun n st => z_ck (decide (0 ≤ n) && Nat.beq (z_SH z).1 (z_akind t) && Nat.beq (z_SH z).2 n.toNatClampNeg && Nat.blt z 1000 && Nat.ble n.toNatClampNeg 1000) (z_go (pc + 2) ls (.ref z :: st) (z + 1) (z_new1 z σ))) = some (.inl (pc', ls', st', z', σ')) := h
      obtain ⟨n, r, e1, h1⟩ := z_pI_inv h
      obtain ⟨hck, h2⟩ := z_ck_inv h1
      obtain ⟨f1, f2, f3, f4, f5⟩ := z_go_eq h2
      clear h h1 h2
      subst e1 f1 f2 f3 f4 f5
      exact z_na X hd ok hz hck K
    | multianewarray idx dm =>
      have hl : len = 4 := Nat.eq_of_beq_eq_true okl
      subst hl
      obtain ⟨k, r, e1, h1⟩ := z_pI_inv h
      obtain ⟨n, r2, e2, h2⟩ := z_pI_inv h1
      obtain ⟨hck, h3⟩ := z_ck_inv h2
      obtain ⟨f1, f2, f3, f4, f5⟩ := z_go_eq h3
      clear h h1 h2 h3
      subst e1 e2 f1 f2 f3 f4 f5
      exact z_mn X hd ok hz hck K
    | iadd =>
      have hl : len = 1 := Nat.eq_of_beq_eq_true okl
      subst hl
      have h : (z_pI st fun w st => z_pI st fun v st => z_go (pc + 1) ls (.int (v + w) :: st) z σ) = some (.inl (pc', ls', st', z', σ')) := h
      obtain ⟨w, r0, e0, h0⟩ := z_pI_inv h
      obtain ⟨v, r1, e1, h1⟩ := z_pI_inv h0
      obtain ⟨f1, f2, f3, f4, f5⟩ := z_go_eq h1
      clear h h0 h1
      subst e0 e1 f1 f2 f3 f4 f5
      exact z_sk (fun k => lv_iadd hx hb hd k) K
    | isub =>
      have hl : len = 1 := Nat.eq_of_beq_eq_true okl
      subst hl
      have h : (z_pI st fun w st => z_pI st fun v st => z_go (pc + 1) ls (.int (v - w) :: st) z σ) = some (.inl (pc', ls', st', z', σ')) := h
      obtain ⟨w, r0, e0, h0⟩ := z_pI_inv h
      obtain ⟨v, r1, e1, h1⟩ := z_pI_inv h0
      obtain ⟨f1, f2, f3, f4, f5⟩ := z_go_eq h1
      clear h h0 h1
      subst e0 e1 f1 f2 f3 f4 f5
      exact z_sk (fun k => lv_isub hx hb hd k) K
    | imul =>
      have hl : len = 1 := Nat.eq_of_beq_eq_true okl
      subst hl
      have h : (z_pI st fun w st => z_pI st fun v st => z_go (pc + 1) ls (.int (v * w) :: st) z σ) = some (.inl (pc', ls', st', z', σ')) := h
      obtain ⟨w, r0, e0, h0⟩ := z_pI_inv h
      obtain ⟨v, r1, e1, h1⟩ := z_pI_inv h0
      obtain ⟨f1, f2, f3, f4, f5⟩ := z_go_eq h1
      clear h h0 h1
      subst e0 e1 f1 f2 f3 f4 f5
      exact z_sk (fun k => lv_imul hx hb hd k) K
    | iand =>
      have hl : len = 1 := Nat.eq_of_beq_eq_true okl
      subst hl
      have h : (z_pI st fun w st => z_pI st fun v st => z_go (pc + 1) ls (.int (v &&& w) :: st) z σ) = some (.inl (pc', ls', st', z', σ')) := h
      obtain ⟨w, r0, e0, h0⟩ := z_pI_inv h
      obtain ⟨v, r1, e1, h1⟩ := z_pI_inv h0
      obtain ⟨f1, f2, f3, f4, f5⟩ := z_go_eq h1
      clear h h0 h1
      subst e0 e1 f1 f2 f3 f4 f5
      exact z_sk (fun k => lv_iand hx hb hd k) K
    | ior =>
      have hl : len = 1 := Nat.eq_of_beq_eq_true okl
      subst hl
      have h : (z_pI st fun w st => z_pI st fun v st => z_go (pc + 1) ls (.int (v ||| w) :: st) z σ) = some (.inl (pc', ls', st', z', σ')) := h
      obtain ⟨w, r0, e0, h0⟩ := z_pI_inv h
      obtain ⟨v, r1, e1, h1⟩ := z_pI_inv h0
      obtain ⟨f1, f2, f3, f4, f5⟩ := z_go_eq h1
      clear h h0 h1
      subst e0 e1 f1 f2 f3 f4 f5
      exact z_sk (fun k => lv_ior hx hb hd k) K
    | ixor =>
      have hl : len = 1 := Nat.eq_of_beq_eq_true okl
      subst hl
      have h : (z_pI st fun w st => z_pI st fun v st => z_go (pc + 1) ls (.int (v ^^^ w) :: st) z σ) = some (.inl (pc', ls', st', z', σ')) := h
      obtain ⟨w, r0, e0, h0⟩ := z_pI_inv h
      obtain ⟨v, r1, e1, h1⟩ := z_pI_inv h0
      obtain ⟨f1, f2, f3, f4, f5⟩ := z_go_eq h1
      clear h h0 h1
      subst e0 e1 f1 f2 f3 f4 f5
      exact z_sk (fun k => lv_ixor hx hb hd k) K
    | ishl =>
      have hl : len = 1 := Nat.eq_of_beq_eq_true okl
      subst hl
      have h : (z_pI st fun w st => z_pI st fun v st => z_go (pc + 1) ls (.int (v <<< (w &&& 31)) :: st) z σ) = some (.inl (pc', ls', st', z', σ')) := h
      obtain ⟨w, r0, e0, h0⟩ := z_pI_inv h
      obtain ⟨v, r1, e1, h1⟩ := z_pI_inv h0
      obtain ⟨f1, f2, f3, f4, f5⟩ := z_go_eq h1
      clear h h0 h1
      subst e0 e1 f1 f2 f3 f4 f5
      exact z_sk (fun k => lv_ishl hx hb hd k) K
    | ishr =>
      have hl : len = 1 := Nat.eq_of_beq_eq_true okl
      subst hl
      have h : (z_pI st fun w st => z_pI st fun v st => z_go (pc + 1) ls (.int (v >>> (w &&& 31)) :: st) z σ) = some (.inl (pc', ls', st', z', σ')) := h
      obtain ⟨w, r0, e0, h0⟩ := z_pI_inv h
      obtain ⟨v, r1, e1, h1⟩ := z_pI_inv h0
      obtain ⟨f1, f2, f3, f4, f5⟩ := z_go_eq h1
      clear h h0 h1
      subst e0 e1 f1 f2 f3 f4 f5
      exact z_sk (fun k => lv_ishr hx hb hd k) K
    | iushr =>
      have hl : len = 1 := Nat.eq_of_beq_eq_true okl
      subst hl
      have h : (z_pI st fun w st => z_pI st fun v st => z_go (pc + 1) ls (.int (v.toUInt32 >>> (w.toUInt32 &&& Int32.toUInt32 31)).toInt32 :: st) z σ) = some (.inl (pc', ls', st', z', σ')) := h
      obtain ⟨w, r0, e0, h0⟩ := z_pI_inv h
      obtain ⟨v, r1, e1, h1⟩ := z_pI_inv h0
      obtain ⟨f1, f2, f3, f4, f5⟩ := z_go_eq h1
      clear h h0 h1
      subst e0 e1 f1 f2 f3 f4 f5
      exact z_sk (fun k => lv_iushr hx hb hd rfl k) K
    | ladd =>
      have hl : len = 1 := Nat.eq_of_beq_eq_true okl
      subst hl
      have h : (z_pJ st fun w st => z_pJ st fun v st => z_go (pc + 1) ls (.long (v + w) :: st) z σ) = some (.inl (pc', ls', st', z', σ')) := h
      obtain ⟨w, r0, e0, h0⟩ := z_pJ_inv h
      obtain ⟨v, r1, e1, h1⟩ := z_pJ_inv h0
      obtain ⟨f1, f2, f3, f4, f5⟩ := z_go_eq h1
      clear h h0 h1
      subst e0 e1 f1 f2 f3 f4 f5
      exact z_sk (fun k => lv_ladd hx hb hd k) K
    | lsub =>
      have hl : len = 1 := Nat.eq_of_beq_eq_true okl
      subst hl
      have h : (z_pJ st fun w st => z_pJ st fun v st => z_go (pc + 1) ls (.long (v - w) :: st) z σ) = some (.inl (pc', ls', st', z', σ')) := h
      obtain ⟨w, r0, e0, h0⟩ := z_pJ_inv h
      obtain ⟨v, r1, e1, h1⟩ := z_pJ_inv h0
      obtain ⟨f1, f2, f3, f4, f5⟩ := z_go_eq h1
      clear h h0 h1
      subst e0 e1 f1 f2 f3 f4 f5
      exact z_sk (fun k => lv_lsub hx hb hd k) K
    | lmul =>
      have hl : len = 1 := Nat.eq_of_beq_eq_true okl
      subst hl
      have h : (z_pJ st fun w st => z_pJ st fun v st => z_go (pc + 1) ls (.long (v * w) :: st) z σ) = some (.inl (pc', ls', st', z', σ')) := h
      obtain ⟨w, r0, e0, h0⟩ := z_pJ_inv h
      obtain ⟨v, r1, e1, h1⟩ := z_pJ_inv h0
      obtain ⟨f1, f2, f3, f4, f5⟩ := z_go_eq h1
      clear h h0 h1
      subst e0 e1 f1 f2 f3 f4 f5
      exact z_sk (fun k => lv_lmul hx hb hd k) K
    | land =>
      have hl : len = 1 := Nat.eq_of_beq_eq_true okl
      subst hl
      have h : (z_pJ st fun w st => z_pJ st fun v st => z_go (pc + 1) ls (.long (v &&& w) :: st) z σ) = some (.inl (pc', ls', st', z', σ')) := h
      obtain ⟨w, r0, e0, h0⟩ := z_pJ_inv h
      obtain ⟨v, r1, e1, h1⟩ := z_pJ_inv h0
      obtain ⟨f1, f2, f3, f4, f5⟩ := z_go_eq h1
      clear h h0 h1
      subst e0 e1 f1 f2 f3 f4 f5
      exact z_sk (fun k => lv_land hx hb hd k) K
    | lor =>
      have hl : len = 1 := Nat.eq_of_beq_eq_true okl
      subst hl
      have h : (z_pJ st fun w st => z_pJ st fun v st => z_go (pc + 1) ls (.long (v ||| w) :: st) z σ) = some (.inl (pc', ls', st', z', σ')) := h
      obtain ⟨w, r0, e0, h0⟩ := z_pJ_inv h
      obtain ⟨v, r1, e1, h1⟩ := z_pJ_inv h0
      obtain ⟨f1, f2, f3, f4, f5⟩ := z_go_eq h1
      clear h h0 h1
      subst e0 e1 f1 f2 f3 f4 f5
      exact z_sk (fun k => lv_lor hx hb hd k) K
    | lshl =>
      have hl : len = 1 := Nat.eq_of_beq_eq_true okl
      subst hl
      have h : (z_pI st fun w st => z_pJ st fun v st => z_go (pc + 1) ls (.long (v <<< (w.toInt64 &&& 63)) :: st) z σ) = some (.inl (pc', ls', st', z', σ')) := h
      obtain ⟨w, r0, e0, h0⟩ := z_pI_inv h
      obtain ⟨v, r1, e1, h1⟩ := z_pJ_inv h0
      obtain ⟨f1, f2, f3, f4, f5⟩ := z_go_eq h1
      clear h h0 h1
      subst e0 e1 f1 f2 f3 f4 f5
      exact z_sk (fun k => lv_lshl hx hb hd rfl k) K
    | lshr =>
      have hl : len = 1 := Nat.eq_of_beq_eq_true okl
      subst hl
      have h : (z_pI st fun w st => z_pJ st fun v st => z_go (pc + 1) ls (.long (v >>> (w.toInt64 &&& 63)) :: st) z σ) = some (.inl (pc', ls', st', z', σ')) := h
      obtain ⟨w, r0, e0, h0⟩ := z_pI_inv h
      obtain ⟨v, r1, e1, h1⟩ := z_pJ_inv h0
      obtain ⟨f1, f2, f3, f4, f5⟩ := z_go_eq h1
      clear h h0 h1
      subst e0 e1 f1 f2 f3 f4 f5
      exact z_sk (fun k => lv_lshr hx hb hd rfl k) K
    | idiv =>
      have hl : len = 1 := Nat.eq_of_beq_eq_true okl
      subst hl
      have h : (z_pI st fun w st => z_pI st fun v st => z_ck (!decide (w = 0)) (z_go (pc + 1) ls (.int (v / w) :: st) z σ)) = some (.inl (pc', ls', st', z', σ')) := h
      obtain ⟨w, r0, e0, h0⟩ := z_pI_inv h
      obtain ⟨v, r1, e1, h1⟩ := z_pI_inv h0
      obtain ⟨hck, h2⟩ := z_ck_inv h1
      obtain ⟨f1, f2, f3, f4, f5⟩ := z_go_eq h2
      clear h h0 h1 h2
      subst e0 e1 f1 f2 f3 f4 f5
      have hne : ¬ w = 0 := by simpa using hck
      exact z_sk (fun k => lv_idiv hx hb hd hne k) K
    | irem =>
      have hl : len = 1 := Nat.eq_of_beq_eq_true okl
      subst hl
      have h : (z_pI st fun w st => z_pI st fun v st => z_ck (!decide (w = 0)) (z_go (pc + 1) ls (.int (v - v / w * w) :: st) z σ)) = some (.inl (pc', ls', st', z', σ')) := h
      obtain ⟨w, r0, e0, h0⟩ := z_pI_inv h
      obtain ⟨v, r1, e1, h1⟩ := z_pI_inv h0
      obtain ⟨hck, h2⟩ := z_ck_inv h1
      obtain ⟨f1, f2, f3, f4, f5⟩ := z_go_eq h2
      clear h h0 h1 h2
      subst e0 e1 f1 f2 f3 f4 f5
      have hne : ¬ w = 0 := by simpa using hck
      exact z_sk (fun k => lv_irem hx hb hd hne k) K
    | ldiv =>
      have hl : len = 1 := Nat.eq_of_beq_eq_true okl
      subst hl
      have h : (z_pJ st fun w st => z_pJ st fun v st => z_ck (!decide (w = 0)) (z_go (pc + 1) ls (.long (v / w) :: st) z σ)) = some (.inl (pc', ls', st', z', σ')) := h
      obtain ⟨w, r0, e0, h0⟩ := z_pJ_inv h
      obtain ⟨v, r1, e1, h1⟩ := z_pJ_inv h0
      obtain ⟨hck, h2⟩ := z_ck_inv h1
      obtain ⟨f1, f2, f3, f4, f5⟩ := z_go_eq h2
      clear h h0 h1 h2
      subst e0 e1 f1 f2 f3 f4 f5
      have hne : ¬ w = 0 := by simpa using hck
      exact z_sk (fun k => lv_ldiv hx hb hd hne k) K
    | lrem =>
      have hl : len = 1 := Nat.eq_of_beq_eq_true okl
      subst hl
      have h : (z_pJ st fun w st => z_pJ st fun v st => z_ck (!decide (w = 0)) (z_go (pc + 1) ls (.long (v - v / w * w) :: st) z σ)) = some (.inl (pc', ls', st', z', σ')) := h
      obtain ⟨w, r0, e0, h0⟩ := z_pJ_inv h
      obtain ⟨v, r1, e1, h1⟩ := z_pJ_inv h0
      obtain ⟨hck, h2⟩ := z_ck_inv h1
      obtain ⟨f1, f2, f3, f4, f5⟩ := z_go_eq h2
      clear h h0 h1 h2
      subst e0 e1 f1 f2 f3 f4 f5
      have hne : ¬ w = 0 := by simpa using hck
      exact z_sk (fun k => lv_lrem hx hb hd hne k) K
    | lcmp =>
      have hl : len = 1 := Nat.eq_of_beq_eq_true okl
      subst hl
      have h : (z_pJ st fun w st => z_pJ st fun v st => z_go (pc + 1) ls (.int (lg_cmp v w) :: st) z σ) = some (.inl (pc', ls', st', z', σ')) := h
      obtain ⟨w, r0, e0, h0⟩ := z_pJ_inv h
      obtain ⟨v, r1, e1, h1⟩ := z_pJ_inv h0
      obtain ⟨f1, f2, f3, f4, f5⟩ := z_go_eq h1
      clear h h0 h1
      subst e0 e1 f1 f2 f3 f4 f5
      exact z_sk (fun k => W.lcmp hx hb hd k) K
    | ineg =>
      have hl : len = 1 := Nat.eq_of_beq_eq_true okl
      subst hl
      have h : (z_pI st fun v st => z_go (pc + 1) ls (.int (-v) :: st) z σ) = some (.inl (pc', ls', st', z', σ')) := h
      obtain ⟨v, r0, e0, h0⟩ := z_pI_inv h
      obtain ⟨f1, f2, f3, f4, f5⟩ := z_go_eq h0
      clear h h0
      subst e0 f1 f2 f3 f4 f5
      exact z_sk (fun k => lv_ineg hx hb hd k) K
    | lneg =>
      have hl : len = 1 := Nat.eq_of_beq_eq_true okl
      subst hl
      have h : (z_pJ st fun v st => z_go (pc + 1) ls (.long (-v) :: st) z σ) = some (.inl (pc', ls', st', z', σ')) := h
      obtain ⟨v, r0, e0, h0⟩ := z_pJ_inv h
      obtain ⟨f1, f2, f3, f4, f5⟩ := z_go_eq h0
      clear h h0
      subst e0 f1 f2 f3 f4 f5
      exact z_sk (fun k => lv_lneg hx hb hd k) K
    | i2l =>
      have hl : len = 1 := Nat.eq_of_beq_eq_true okl
      subst hl
      have h : (z_pI st fun v st => z_go (pc + 1) ls (.long v.toInt64 :: st) z σ) = some (.inl (pc', ls', st', z', σ')) := h
      obtain ⟨v, r0, e0, h0⟩ := z_pI_inv h
      obtain ⟨f1, f2, f3, f4, f5⟩ := z_go_eq h0
      clear h h0
      subst e0 f1 f2 f3 f4 f5
      exact z_sk (fun k => lv_i2l hx hb hd rfl k) K
    | l2i =>
      have hl : len = 1 := Nat.eq_of_beq_eq_true okl
      subst hl
      have h : (z_pJ st fun v st => z_go (pc + 1) ls (.int v.toInt32 :: st) z σ) = some (.inl (pc', ls', st', z', σ')) := h
      obtain ⟨v, r0, e0, h0⟩ := z_pJ_inv h
      obtain ⟨f1, f2, f3, f4, f5⟩ := z_go_eq h0
      clear h h0
      subst e0 f1 f2 f3 f4 f5
      exact z_sk (fun k => lv_l2i hx hb hd rfl k) K
    | i2b =>
      have hl : len = 1 := Nat.eq_of_beq_eq_true okl
      subst hl
      have h : (z_pI st fun v st => z_go (pc + 1) ls (.int v.toInt8.toInt32 :: st) z σ) = some (.inl (pc', ls', st', z', σ')) := h
      obtain ⟨v, r0, e0, h0⟩ := z_pI_inv h
      obtain ⟨f1, f2, f3, f4, f5⟩ := z_go_eq h0
      clear h h0
      subst e0 f1 f2 f3 f4 f5
      exact z_sk (fun k => lv_i2b hx hb hd rfl k) K
    | i2s =>
      have hl : len = 1 := Nat.eq_of_beq_eq_true okl
      subst hl
      have h : (z_pI st fun v st => z_go (pc + 1) ls (.int v.toInt16.toInt32 :: st) z σ) = some (.inl (pc', ls', st', z', σ')) := h
      obtain ⟨v, r0, e0, h0⟩ := z_pI_inv h
      obtain ⟨f1, f2, f3, f4, f5⟩ := z_go_eq h0
      clear h h0
      subst e0 f1 f2 f3 f4 f5
      exact z_sk (fun k => lv_i2s hx hb hd rfl k) K
    | i2c =>
      have hl : len = 1 := Nat.eq_of_beq_eq_true okl
      subst hl
      have h : (z_pI st fun v st => z_go (pc + 1) ls (.int (v.toUInt32 % 65536).toInt32 :: st) z σ) = some (.inl (pc', ls', st', z', σ')) := h
      obtain ⟨v, r0, e0, h0⟩ := z_pI_inv h
      obtain ⟨f1, f2, f3, f4, f5⟩ := z_go_eq h0
      clear h h0
      subst e0 f1 f2 f3 f4 f5
      exact z_sk (fun k => lv_i2c hx hb hd rfl k) K
    | ifCond cd off =>
      have hl : len = 3 := Nat.eq_of_beq_eq_true okl
      subst hl
      have h : (z_t0 ts fun t => z_pI st fun v st => z_br cd v 0 t (pc + 3) ls st z σ) = some (.inl (pc', ls', st', z', σ')) := h
      obtain ⟨t, r, e1, h1⟩ := z_t0_inv h
      obtain ⟨v, r2, e2, h2⟩ := z_pI_inv h1
      clear h h1
      subst e1 e2
      exact z_brZ hx hb hd (z_okt_inv ok) h2 K
    | if_icmp cd off =>
      have hl : len = 3 := Nat.eq_of_beq_eq_true okl
      subst hl
      have h : (z_t0 ts fun t => z_pI st fun w st => z_pI st fun v st => z_br cd v w t (pc + 3) ls st z σ) = some (.inl (pc', ls', st', z', σ')) := h
      obtain ⟨t, r, e1, h1⟩ := z_t0_inv h
      obtain ⟨w, r2, e2, h2⟩ := z_pI_inv h1
      obtain ⟨v, r3, e3, h3⟩ := z_pI_inv h2
      clear h h1 h2
      subst e1 e2 e3
      exact z_brS hx hb hd (z_okt_inv ok) h3 K
    | goto off =>
      have hl : len = 3 := Nat.eq_of_beq_eq_true okl
      subst hl
      have h : (z_t0 ts fun t => z_go t ls st z σ) = some (.inl (pc', ls', st', z', σ')) := h
      obtain ⟨t, r, e1, h1⟩ := z_t0_inv h
      obtain ⟨f1, f2, f3, f4, f5⟩ := z_go_eq h1
      clear h h1
      subst e1 f1 f2 f3 f4 f5
      exact z_sk (fun k => lv_goto hx hb hd (z_okt_inv ok) k) K
    | tableswitch df lo hi offs =>
      have h : (z_pI st fun v st => if v.toInt < lo ∨ hi < v.toInt then z_sw ts[0]? ls st z σ else z_sw ts[(v.toInt - lo).toNat + 1]? ls st z σ) = some (.inl (pc', ls', st', z', σ')) := h
      obtain ⟨v, r, e1, h1⟩ := z_pI_inv h
      have ok : (z_oks pc (df :: offs.toList) ts && decide ((offs.size : Int) = hi - lo + 1)) = true := ok
      rw [Bool.and_eq_true] at ok
      clear h
      subst e1
      by_cases hr : v.toInt < lo ∨ hi < v.toInt
      · rw [if_pos hr] at h1
        obtain ⟨t, ht, h2⟩ := z_sw_inv h1
        obtain ⟨f1, f2, f3, f4, f5⟩ := z_go_eq h2
        clear h1 h2
        subst f1 f2 f3 f4 f5
        obtain ⟨w, hw, he⟩ := z_oks_at ok.1 0 t ht
        cases hw
        exact z_sk (fun k => lv_tableOut hx hb hd hr he k) K
      · rw [if_neg hr] at h1
        obtain ⟨t, ht, h2⟩ := z_sw_inv h1
        obtain ⟨f1, f2, f3, f4, f5⟩ := z_go_eq h2
        clear h1 h2
        subst f1 f2 f3 f4 f5
        obtain ⟨w, hw, he⟩ := z_oks_at ok.1 _ t ht
        rw [List.getElem?_cons_succ] at hw
        exact z_sk (fun k => lv_tableIn hx hb hd (fun q => hr (Or.inl q)) (fun q => hr (Or.inr q)) (by rw [← Array.getElem?_toList]; exact hw) he k) K
    | lookupswitch df ps =>
      have h : (z_t0 ts fun t => z_pI st fun v st => z_go (z_psw ps.toList ts.tail t v.toInt) ls st z σ) = some (.inl (pc', ls', st', z', σ')) := h
      obtain ⟨t, r, e1, h1⟩ := z_t0_inv h
      obtain ⟨v, r2, e2, h2⟩ := z_pI_inv h1
      obtain ⟨f1, f2, f3, f4, f5⟩ := z_go_eq h2
      clear h h1 h2
      subst e1 e2 f1 f2 f3 f4 f5
      have ok : (z_oks pc (df :: ps.toList.map (fun p => p.2)) (t :: r) && (ps.toList.zip (ps.toList.drop 1)).all (fun (a, next) => a.1 < next.1)) = true := ok
      rw [Bool.and_eq_true] at ok
      have o1 : (decide ((pc : Int) + df = (t : Int)) && z_oks pc (ps.toList.map (fun p => p.2)) r) = true := ok.1
      rw [Bool.and_eq_true] at o1
      exact z_sk (fun k => lv_lookup hx hb hd ok.2 rfl (z_psw_ok (of_decide_eq_true o1.1) o1.2) k) K
    | dup =>
      have hl : len = 1 := Nat.eq_of_beq_eq_true okl
      subst hl
      have h : (z_p1 st fun v st => z_go (pc + 1) ls (v :: v :: st) z σ) = some (.inl (pc', ls', st', z', σ')) := h
      obtain ⟨v, r0, e0, h0, c0⟩ := z_p1_inv h
      obtain ⟨f1, f2, f3, f4, f5⟩ := z_go_eq h0
      clear h h0
      subst e0 f1 f2 f3 f4 f5
      exact z_sk (fun k => lv_dup hx hb hd (z_c1 hF c0) k) K
    | dup_x1 =>
      have hl : len = 1 := Nat.eq_of_beq_eq_true okl
      subst hl
      have h : (z_p1 st fun v st => z_p1 st fun w st => z_go (pc + 1) ls (v :: w :: v :: st) z σ) = some (.inl (pc', ls', st', z', σ')) := h
      obtain ⟨v, r0, e0, h0, c0⟩ := z_p1_inv h
      obtain ⟨w, r1, e1, h1, c1⟩ := z_p1_inv h0
      obtain ⟨f1, f2, f3, f4, f5⟩ := z_go_eq h1
      clear h h0 h1
      subst e0 e1 f1 f2 f3 f4 f5
      exact z_sk (fun k => lv_dup_x1 hx hb hd (z_c1 hF c0) (z_c1 hF c1) k) K
    | dup2 =>
      have hl : len = 1 := Nat.eq_of_beq_eq_true okl
      subst hl
      have h : (z_p1 st fun v st => z_p1 st fun w st => z_go (pc + 1) ls (v :: w :: v :: w :: st) z σ) = some (.inl (pc', ls', st', z', σ')) := h
      obtain ⟨v, r0, e0, h0, c0⟩ := z_p1_inv h
      obtain ⟨w, r1, e1, h1, c1⟩ := z_p1_inv h0
      obtain ⟨f1, f2, f3, f4, f5⟩ := z_go_eq h1
      clear h h0 h1
      subst e0 e1 f1 f2 f3 f4 f5
      exact z_sk (fun k => lv_dup2_11 hx hb hd (z_c1 hF c0) (z_c1 hF c1) k) K
    | pop =>
      have hl : len = 1 := Nat.eq_of_beq_eq_true okl
      subst hl
      have h : (z_p1 st fun v st => z_go (pc + 1) ls st z σ) = some (.inl (pc', ls', st', z', σ')) := h
      obtain ⟨v, r0, e0, h0, c0⟩ := z_p1_inv h
      obtain ⟨f1, f2, f3, f4, f5⟩ := z_go_eq h0
      clear h h0
      subst e0 f1 f2 f3 f4 f5
      exact z_sk (fun k => lv_pop hx hb hd (z_c1 hF c0) k) K
    | ireturn =>
      have hl : len = 1 := Nat.eq_of_beq_eq_true okl
      subst hl
      obtain ⟨v, r, e1, h1⟩ := z_pI_inv h
      exfalso
      split at h1
      · obtain ⟨-, h2⟩ := z_ck_inv h1
        cases h2
      · cases h1
    | lreturn =>
      have hl : len = 1 := Nat.eq_of_beq_eq_true okl
      subst hl
      obtain ⟨v, r, e1, h1⟩ := z_pJ_inv h
      exfalso
      split at h1
      · cases h1
      · cases h1
    | areturn =>
      have hl : len = 1 := Nat.eq_of_beq_eq_true okl
      subst hl
      obtain ⟨v, r, e1, h1⟩ := z_pA_inv h
      exfalso
      split at h1
      · cases h1
      · cases h1
    | return_ =>
      have hl : len = 1 := Nat.eq_of_beq_eq_true okl
      subst hl
      exfalso
      have h : (match st with | [] => some (.inr (none, z, σ)) | _ => (none : zY)) = some (.inl (pc', ls', st', z', σ')) := h
      split at h
      · cases h
      · cases h
    | _ => cases (show (none : zY) = some (.inl (pc', ls', st', z', σ')) from h)
  · cases h
end SIMJ
