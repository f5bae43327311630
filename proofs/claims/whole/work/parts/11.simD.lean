-- STEPS: arrays, fixed cells
theorem z_ur_at {α : Type} (f : Nat → Nat → α) (a : Nat) (h : Nat → α) : z_ur f a h a = h := by simp [z_ur]
theorem z_ur_ne {α : Type} (f : Nat → Nat → α) {a b : Nat} (h : Nat → α) (n : b ≠ a) : z_ur f a h b = f b := by simp [z_ur, n]
section SIMD
variable {p : Program} {l : Launch} {e : Env} {R : Room} {s : State} {m : MethodId} {args : Array Value} {below : List Frame} {meth : Method} {c : Code} {Q : State → Prop} {x : zX} {E : zE} {M : zM} {d z0 : Nat} {res : zR}
variable {pc : Nat} {ls : zL} {st : List Value} {z : Nat} {σ : zS} {y : zP ⊕ zR} {ts : List Nat} {idx : Nat}
theorem z_tr_ro {a : Nat} (h : 1000 ≤ a) (h2 : a ≠ 1007) : z_tr x (.ref a) = .ref (x.2.2.2.1 a) := by
  show (if a < 1000 then Value.ref (x.1 + a) else if a = 1007 then x.2.2.2.2 else Value.ref (x.2.2.2.1 a)) = _
  rw [if_neg (by omega), if_neg h2]
theorem z_ial (X : z_Fx p R s m args meth c x E M d z0 res) (hd : decode M.2.1 pc = .ok (.iaload, 1)) (h : (z_pI st fun i st => z_pA st fun a st => z_ild (z_ia E z σ a) i fun v => z_go (pc + 1) ls (.int v :: st) z σ) = some y) : z_Step p l e R s m args below meth c Q x M z0 pc ls st z σ y := by
  obtain ⟨hx, hb, hml, hown, hts, hF, -⟩ := X
  obtain ⟨i, r1, e1, h1⟩ := z_pI_inv h
  obtain ⟨a, r2, e2, h2⟩ := z_pA_inv h1
  obtain ⟨N, f, e3, h3, h4⟩ := z_ild_inv h2
  clear h h1 h2
  subst e1 e2
  refine z_goS (fun K => ⟨Nat.le_refl _, fun H locs cells slots rls hP hS hc hs hl => ?_⟩) h4
  have K := K H locs cells slots rls hP hS hc hs hl
  have hin := z_in_inv h3
  rcases z_ia_inv e3 with ⟨a1, a2, a3, rfl⟩ | ⟨a1, a2⟩
  · rw [List.map_cons, List.map_cons, z_tr_ref a1]
    exact va_iald hx hb hF.1 hP a 0 (by rw [z_wl_at a2, z_e_0 a3]) rfl hin hd K
  · obtain ⟨-, ⟨-, h2', g2⟩, ⟨-, h3', g3⟩, -, -, -, -, ⟨h8, h8'⟩, -, -, h11, -⟩ := hF
    rcases z_roI_inv a2 with ⟨rfl, rfl, rfl⟩ | ⟨rfl, rfl, rfl⟩ | ⟨rfl, rfl⟩
    · exact va_sld hx hb h2' (by omega) (by show ¬ x.1 ≤ _; omega) hS hin hd K
    · exact va_sld hx hb h3' (by omega) (by show ¬ x.1 ≤ _; omega) hS hin hd K
    · exact va_sld hx hb h8 (by omega) (by show ¬ x.1 ≤ _; omega) hS hin hd K
theorem z_bal (X : z_Fx p R s m args meth c x E M d z0 res) (hd : decode M.2.1 pc = .ok (.baload, 1)) (h : (z_pI st fun i st => z_pA st fun a st => z_ild (z_ba z σ a) i fun v => z_go (pc + 1) ls (.int v :: st) z σ) = some y) : z_Step p l e R s m args below meth c Q x M z0 pc ls st z σ y := by
  obtain ⟨hx, hb, hml, hown, hts, hF, -⟩ := X
  obtain ⟨i, r1, e1, h1⟩ := z_pI_inv h
  obtain ⟨a, r2, e2, h2⟩ := z_pA_inv h1
  obtain ⟨N, f, e3, h3, h4⟩ := z_ild_inv h2
  clear h h1 h2
  subst e1 e2
  refine z_goS (fun K => ⟨Nat.le_refl _, fun H locs cells slots rls hP hS hc hs hl => ?_⟩) h4
  have K := K H locs cells slots rls hP hS hc hs hl
  have hin := z_in_inv h3
  rcases z_ba_inv e3 with ⟨a1, a2, a3, rfl⟩ | ⟨a1, a2⟩
  · rw [List.map_cons, List.map_cons, z_tr_ref a1]
    exact va_zald hx hb hF.1 hP a 2 (by rw [z_wl_at a2, z_e_2 a3]) rfl hin hd K
  · obtain ⟨-, -, -, -, -, h6, -⟩ := hF
    rcases z_roB_inv a2 with ⟨rfl, rfl, rfl⟩ | ⟨rfl, rfl, rfl⟩
    · exact va_tb hx hb (h6.1 0 (by decide)).2.2.2 hS hin rfl hd K
    · exact va_tb hx hb (h6.1 1 (by decide)).2.2.2 hS hin rfl hd K
theorem z_lal (X : z_Fx p R s m args meth c x E M d z0 res) (hd : decode M.2.1 pc = .ok (.laload, 1)) (h : (z_pI st fun i st => z_pA st fun a st => z_ck (z_isA z σ a 1 && z_in i (z_SH a).2) (z_go (pc + 1) ls (.long (σ.2.1 a i.toNatClampNeg) :: st) z σ)) = some y) : z_Step p l e R s m args below meth c Q x M z0 pc ls st z σ y := by
  obtain ⟨hx, hb, hml, hown, hts, hF, -⟩ := X
  obtain ⟨i, r1, e1, h1⟩ := z_pI_inv h
  obtain ⟨a, r2, e2, h2⟩ := z_pA_inv h1
  obtain ⟨h3, h4⟩ := z_ck_inv h2
  clear h h1 h2
  subst e1 e2
  simp only [Bool.and_eq_true] at h3
  obtain ⟨a1, a2, a3⟩ := z_isA_inv h3.1
  refine z_goS (fun K => ⟨Nat.le_refl _, fun H locs cells slots rls hP hS hc hs hl => ?_⟩) h4
  have K := K H locs cells slots rls hP hS hc hs hl
  rw [List.map_cons, List.map_cons, z_tr_ref a1]
  exact va_lald hx hb hF.1 hP a 1 (by rw [z_wl_at a2, z_e_1 a3]) rfl (z_in_inv h3.2) hd K
theorem z_aal (X : z_Fx p R s m args meth c x E M d z0 res) (hd : decode M.2.1 pc = .ok (.aaload, 1)) (h : (z_pI st fun i st => z_pA st fun a st => z_ck (z_isA z σ a 3 && z_in i (z_SH a).2) (z_go (pc + 1) ls (z_rv (σ.2.2 a i.toNatClampNeg) :: st) z σ)) = some y) : z_Step p l e R s m args below meth c Q x M z0 pc ls st z σ y := by
  obtain ⟨hx, hb, hml, hown, hts, hF, -⟩ := X
  obtain ⟨i, r1, e1, h1⟩ := z_pI_inv h
  obtain ⟨a, r2, e2, h2⟩ := z_pA_inv h1
  obtain ⟨h3, h4⟩ := z_ck_inv h2
  clear h h1 h2
  subst e1 e2
  simp only [Bool.and_eq_true] at h3
  obtain ⟨a1, a2, a3⟩ := z_isA_inv h3.1
  have hin := z_in_inv h3.2
  refine z_goS (fun K => ⟨Nat.le_refl _, fun H locs cells slots rls hP hS hc hs hl => ?_⟩) h4
  have K := K H locs cells slots rls hP hS hc hs hl
  rw [List.map_cons, List.map_cons, z_tr_ref a1]
  have hlt : i.toNatClampNeg < (z_SH a).2 := Nat.not_le.mp fun q => hin (Or.inr q)
  have hw : (z_wl x z σ)[a]? = some (x.1 + a, .inl (x.2.2.1 3, (z_SH a).2, .inr (.inr (.inr (.inr (fun j => z_ro x (σ.2.2 a j))))))) := by rw [z_wl_at a2, z_e_3 a3]
  refine W.aald (v := va_rf (z_ro x (σ.2.2 a i.toNatClampNeg))) (ty := .array .int) hx hb (hP a _ hw) ((hF.1.2 3 _ rfl).1 (z_SH a).2 (fun j => va_rf (z_ro x (σ.2.2 a j)))) rfl (fun q => by cases q) (by show ¬ (i < 0 ∨ (arrV _ _ _).slots.size ≤ _); rw [arrV_size]; exact hin) (by show (arrV _ _ _).slots[_]? = _; rw [arrV_read _ _ hlt]) rfl rfl hd ?_
  rw [z_ro_rf hF.2.2.2.2.2.2.2.2.2.2.2]
  exact K
theorem z_ias (X : z_Fx p R s m args meth c x E M d z0 res) (hd : decode M.2.1 pc = .ok (.iastore, 1)) (h : (z_pI st fun v st => z_pI st fun i st => z_pA st fun a st => z_ck (z_isA z σ a 0 && z_in i (z_SH a).2) (z_go (pc + 1) ls st z (z_sI σ a i.toNatClampNeg v))) = some y) : z_Step p l e R s m args below meth c Q x M z0 pc ls st z σ y := by
  obtain ⟨hx, hb, hml, hown, hts, hF, -⟩ := X
  obtain ⟨v, r0, e0, h0⟩ := z_pI_inv h
  obtain ⟨i, r1, e1, h1⟩ := z_pI_inv h0
  obtain ⟨a, r2, e2, h2⟩ := z_pA_inv h1
  obtain ⟨h3, h4⟩ := z_ck_inv h2
  clear h h0 h1 h2
  subst e0 e1 e2
  simp only [Bool.and_eq_true] at h3
  obtain ⟨a1, a2, a3⟩ := z_isA_inv h3.1
  refine z_goS (fun K => ⟨Nat.le_refl _, fun H locs cells slots rls hP hS hc hs hl => ?_⟩) h4
  rw [List.map_cons, List.map_cons, List.map_cons, z_tr_ref a1]
  refine va_iast hx hb hF.1 hP z_wl_D hS a 0 (by rw [z_wl_at a2, z_e_0 a3]) rfl (z_in_inv h3.2) hd (fun H1 locs1 hP1 _ hS1 => ?_)
  have hset : (z_wl x z σ).set a (x.1 + a, .inl (x.2.2.1 0, (z_SH a).2, .inl (upd (σ.1 a) i.toNatClampNeg v))) = z_wl x z (z_sI σ a i.toNatClampNeg v) := z_wl_set a2 (by rw [z_e_0 a3, show (z_sI σ a i.toNatClampNeg v).1 a = upd (σ.1 a) i.toNatClampNeg v from z_u2_at _ _ _ _]) (fun b hb => z_e_off (z_u2_ne _ _ _ hb) rfl rfl)
  rw [hset] at hP1
  exact K H1 locs1 cells slots rls hP1 hS1 hc hs hl
theorem z_bas (X : z_Fx p R s m args meth c x E M d z0 res) (hd : decode M.2.1 pc = .ok (.bastore, 1)) (h : (z_pI st fun v st => z_pI st fun i st => z_pA st fun a st => z_ck (z_isA z σ a 2 && z_in i (z_SH a).2 && z_b01 v) (z_go (pc + 1) ls st z (z_sI σ a i.toNatClampNeg v))) = some y) : z_Step p l e R s m args below meth c Q x M z0 pc ls st z σ y := by
  obtain ⟨hx, hb, hml, hown, hts, hF, -⟩ := X
  obtain ⟨v, r0, e0, h0⟩ := z_pI_inv h
  obtain ⟨i, r1, e1, h1⟩ := z_pI_inv h0
  obtain ⟨a, r2, e2, h2⟩ := z_pA_inv h1
  obtain ⟨h3, h4⟩ := z_ck_inv h2
  clear h h0 h1 h2
  subst e0 e1 e2
  simp only [Bool.and_eq_true] at h3
  obtain ⟨a1, a2, a3⟩ := z_isA_inv h3.1.1
  refine z_goS (fun K => ⟨Nat.le_refl _, fun H locs cells slots rls hP hS hc hs hl => ?_⟩) h4
  rw [List.map_cons, List.map_cons, List.map_cons, z_tr_ref a1]
  refine va_zast hx hb hF.1 hP z_wl_D hS a 2 (by rw [z_wl_at a2, z_e_2 a3]) rfl (z_in_inv h3.1.2) hd (fun H1 locs1 hP1 _ hS1 => ?_)
  rw [(z_b01_n h3.2).2.2] at hP1
  have hset : (z_wl x z σ).set a (x.1 + a, .inl (x.2.2.1 2, (z_SH a).2, .inl (upd (σ.1 a) i.toNatClampNeg v))) = z_wl x z (z_sI σ a i.toNatClampNeg v) := z_wl_set a2 (by rw [z_e_2 a3, show (z_sI σ a i.toNatClampNeg v).1 a = upd (σ.1 a) i.toNatClampNeg v from z_u2_at _ _ _ _]) (fun b hb => z_e_off (z_u2_ne _ _ _ hb) rfl rfl)
  rw [hset] at hP1
  exact K H1 locs1 cells slots rls hP1 hS1 hc hs hl
theorem z_las (X : z_Fx p R s m args meth c x E M d z0 res) (hd : decode M.2.1 pc = .ok (.lastore, 1)) (h : (z_pJ st fun v st => z_pI st fun i st => z_pA st fun a st => z_ck (z_isA z σ a 1 && z_in i (z_SH a).2) (z_go (pc + 1) ls st z (z_sJ σ a i.toNatClampNeg v))) = some y) : z_Step p l e R s m args below meth c Q x M z0 pc ls st z σ y := by
  obtain ⟨hx, hb, hml, hown, hts, hF, -⟩ := X
  obtain ⟨v, r0, e0, h0⟩ := z_pJ_inv h
  obtain ⟨i, r1, e1, h1⟩ := z_pI_inv h0
  obtain ⟨a, r2, e2, h2⟩ := z_pA_inv h1
  obtain ⟨h3, h4⟩ := z_ck_inv h2
  clear h h0 h1 h2
  subst e0 e1 e2
  simp only [Bool.and_eq_true] at h3
  obtain ⟨a1, a2, a3⟩ := z_isA_inv h3.1
  refine z_goS (fun K => ⟨Nat.le_refl _, fun H locs cells slots rls hP hS hc hs hl => ?_⟩) h4
  rw [List.map_cons, List.map_cons, List.map_cons, z_tr_ref a1]
  refine va_last hx hb hF.1 hP z_wl_D hS a 1 (by rw [z_wl_at a2, z_e_1 a3]) rfl (z_in_inv h3.2) hd (fun H1 locs1 hP1 _ hS1 => ?_)
  have hset : (z_wl x z σ).set a (x.1 + a, .inl (x.2.2.1 1, (z_SH a).2, .inr (.inl (vp_updL (σ.2.1 a) i.toNatClampNeg v)))) = z_wl x z (z_sJ σ a i.toNatClampNeg v) := z_wl_set a2 (by rw [z_e_1 a3, show (z_sJ σ a i.toNatClampNeg v).2.1 a = vp_updL (σ.2.1 a) i.toNatClampNeg v from z_u2_at _ _ _ _]) (fun b hb => z_e_off rfl (z_u2_ne _ _ _ hb) rfl)
  rw [hset] at hP1
  exact K H1 locs1 cells slots rls hP1 hS1 hc hs hl
theorem z_aln (X : z_Fx p R s m args meth c x E M d z0 res) (hd : decode M.2.1 pc = .ok (.arraylength, 1)) (h : (z_pA st fun a st => match z_al E z σ a with
    | some n => z_go (pc + 1) ls (.int (Int32.ofNat n) :: st) z σ
    | none => none) = some y) : z_Step p l e R s m args below meth c Q x M z0 pc ls st z σ y := by
  obtain ⟨hx, hb, hml, hown, hts, hF, -⟩ := X
  obtain ⟨a, r2, e2, h2⟩ := z_pA_inv h
  clear h
  subst e2
  cases hal : z_al E z σ a with
  | none => rw [hal] at h2; cases h2
  | some n =>
    rw [hal] at h2
    refine z_goS (fun K => ⟨Nat.le_refl _, fun H locs cells slots rls hP hS hc hs hl => ?_⟩) h2
    have K := K H locs cells slots rls hP hS hc hs hl
    unfold z_al at hal
    cases h1 : Nat.blt a 1000 with
    | true =>
      rw [h1, cond_true] at hal
      have h1 := Nat.ble_eq.mp h1
      cases h3 : (Nat.blt a z && Nat.ble (z_SH a).1 3) with
      | false => rw [h3] at hal; cases hal
      | true =>
        rw [h3, cond_true] at hal
        simp only [Bool.and_eq_true] at h3
        have a2 : a < z := Nat.ble_eq.mp h3.1
        have a3 := Nat.ble_eq.mp h3.2
        have hn : (z_SH a).2 = n := Option.some.inj hal
        rw [List.map_cons, z_tr_ref h1]
        obtain ⟨k, hk⟩ : ∃ k, (z_SH a).1 = k := ⟨_, rfl⟩
        rw [hk] at a3
        have hsh : z_SH a = (k, n) := by rw [← hk, ← hn]
        match k, a3 with
        | 0, _ => exact va_alen (x := (n, .inl (σ.1 a))) hx hb hF.1 hP a 0 (by rw [z_wl_at a2, z_e_0 hsh]) (ty := .int) rfl rfl hd K
        | 1, _ => exact va_alen (x := (n, .inr (.inl (σ.2.1 a)))) hx hb hF.1 hP a 1 (by rw [z_wl_at a2, z_e_1 hsh]) (ty := .long) rfl rfl hd K
        | 2, _ => exact va_alen (x := (n, .inl (σ.1 a))) hx hb hF.1 hP a 2 (by rw [z_wl_at a2, z_e_2 hsh]) (ty := .boolean) rfl rfl hd K
        | 3, _ => exact va_alen (x := (n, .inr (.inr (.inr (.inr (fun j => z_ro x (σ.2.2 a j))))))) hx hb hF.1 hP a 3 (by rw [z_wl_at a2, z_e_3 hsh]) (ty := .array .int) rfl rfl hd K
        | k + 4, q => omega
    | false =>
      rw [h1, cond_false] at hal
      obtain ⟨-, ⟨-, h2', g2⟩, ⟨-, h3', g3⟩, -, -, h6, -, ⟨h8, h8'⟩, -, -, h11, -⟩ := hF
      cases hi : z_roI E a with
      | some q =>
        obtain ⟨N, f⟩ := q
        rw [hi] at hal
        have hn : N = n := Option.some.inj hal
        subst hn
        rcases z_roI_inv hi with ⟨rfl, rfl, rfl⟩ | ⟨rfl, rfl, rfl⟩ | ⟨rfl, rfl⟩
        · exact va_slen hx hb h2' (by omega) (by show ¬ x.1 ≤ _; omega) hS hd K
        · exact va_slen hx hb h3' (by omega) (by show ¬ x.1 ≤ _; omega) hS hd K
        · exact va_slen hx hb h8 (by omega) (by show ¬ x.1 ≤ _; omega) hS hd K
      | none =>
        rw [hi] at hal
        cases hj : z_roB a with
        | none => rw [hj] at hal; cases hal
        | some q =>
          obtain ⟨N, f⟩ := q
          rw [hj] at hal
          have hn : N = n := Option.some.inj hal
          subst hn
          rcases z_roB_inv hj with ⟨rfl, rfl, rfl⟩ | ⟨rfl, rfl, rfl⟩
          · exact va_tlen hx hb (h6.1 0 (by decide)).2.2.2 hS rfl hd K
          · exact va_tlen hx hb (h6.1 1 (by decide)).2.2.2 hS rfl hd K
end SIMD
