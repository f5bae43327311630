-- STEPS: fields and arrays
section SIMC
variable {p : Program} {l : Launch} {e : Env} {R : Room} {s : State} {m : MethodId} {args : Array Value} {below : List Frame} {meth : Method} {c : Code} {Q : State → Prop} {x : zX} {E : zE} {M : zM} {d z0 : Nat} {res : zR}
variable {pc : Nat} {ls : zL} {st : List Value} {z : Nat} {σ : zS} {y : zP ⊕ zR} {ts : List Nat} {idx : Nat}
theorem z_gf (X : z_Fx p R s m args meth c x E M d z0 res) (hd : decode M.2.1 pc = .ok (.getfield idx, 3)) (ok : z_okF M.1.cls idx ts = true)
    (h : (z_t2 ts fun ci fk => z_pA st fun a st => bif Nat.blt ci 12 then z_ck (z_isO z σ a ci) (z_go (pc + 3) ls (z_fv ci fk z σ a :: st) z σ) else z_str fk a fun v => z_go (pc + 3) ls (v :: st) z σ) = some y) : z_Step p l e R s m args below meth c Q x M z0 pc ls st z σ y := by
  obtain ⟨hx, hb, hml, hown, hts, hF, -⟩ := X
  obtain ⟨ci, fk, ee, hh⟩ := z_t2_inv h
  clear h
  subst ee
  have h := hh
  clear hh
  obtain ⟨a, r, ee, hh⟩ := z_pA_inv h
  clear h
  subst ee
  have h := hh
  clear hh
  unfold z_okF at ok
  dsimp only at ok
  by_cases hci : ci < 12
  · rw [show Nat.blt ci 12 = true from Nat.ble_eq.mpr hci] at h
    obtain ⟨h1, hh⟩ := z_ck_inv h
    clear h
    have h := hh
    obtain ⟨a1, a2, a3, -⟩ := z_isO_inv h1
    refine z_goS (fun K => ⟨Nat.le_refl _, fun H locs cells slots rls hP hS hc hs hl => ?_⟩) h
    obtain ⟨q, c1, c2, c3, c4, c5⟩ := z_cls ci hci
    rw [c1] at ok
    simp only [Bool.and_eq_true, decide_eq_true_eq] at ok
    obtain ⟨⟨⟨⟨o1, o2⟩, o3⟩, -⟩, -⟩ := ok
    have o3 : fk < q.2.2 := Nat.ble_eq.mp o3
    rw [List.map_cons, z_tr_ref a1]
    exact va_get (C := q.1) (T := q.2.1) (N := q.2.2) (ci := ci) (ref := q.1) hx hb hts (z_inG c3) hown hF.1 hP a (by rw [z_wl_at a2, z_e_obj a3]) c1 fk o3 (hts _ (z_T_in o1)) (by rw [o2]; exact fun _ h => h) (v := z_tr x (z_fv ci fk z σ a)) (by rw [List.getElem?_map, List.getElem?_range (by rw [← c2]; exact o3)]; rfl) hd (K H locs cells slots rls hP hS hc hs hl)
  · have hn : Nat.blt ci 12 = false := by
      cases hq : Nat.blt ci 12 with
      | false => rfl
      | true => exact absurd (Nat.ble_eq.mp hq) hci
    rw [hn, cond_false] at h
    have hq : vwCl[ci]? = none := List.getElem?_eq_none (Nat.not_lt.mp hci)
    rw [hq] at ok
    simp only [Bool.and_eq_true, Bool.or_eq_true] at ok
    obtain ⟨ha, hh⟩ := z_str_inv h
    clear h
    have h := hh
    obtain ⟨-, -, -, -, -, h6, -⟩ := hF
    have hd' := hd
    rcases ok.2 with ⟨o1, o2⟩ | ⟨o1, o2⟩
    · have o1 := Nat.eq_of_beq_eq_true o1
      subst o1
      rcases h with ⟨-, h⟩ | ⟨h, -⟩
      · refine z_goS (fun K => ⟨Nat.le_refl _, fun H locs cells slots rls hP hS hc hs hl => ?_⟩) h
        have K := K H locs cells slots rls hP hS hc hs hl
        rcases ha with rfl | rfl
        · exact vk_getf hx hb (h6.1 0 (by decide)).2.2.1 hS hown (hts _ (z_T_in o2)) (fun _ h => h) hd K
        · exact vk_getf hx hb (h6.1 1 (by decide)).2.2.1 hS hown (hts _ (z_T_in o2)) (fun _ h => h) hd K
      · exact absurd rfl h
    · have o1 := Nat.eq_of_beq_eq_true o1
      subst o1
      rcases h with ⟨h, -⟩ | ⟨-, h⟩
      · cases h
      · refine z_goS (fun K => ⟨Nat.le_refl _, fun H locs cells slots rls hP hS hc hs hl => ?_⟩) h
        have K := K H locs cells slots rls hP hS hc hs hl
        rcases ha with rfl | rfl
        · exact vk_getf hx hb (h6.1 0 (by decide)).2.1 hS hown (hts _ (z_T_in o2)) (fun _ h => h) hd K
        · exact vk_getf hx hb (h6.1 1 (by decide)).2.1 hS hown (hts _ (z_T_in o2)) (fun _ h => h) hd K
/-- a field is written: the machine's row for both sorts of fields -/
theorem z_pf1 (X : z_Fx p R s m args meth c x E M d z0 res) (hd : decode M.2.1 pc = .ok (.putfield idx, 3)) (ini : M.2.2.2.2.1 = true → M.2.2.2.2.2.1 < 12 → M.1.cls = z_cn M.2.2.2.2.2.1) {ci fk a : Nat} (ok : z_okF M.1.cls idx [ci, fk] = true) (hci : ci < 12) (hm : z_may M ci fk = true) (ho : z_isO z σ a ci = true) {τ : zS} {v : Value} {r : List Value}
    (hn : narrow (z_ty ci fk) (z_tr x v) = z_tr x v) (hf : fits (z_ty ci fk) (z_tr x v) = true) (he : z_tr x (z_fv ci fk 0 τ a) = z_tr x v) (hj : ∀ j, j ≠ fk → z_fv ci j 0 τ a = z_fv ci j 0 σ a) (hb' : ∀ b, b ≠ a → z_e x τ b = z_e x σ b)
    (K : z_W p l e R s m args below meth c Q x M z0 (pc + 3) ls r z τ) : z ≤ z ∧ z_W p l e R s m args below meth c Q x M z0 pc ls (v :: .ref a :: r) z σ := by
  obtain ⟨hx, hb, hml, hown, hts, hF, -, -, -, -, -, hin⟩ := X
  obtain ⟨a1, a2, a3, -⟩ := z_isO_inv ho
  refine ⟨Nat.le_refl _, fun H locs cells slots rls hP hS hc hs hl => ?_⟩
  unfold z_okF at ok
  dsimp only at ok
  obtain ⟨q, c1, c2, c3, c4, c5⟩ := z_cls ci hci
  rw [c1] at ok
  simp only [Bool.and_eq_true, decide_eq_true_eq] at ok
  obtain ⟨⟨⟨⟨o1, o2⟩, o3⟩, -⟩, -⟩ := ok
  have o3 : fk < q.2.2 := Nat.ble_eq.mp o3
  have o4 : fk < z_nf ci := by rw [← c2]; exact o3
  have hset : (z_wl x z σ).set a (x.1 + a, .inr (ci, ((List.range (z_nf ci)).map (fun k => z_tr x (z_fv ci k 0 σ a))).set fk (z_tr x v))) = z_wl x z τ := z_wl_set a2 (by rw [z_e_obj a3, z_fs_put o4 he hj]) hb'
  rw [List.map_cons, List.map_cons, z_tr_ref a1]
  cases hfin : (q.2.1 fk).2.2.2 with
  | false =>
    refine va_put (C := q.1) (T := q.2.1) (N := q.2.2) (ci := ci) (ref := q.1) hx hb hts (z_inG c3) (z_ty ci) c4 c5 hown hF.1 hP z_wl_D hS a (by rw [z_wl_at a2, z_e_obj a3]) c1 fk o3 (hts _ (z_T_in o1)) (by rw [o2]; exact fun _ h => h) hfin (c4 fk o3) hn hf (by simp [o4]) hd (fun H1 locs1 hP1 _ hS1 => ?_)
    rw [hset] at hP1
    exact K H1 locs1 cells slots rls hP1 hS1 hc hs hl
  | true =>
    have hm2 : M.2.2.2.2.1 = true ∧ M.2.2.2.2.2.1 = ci := by
      unfold z_may z_fin at hm
      rw [c1] at hm
      dsimp only at hm
      rw [hfin] at hm
      simp only [Bool.not_true, Bool.false_or, Bool.and_eq_true] at hm
      exact ⟨hm.1, Nat.eq_of_beq_eq_true hm.2⟩
    have hcl : M.1.cls = q.1 := by
      rw [ini hm2.1 (by rw [hm2.2]; exact hci), hm2.2]
      unfold z_cn
      rw [c1]
    refine va_putF (C := q.1) (T := q.2.1) (N := q.2.2) (ci := ci) (ref := q.1) hx hb hts (z_inG c3) (z_ty ci) c4 c5 hown hF.1 hP z_wl_D hS a (by rw [z_wl_at a2, z_e_obj a3]) c1 fk o3 (hts _ (z_T_in o1)) (by rw [o2]; exact fun _ h => h) hfin (hin hm2.1) (by rw [o2, hcl]) (c4 fk o3) hn hf (by simp [o4]) hd (fun H1 locs1 hP1 _ hS1 => ?_)
    rw [hset] at hP1
    exact K H1 locs1 cells slots rls hP1 hS1 hc hs hl
theorem z_pf (X : z_Fx p R s m args meth c x E M d z0 res) (hd : decode M.2.1 pc = .ok (.putfield idx, 3)) (ini : M.2.2.2.2.1 = true → M.2.2.2.2.2.1 < 12 → M.1.cls = z_cn M.2.2.2.2.2.1) (ok : z_okF M.1.cls idx ts = true)
    (h : (z_t2 ts fun ci fk => z_put M ci fk st z σ fun st z σ => z_go (pc + 3) ls st z σ) = some y) : z_Step p l e R s m args below meth c Q x M z0 pc ls st z σ y := by
  obtain ⟨ci, fk, ee, hh⟩ := z_t2_inv h
  clear h
  subst ee
  have h := hh
  clear hh
  have hf := z_f1 X.2.2.2.2.2.1.2.2.2.2.2.2.2.2.2.2.2
  have hc : ∀ {a : Nat}, z_isO z σ a ci = true → ci < 12 := fun h => (z_isO_inv h).2.2.2
  have hk : ci < 12 → fk < z_nf ci := fun hci => by
    unfold z_okF at ok
    dsimp only at ok
    obtain ⟨q, c1, c2, -⟩ := z_cls ci hci
    rw [c1] at ok
    simp only [Bool.and_eq_true] at ok
    rw [← c2]
    exact Nat.ble_eq.mp ok.1.1.2
  unfold z_put at h
  split at h
  · rename_i hft
    obtain ⟨v, r, ee, hh⟩ := z_pI_inv h
    clear h
    subst ee
    have h := hh
    clear hh
    obtain ⟨a, r, ee, hh⟩ := z_pA_inv h
    clear h
    subst ee
    have h := hh
    clear hh
    obtain ⟨h1, hh⟩ := z_ck_inv h
    clear h
    have h := hh
    simp only [Bool.and_eq_true] at h1
    have hci := hc h1.1
    have ht := z_ftk_0 ((z_fty ci hci fk (hk hci)).trans hft)
    refine z_goS (fun K => ?_) h
    refine z_pf1 X hd ini ok hci h1.2 h1.1 (v := .int v) (τ := z_sI σ a fk v) (by rw [ht]; rfl) (by rw [ht]; rfl) ?_ ?_ ?_ K
    · unfold z_fv; rw [hft]; show z_tr x (.int (z_u2 σ.1 a fk v a fk)) = _; simp [z_u2]
    · intro j hj; unfold z_fv z_sI; simp [z_u2, hj]
    · intro b hb; exact z_e_off (z_u2_ne _ _ _ hb) rfl rfl
  · rename_i hft
    obtain ⟨v, r, ee, hh⟩ := z_pI_inv h
    clear h
    subst ee
    have h := hh
    clear hh
    obtain ⟨a, r, ee, hh⟩ := z_pA_inv h
    clear h
    subst ee
    have h := hh
    clear hh
    obtain ⟨h1, hh⟩ := z_ck_inv h
    clear h
    have h := hh
    simp only [Bool.and_eq_true] at h1
    have hci := hc h1.1.1
    have ht := z_ftk_1 ((z_fty ci hci fk (hk hci)).trans hft)
    have hv := z_b01_n h1.2
    refine z_goS (fun K => ?_) h
    refine z_pf1 X hd ini ok hci h1.1.2 h1.1.1 (v := .int v) (τ := z_sI σ a fk v) (by rw [ht]; exact hv.1) (by rw [ht]; exact hv.2.1) ?_ ?_ ?_ K
    · unfold z_fv; rw [hft]; show z_tr x (.int (z_u2 σ.1 a fk v a fk)) = _; simp [z_u2]
    · intro j hj; unfold z_fv z_sI; simp [z_u2, hj]
    · intro b hb; exact z_e_off (z_u2_ne _ _ _ hb) rfl rfl
  · rename_i hft
    obtain ⟨v, r, ee, hh⟩ := z_pJ_inv h
    clear h
    subst ee
    have h := hh
    clear hh
    obtain ⟨a, r, ee, hh⟩ := z_pA_inv h
    clear h
    subst ee
    have h := hh
    clear hh
    obtain ⟨h1, hh⟩ := z_ck_inv h
    clear h
    have h := hh
    simp only [Bool.and_eq_true] at h1
    have hci := hc h1.1
    have ht := z_ftk_2 ((z_fty ci hci fk (hk hci)).trans hft)
    refine z_goS (fun K => ?_) h
    refine z_pf1 X hd ini ok hci h1.2 h1.1 (v := .long v) (τ := z_sJ σ a fk v) (by rw [ht]; rfl) (by rw [ht]; rfl) ?_ ?_ ?_ K
    · unfold z_fv; rw [hft]; show z_tr x (.long (z_u2 σ.2.1 a fk v a fk)) = _; simp [z_u2]
    · intro j hj; unfold z_fv z_sJ; simp [z_u2, hj]
    · intro b hb; exact z_e_off rfl (z_u2_ne _ _ _ hb) rfl
  · rename_i n0 n1 n2
    obtain ⟨v, r, ee, hh, hv⟩ := z_pR_inv h
    clear h
    subst ee
    have h := hh
    clear hh
    obtain ⟨a, r, ee, hh⟩ := z_pA_inv h
    clear h
    subst ee
    have h := hh
    clear hh
    obtain ⟨h1, hh⟩ := z_ck_inv h
    clear h
    have h := hh
    simp only [Bool.and_eq_true] at h1
    have hci := hc h1.1
    have hft : z_ft ci fk = 3 := by
      have := z_ft_4 ci hci fk (hk hci)
      have a0 : z_ft ci fk ≠ 0 := fun q => n0 q
      have a1 : z_ft ci fk ≠ 1 := fun q => n1 q
      have a2 : z_ft ci fk ≠ 2 := fun q => n2 q
      omega
    have ht := z_ftk_3 ((z_fty ci hci fk (hk hci)).trans hft)
    have hvr : z_tr x (z_rv v) = .null ∨ ∃ q, z_tr x (z_rv v) = .ref q := by
      cases v with
      | none => exact Or.inl rfl
      | some b => exact Or.inr ⟨_, z_tr_ref (hv b rfl)⟩
    refine z_goS (fun K => ?_) h
    refine z_pf1 X hd ini ok hci h1.2 h1.1 (v := z_rv v) (τ := z_sR σ a fk v) ?_ ?_ ?_ ?_ ?_ K
    · rcases ht with ⟨n, ht⟩ | ⟨n, ht⟩ <;> rw [ht] <;> rcases hvr with q | ⟨b, q⟩ <;> rw [q] <;> rfl
    · rcases ht with ⟨n, ht⟩ | ⟨n, ht⟩ <;> rw [ht] <;> rcases hvr with q | ⟨b, q⟩ <;> rw [q] <;> rfl
    · unfold z_fv; rw [hft]; show z_tr x (z_rv (z_u2 σ.2.2 a fk v a fk)) = _; simp [z_u2]
    · intro j hj; unfold z_fv z_sR; simp [z_u2, hj]
    · intro b hb; exact z_e_off rfl rfl (z_u2_ne _ _ _ hb)
end SIMC
