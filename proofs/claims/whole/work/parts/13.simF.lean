-- STEPS: arrays of arrays, copies, calls
section SIMF
variable {p : Program} {l : Launch} {e : Env} {R : Room} {s : State} {m : MethodId} {args : Array Value} {below : List Frame} {meth : Method} {c : Code} {Q : State → Prop} {x : zX} {E : zE} {M : zM} {d z0 : Nat} {res : zR}
variable {pc : Nat} {ls : zL} {st : List Value} {z : Nat} {σ : zS} {y : zP ⊕ zR} {ts : List Nat} {idx : Nat} {cv : Value}
theorem z_SL_run {k : Nat} : ∀ (n a : Nat), (∀ j, j < n → (z_SH (a + j)).2 = k) → z_SL (a + n) = z_SL a + n * k := by
  intro n
  induction n with
  | zero => intro a _; simp
  | succ n ih =>
    intro a h
    have h1 := ih a (fun j hj => h j (by omega))
    show z_SL (a + n) + (z_SH (a + n)).2 = _
    rw [h1, h n (by omega), Nat.succ_mul]
    omega
theorem z_mn (X : z_Fx p R s m args meth c x E M d z0 res) {dm : Nat} (hd : decode M.2.1 pc = .ok (.multianewarray idx dm, 4)) (ok : (z_T (.classLink M.1.cls idx "[[I") && z_T (.arrayClass .int) && Nat.beq dm 2) = true) {n k : Int32} {r : List Value} (hz : z + 1 + n.toNatClampNeg ≤ res.2.1)
    (hck : (Nat.beq dm 2 && decide (0 ≤ n) && decide (0 ≤ k) && Nat.ble n.toNatClampNeg 1000 && Nat.ble k.toNatClampNeg 1000 && Nat.beq (z_SH z).1 3 && Nat.beq (z_SH z).2 n.toNatClampNeg && (List.range n.toNatClampNeg).all (fun j => Nat.beq (z_SH (z + 1 + j)).1 0 && Nat.beq (z_SH (z + 1 + j)).2 k.toNatClampNeg) && Nat.blt (z + n.toNatClampNeg) 1000) = true)
    (K : z_W p l e R s m args below meth c Q x M z0 (pc + 4) ls (.ref z :: r) (z + 1 + n.toNatClampNeg) (z_newM z σ n.toNatClampNeg)) : z ≤ z + 1 + n.toNatClampNeg ∧ z_W p l e R s m args below meth c Q x M z0 pc ls (.int k :: .int n :: r) z σ := by
  have X' := X
  obtain ⟨hx, hb, hml, hown, hts, hF, hsz, -, -, hRc, hRs, -⟩ := X
  simp only [Bool.and_eq_true, decide_eq_true_eq, List.all_eq_true, List.mem_range] at hck ok
  obtain ⟨⟨⟨⟨⟨⟨⟨⟨k0, kn⟩, kk⟩, kn1⟩, kk1⟩, k1⟩, k2⟩, k3⟩, k4⟩ := hck
  have k0 := Nat.eq_of_beq_eq_true k0
  subst k0
  obtain ⟨⟨o1, o2⟩, -⟩ := ok
  have k1 := Nat.eq_of_beq_eq_true k1
  have k2 := Nat.eq_of_beq_eq_true k2
  have k4 : z + n.toNatClampNeg < 1000 := Nat.ble_eq.mp k4
  have kn1 : n.toNatClampNeg ≤ 1000 := Nat.ble_eq.mp kn1
  have kk1 : k.toNatClampNeg ≤ 1000 := Nat.ble_eq.mp kk1
  have hi : ∀ j, j < n.toNatClampNeg → z_SH (z + 1 + j) = (0, k.toNatClampNeg) := fun j hj => Prod.ext (Nat.eq_of_beq_eq_true (k3 j hj).1) (Nat.eq_of_beq_eq_true (k3 j hj).2)
  have hsh : z_SH z = (3, n.toNatClampNeg) := Prod.ext k1 k2
  refine ⟨by omega, fun H locs cells slots rls hP hS hc hs hl => z_size X' hP hS hc fun hH => ?_⟩
  have hsl : z_SL (z + 1 + n.toNatClampNeg) ≤ z_SL res.2.1 := z_SL_mono hz
  have hsl2 : z_SL (z + 1 + n.toNatClampNeg) = z_SL z + n.toNatClampNeg + n.toNatClampNeg * k.toNatClampNeg := by
    rw [z_SL_run n.toNatClampNeg (z + 1) (fun j hj => by rw [hi j hj])]
    show z_SL z + (z_SH z).2 + _ = _
    rw [k2]
  refine z_multi hx hb hown (hts _ (z_T_in o1)) hF.2.2.2.2.2.2.2.2.2.1 (hts _ (z_T_in o2)) (n := n) (k := k) (rest := r.map (z_tr x)) (g := F0 m pc rls (.int k :: .int n :: r.map (z_tr x))) rfl hd rfl (Int32.not_lt.mpr kn) (Int32.not_lt.mpr kk) kn1 kk1 (by omega) (by omega) fun cA comp H1 fA fC f1 f2 hrow hold => ?_
  have eA : cA = x.2.2.1 3 := Option.some.inj (fA.symm.trans (hF.1.2 3 _ rfl).2)
  have eC : comp = x.2.2.1 0 := Option.some.inj (fC.symm.trans (hF.1.2 0 _ rfl).2)
  subst eA eC
  unfold z_mo at f2
  have hP1 : va_P x.2.1 vwCl (z_wl x (z + 1 + n.toNatClampNeg) (z_newM z σ n.toNatClampNeg)) H1 := by
    refine z_wl_new hP hold (fun a ha => z_e_off (z_zr_lt ha) (z_zr_lt ha) ((z_ur_ne _ _ (by omega)).trans (z_zr_lt ha))) (fun a h1 h2 => ?_)
    rcases Nat.eq_or_lt_of_le h1 with ea | ea
    · subst ea
      rw [z_e_3 hsh]
      show H1[x.1 + z]? = some (vp_cell _ _)
      rw [← hH, f2, vp_cell_q]
      refine congrArg some (z_arr_ext fun j hj => ?_)
      rw [if_pos hj, z_ro_rf hF.2.2.2.2.2.2.2.2.2.2.2]
      show _ = z_tr x (z_rv (z_ur (z_zr σ.2.2 z none) z (fun j => some (z + 1 + j)) z j))
      rw [z_ur_at]
      show _ = z_tr x (.ref (z + 1 + j))
      rw [z_tr_ref (by omega), show H.size + 1 + j = x.1 + (z + 1 + j) by omega]
    · obtain ⟨j, rfl⟩ : ∃ j, a = z + 1 + j := ⟨a - (z + 1), by omega⟩
      rw [z_e_0 (hi j (by omega))]
      show H1[x.1 + (z + 1 + j)]? = some (vp_cell _ _)
      rw [show x.1 + (z + 1 + j) = H.size + 1 + j by omega, hrow j (by omega), vp_cell_i]
      show some ({ cls := x.2.2.1 0, slots := Array.replicate k.toNatClampNeg (Value.int 0), vm := .none } : Cell) = _
      rw [arrV_new]
      refine congrArg some (z_arr_ext fun i hi => ?_)
      show Value.int 0 = Value.int (z_zr σ.1 z 0 (z + 1 + j) i)
      rw [z_zr_ge (by omega)]
  have hS1 : va_S (z_B x) s.heap H1 locs := ⟨Nat.le_trans hS.1 (by omega), fun q h1 h2 => (hold q (Nat.lt_of_lt_of_le h1 hS.1)).trans (hS.2.1 q h1 h2), hS.2.2⟩
  have K := K H1 locs (cells + 1 + n.toNatClampNeg) (slots + n.toNatClampNeg + n.toNatClampNeg * k.toNatClampNeg) rls hP1 hS1 (by omega) (by omega) hl
  rw [List.map_cons, z_tr_ref (by omega), ← hH] at K
  exact K
theorem z_cp (X : z_Fx p R s m args meth c x E M d z0 res) (hd : decode M.2.1 pc = .ok (.invokestatic idx, 3)) (ok : (z_T (.methodLink M.1.cls idx arraycopyName) && z_T (.native arraycopyName) && z_T (.static arraycopyName) && z_T (.initialized "java/lang/System")) = true)
    (h : (z_pI st fun n st => z_pI st fun dp st => z_pA st fun d st => z_pI st fun sp st => z_pA st fun s st => z_ck (Nat.ble (z_cs st) 8) (z_copy E z σ s d sp dp n fun z σ => z_go (pc + 3) ls st z σ)) = some y) : z_Step p l e R s m args below meth c Q x M z0 pc ls st z σ y := by
  obtain ⟨hx, hb, hml, hown, hts, hF, hsz, hfr, hlo, -⟩ := X
  obtain ⟨n, r1, e1, h1⟩ := z_pI_inv h
  obtain ⟨dp, r2, e2, h2⟩ := z_pI_inv h1
  obtain ⟨a, r3, e3, h3⟩ := z_pA_inv h2
  obtain ⟨sp, r4, e4, h4⟩ := z_pI_inv h3
  obtain ⟨b, r5, e5, h5⟩ := z_pA_inv h4
  obtain ⟨hcs, h6⟩ := z_ck_inv h5
  clear h h1 h2 h3 h4 h5
  subst e1 e2 e3 e4 e5
  have hcs := Nat.ble_eq.mp hcs
  simp only [Bool.and_eq_true] at ok
  obtain ⟨⟨⟨o1, o2⟩, o3⟩, o4⟩ := ok
  unfold z_copy at h6
  cases hia : z_ia E z σ b with
  | none => rw [hia] at h6; cases h6
  | some q =>
    obtain ⟨N, f⟩ := q
    rw [hia] at h6
    obtain ⟨hk, h7⟩ := z_ck_inv h6
    simp only [Bool.and_eq_true, decide_eq_true_eq] at hk
    obtain ⟨⟨⟨⟨⟨k1, k2⟩, k3⟩, k4⟩, k5⟩, k6⟩ := hk
    have k5 := Nat.ble_eq.mp k5
    have k6 := Nat.ble_eq.mp k6
    obtain ⟨a1, a2, a3⟩ := z_isA_inv k1
    have hf1 := z_f1 hF.2.2.2.2.2.2.2.2.2.2.2
    refine z_goS (fun K => ⟨Nat.le_refl _, fun H locs cells slots rls hP hS hc hs hl => ?_⟩) h7
    have hset : (z_wl x z σ).set a (x.1 + a, .inl (x.2.2.1 0, (z_SH a).2, .inl (va_cpy f (σ.1 a) sp.toNatClampNeg dp.toNatClampNeg n.toNatClampNeg))) = z_wl x z (z_ur σ.1 a (va_cpy f (σ.1 a) sp.toNatClampNeg dp.toNatClampNeg n.toNatClampNeg), σ.2.1, σ.2.2) := z_wl_set a2 (by rw [z_e_0 a3]; exact congrArg (fun t => Sum.inl (x.2.2.1 0, (z_SH a).2, Sum.inl t)) (z_ur_at _ _ _)) (fun b hb => z_e_off (z_ur_ne _ _ hb) rfl rfl)
    have hlc : ((r5.map (z_tr x)).map fun v => v.category).sum + (nativeFrameWords "java/lang/System" "arraycopy" 5 + 11) ≤ R.locals := by
      rw [z_cs_eq hf1]
      have : nativeFrameWords "java/lang/System" "arraycopy" 5 ≤ 40 := by decide +kernel
      omega
    have hmx : c.maxLocals = rls.size := by rw [hml]; exact hl.1.symm
    rw [List.map_cons, List.map_cons, List.map_cons, List.map_cons, List.map_cons, z_tr_ref a1]
    have KK : ∀ (H1 : Heap) (locs1 : List Loc), va_P x.2.1 vwCl ((z_wl x z σ).set a (x.1 + a, .inl (x.2.2.1 0, (z_SH a).2, .inl (va_cpy f (σ.1 a) sp.toNatClampNeg dp.toNatClampNeg n.toNatClampNeg)))) H1 → va_D (z_B x) ((z_wl x z σ).set a (x.1 + a, .inl (x.2.2.1 0, (z_SH a).2, .inl (va_cpy f (σ.1 a) sp.toNatClampNeg dp.toNatClampNeg n.toNatClampNeg)))) → va_S (z_B x) s.heap H1 locs1 → W p l e R s m args below meth c H1 locs1 cells slots Q (F0 m (pc + 3) rls (r5.map (z_tr x))) := fun H1 locs1 hP1 _ hS1 => by
      rw [hset] at hP1
      exact K H1 locs1 cells slots rls hP1 hS1 hc hs hl
    rcases z_ia_inv hia with ⟨b1, b2, b3, rfl⟩ | ⟨b1, b2⟩
    · rw [z_tr_ref b1]
      exact va_copyi hx hb hmx hown (hts _ (z_T_in o1)) (hts _ (z_T_in o2)) (hts _ (z_T_in o3)) (hts _ (z_T_in o4)) hF.1 hP z_wl_D hS b a 0 0 (by rw [z_wl_at b2, z_e_0 b3]) (by rw [z_wl_at a2, z_e_0 a3]) (ty := .int) rfl rfl rfl (Int32.not_lt.mpr k2) (Int32.not_lt.mpr k3) (Int32.not_lt.mpr k4) k5 k6 (fun i _ => rfl) (by omega) hlc hd KK
    · obtain ⟨hF1, ⟨-, h2', g2⟩, ⟨-, h3', g3⟩, -, -, -, -, ⟨h8, h8'⟩, -, -, h11, -⟩ := hF
      rcases z_roI_inv b2 with ⟨rfl, rfl, rfl⟩ | ⟨rfl, rfl, rfl⟩ | ⟨rfl, rfl⟩
      · exact va_copyx hx hb hmx hown (hts _ (z_T_in o1)) (hts _ (z_T_in o2)) (hts _ (z_T_in o3)) (hts _ (z_T_in o4)) hF1 hP z_wl_D hS h2' (by omega) (by show ¬ x.1 ≤ _; omega) a 0 (by rw [z_wl_at a2, z_e_0 a3]) rfl (Int32.not_lt.mpr k2) (Int32.not_lt.mpr k3) (Int32.not_lt.mpr k4) k5 k6 (by omega) hlc hd KK
      · exact va_copyx hx hb hmx hown (hts _ (z_T_in o1)) (hts _ (z_T_in o2)) (hts _ (z_T_in o3)) (hts _ (z_T_in o4)) hF1 hP z_wl_D hS h3' (by omega) (by show ¬ x.1 ≤ _; omega) a 0 (by rw [z_wl_at a2, z_e_0 a3]) rfl (Int32.not_lt.mpr k2) (Int32.not_lt.mpr k3) (Int32.not_lt.mpr k4) k5 k6 (by omega) hlc hd KK
      · exact va_copyx hx hb hmx hown (hts _ (z_T_in o1)) (hts _ (z_T_in o2)) (hts _ (z_T_in o3)) (hts _ (z_T_in o4)) hF1 hP z_wl_D hS h8 (by omega) (by show ¬ x.1 ≤ _; omega) a 0 (by rw [z_wl_at a2, z_e_0 a3]) rfl (Int32.not_lt.mpr k2) (Int32.not_lt.mpr k3) (Int32.not_lt.mpr k4) k5 k6 (by omega) hlc hd KK
end SIMF
