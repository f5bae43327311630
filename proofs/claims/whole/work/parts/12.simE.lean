-- STEPS: constants, statics, new cells, copies
theorem z_arr_ext {cA : ClassId} {N : Nat} {f g : Nat → Value} (h : ∀ j, j < N → f j = g j) : arrV cA N f = arrV cA N g := by
  unfold arrV
  congr 1
  apply Array.ext_getElem?
  intro j
  by_cases hj : j < N
  · simp [hj, h j hj]
  · simp [hj]
theorem z_wl_new {x : zX} {z z' : Nat} {σ τ : zS} {H H1 : Heap} (hP : va_P x.2.1 vwCl (z_wl x z σ) H) (hk : ∀ q, q < H.size → H1[q]? = H[q]?) (ho : ∀ a, a < z → z_e x τ a = z_e x σ a) (hn : ∀ a, z ≤ a → a < z' → va_at x.2.1 vwCl (x.1 + a, z_e x τ a) H1) : va_P x.2.1 vwCl (z_wl x z' τ) H1 := by
  intro k q hq
  obtain ⟨h1, rfl⟩ := z_wl_inv hq
  rcases Nat.lt_or_ge k z with h | h
  · have := hP k _ (z_wl_at h)
    rw [ho k h]
    exact this.kept (hk _ this.lt)
  · exact hn k h h1
theorem z_zr_lt {α : Type} {f : Nat → Nat → α} {a b : Nat} {v : α} (h : b < a) : z_zr f a v b = f b := by funext j; simp [z_zr, Nat.not_le.mpr h]
theorem z_zr_ge {α : Type} {f : Nat → Nat → α} {a b : Nat} {v : α} (h : a ≤ b) : z_zr f a v b = fun _ => v := by funext j; simp [z_zr, h]
section SIME
variable {p : Program} {l : Launch} {e : Env} {R : Room} {s : State} {m : MethodId} {args : Array Value} {below : List Frame} {meth : Method} {c : Code} {Q : State → Prop} {x : zX} {E : zE} {M : zM} {d z0 : Nat} {res : zR}
variable {pc : Nat} {ls : zL} {st : List Value} {z : Nat} {σ : zS} {y : zP ⊕ zR} {ts : List Nat} {idx : Nat} {cv : Value}
theorem z_size {H : Heap} {locs : List Loc} {cells slots : Nat} {g : JFrame} (X : z_Fx p R s m args meth c x E M d z0 res) (hP : va_P x.2.1 vwCl (z_wl x z σ) H) (hS : va_S (z_B x) s.heap H locs) (hc : cells + z0 = z) (h : H.size = x.1 + z → W p l e R s m args below meth c H locs cells slots Q g) : W p l e R s m args below meth c H locs cells slots Q g := by
  intro T hT Y
  have h0 := X.2.2.2.2.2.2.1
  have h1 : T.heap.size ≤ s.heap.size + cells := Y.same.2.2.1
  have h2 := hS.1
  rw [hT] at h1
  refine h ?_ T hT Y
  rcases Nat.eq_zero_or_pos z with q | q
  · omega
  · have := (hP (z - 1) _ (z_wl_at (by omega))).lt
    have h3 : x.1 + (z - 1) < H.size := this
    omega
theorem z_gs (X : z_Fx p R s m args meth c x E M d z0 res) {q : zI} (hq : q.1 = .getstatic idx) (hd : decode M.2.1 pc = .ok (.getstatic idx, 3)) (ok : (match q.2.2.2 with
    | .int v => decide (v = 1) && z_T (.fieldLink M.1.cls idx "java/lang/String" "COMPACT_STRINGS" "Z")
    | .ref a => (Nat.beq a 1000 && z_T (.fieldLink M.1.cls idx "LampHouse$Rules" "FIRST" "[I")) || (Nat.beq a 1001 && z_T (.fieldLink M.1.cls idx "LampHouse$Things" "ABOVE" "[I")) || (Nat.beq a 1007 && z_T (.fieldLink M.1.cls idx "jdk/internal/util/Preconditions" "SIOOBE_FORMATTER" "Ljava/util/function/BiFunction;"))
    | _ => true) = true) (h : (z_p1 [q.2.2.2] fun v _ => z_go (pc + 3) ls (v :: st) z σ) = some y) : z_Step p l e R s m args below meth c Q x M z0 pc ls st z σ y := by
  obtain ⟨hx, hb, hml, hown, hts, hF, -⟩ := X
  obtain ⟨-, ⟨h2, -⟩, ⟨h3, -⟩, h4, h5, -⟩ := hF
  obtain ⟨v, r, e1, h1, hv⟩ := z_p1_inv h
  have e2 : q.2.2.2 = v := (List.cons.inj e1).1
  rw [e2] at ok
  refine z_goS (fun K => ⟨Nat.le_refl _, fun H locs cells slots rls hP hS hc hs hl => ?_⟩) h1
  have K := K H locs cells slots rls hP hS hc hs hl
  rcases hv with ⟨a, rfl⟩ | ⟨a, rfl⟩
  · simp only [Bool.and_eq_true, decide_eq_true_eq] at ok
    obtain ⟨rfl, o⟩ := ok
    exact va_gets hx hb h4 hS hown (hts _ (z_T_in o)) (fun _ h => h) hd K
  · simp only [Bool.and_eq_true, Bool.or_eq_true] at ok
    rcases ok with (⟨o1, o2⟩ | ⟨o1, o2⟩) | ⟨o1, o2⟩
    · have o1 := Nat.eq_of_beq_eq_true o1
      subst o1
      exact va_gets hx hb h2 hS hown (hts _ (z_T_in o2)) (fun _ h => h) hd K
    · have o1 := Nat.eq_of_beq_eq_true o1
      subst o1
      exact va_gets hx hb h3 hS hown (hts _ (z_T_in o2)) (fun _ h => h) hd K
    · have o1 := Nat.eq_of_beq_eq_true o1
      subst o1
      exact va_gets hx hb h5 hS hown (hts _ (z_T_in o2)) (fun _ h => h) hd K
theorem z_lc (X : z_Fx p R s m args meth c x E M d z0 res) {q : zI} (hd : decode M.2.1 pc = .ok (.ldc idx, 2)) (ok : (match q.2.2.2 with
    | .int v => z_T (.constant M.1.cls idx v)
    | .ref a => (Nat.beq a 1002 && decide (M.1.cls = "LampHouse$Reader") && Nat.beq idx 96) || (Nat.beq a 1004 && decide (M.1.cls = "LampHouse$Reader") && Nat.beq idx 85)
    | _ => true) = true) (h : (z_p1 [q.2.2.2] fun v _ => z_go (pc + 2) ls (v :: st) z σ) = some y) : z_Step p l e R s m args below meth c Q x M z0 pc ls st z σ y := by
  obtain ⟨hx, hb, hml, hown, hts, hF, -⟩ := X
  obtain ⟨-, -, -, -, -, -, ⟨h7, h7'⟩, -⟩ := hF
  obtain ⟨v, r, e1, h1, hv⟩ := z_p1_inv h
  have e2 : q.2.2.2 = v := (List.cons.inj e1).1
  rw [e2] at ok
  refine z_goS (fun K => ⟨Nat.le_refl _, fun H locs cells slots rls hP hS hc hs hl => ?_⟩) h1
  have K := K H locs cells slots rls hP hS hc hs hl
  rcases hv with ⟨a, rfl⟩ | ⟨a, rfl⟩
  · exact lv_ldc hx hb hown (hts _ (z_T_in ok)) hd K
  · simp only [Bool.and_eq_true, Bool.or_eq_true, decide_eq_true_eq] at ok
    rcases ok with ⟨⟨o1, o2⟩, o3⟩ | ⟨⟨o1, o2⟩, o3⟩
    · have o1 := Nat.eq_of_beq_eq_true o1
      have o3 := Nat.eq_of_beq_eq_true o3
      subst o1 o3
      rw [o2] at hown
      exact va_ldcS hx hb hown h7 hd K
    · have o1 := Nat.eq_of_beq_eq_true o1
      have o3 := Nat.eq_of_beq_eq_true o3
      subst o1 o3
      rw [o2] at hown
      exact va_ldcS hx hb hown h7' hd K
theorem z_nw (X : z_Fx p R s m args meth c x E M d z0 res) {ci : Nat} (hd : decode M.2.1 pc = .ok (.new idx, 3)) (ok : (match vwCl[ci]? with
      | some c => z_T (.classLink M.1.cls idx c.1) && z_T (.instantiable c.1 c.2.2) && z_T (.initialized c.1) && Nat.beq c.2.2 (z_nf ci)
      | none => Nat.beq ci 99) = true) (hz : z + 1 ≤ res.2.1) (hck : (Nat.beq (z_SH z).1 (ci + 4) && Nat.beq (z_SH z).2 (z_nf ci) && Nat.blt ci 12 && Nat.blt z 1000) = true) (K : z_W p l e R s m args below meth c Q x M z0 (pc + 3) ls (.ref z :: st) (z + 1) (z_new1 z σ)) : z ≤ z + 1 ∧ z_W p l e R s m args below meth c Q x M z0 pc ls st z σ := by
  have X' := X
  obtain ⟨hx, hb, hml, hown, hts, hF, hsz, -, -, hRc, hRs, -⟩ := X
  simp only [Bool.and_eq_true] at hck
  obtain ⟨⟨⟨k1, k2⟩, k3⟩, k4⟩ := hck
  have k1 := Nat.eq_of_beq_eq_true k1
  have k2 := Nat.eq_of_beq_eq_true k2
  have k3 : ci < 12 := Nat.ble_eq.mp k3
  have k4 : z < 1000 := Nat.ble_eq.mp k4
  have hsh : z_SH z = (ci + 4, z_nf ci) := by rw [← k1, ← k2]
  obtain ⟨q, c1, c2, c3, c4, c5⟩ := z_cls ci k3
  rw [c1] at ok
  simp only [Bool.and_eq_true] at ok
  obtain ⟨⟨⟨o1, o2⟩, o3⟩, -⟩ := ok
  refine ⟨Nat.le_succ _, fun H locs cells slots rls hP hS hc hs hl => z_size X' hP hS hc fun hH => ?_⟩
  have hKn := hF.1.1 ci _ c1
  have hsl : z_SL (z + 1) ≤ z_SL res.2.1 := z_SL_mono hz
  have hsl2 : z_SL (z + 1) = z_SL z + q.2.2 := by show z_SL z + (z_SH z).2 = _; rw [k2, c2]
  refine W.newcK (n := q.2.2) hx hb hown (hts _ (z_T_in o1)) (hts _ (z_T_in o2)) (hts _ (z_T_in o3)) rfl hd (by omega) (by omega) hKn.2.1 hH fun H1 kC hkC e1 e2 e3 => ?_
  have hP1 : va_P x.2.1 vwCl (z_wl x (z + 1) (z_new1 z σ)) H1 := by
    refine z_wl_new hP (fun q hq => e3 q (by rw [← hH]; exact hq)) (fun a ha => z_e_off (z_zr_lt ha) (z_zr_lt ha) (z_zr_lt ha)) (fun a h1 h2 => ?_)
    have ea : a = z := by omega
    subst ea
    rw [z_e_obj hsh]
    refine ⟨q, c1, (u_born (z_ty ci) hts (z_inG c3) hKn hkC e1 c4).to (fun k hk => ?_)⟩
    have hk' : k < z_nf ci := by rw [← c2]; exact hk
    have ht := z_fty ci k3 k hk'
    have h4 := z_ft_4 ci k3 k hk'
    show defaultValue (z_ty ci k) = ((List.range (z_nf ci)).map (fun k => z_tr x (z_fv ci k 0 (z_new1 a σ) a))).getD k .null
    rw [List.getD_eq_getElem?_getD, List.getElem?_map, List.getElem?_range hk']
    show _ = z_tr x (z_fv ci k 0 (z_new1 a σ) a)
    unfold z_fv z_new1
    simp only [z_zr_ge (Nat.le_refl a)]
    match hf : z_ft ci k, h4 with
    | 0, _ => rw [z_ftk_0 (ht.trans hf)]; rfl
    | 1, _ => rw [z_ftk_1 (ht.trans hf)]; rfl
    | 2, _ => rw [z_ftk_2 (ht.trans hf)]; rfl
    | 3, _ => rcases z_ftk_3 (ht.trans hf) with ⟨n, e⟩ | ⟨n, e⟩ <;> rw [e] <;> rfl
    | n + 4, h => omega
  have hS1 : va_S (z_B x) s.heap H1 locs := ⟨Nat.le_trans hS.1 (by omega), fun q h1 h2 => (e3 q (by rw [← hH]; exact Nat.lt_of_lt_of_le h1 hS.1)).trans (hS.2.1 q h1 h2), hS.2.2⟩
  have K := K H1 locs (cells + 1) (slots + q.2.2) rls hP1 hS1 (by omega) (by omega) hl
  rw [List.map_cons, z_tr_ref k4] at K
  exact K
theorem z_na (X : z_Fx p R s m args meth c x E M d z0 res) {t : ArrayType} (hd : decode M.2.1 pc = .ok (.newarray t, 2)) (ok : z_T (.arrayClass (Op.newarray.typeOf t)) = true) {n : Int32} {r : List Value} (hz : z + 1 ≤ res.2.1) (hck : (decide (0 ≤ n) && Nat.beq (z_SH z).1 (z_akind t) && Nat.beq (z_SH z).2 n.toNatClampNeg && Nat.blt z 1000 && Nat.ble n.toNatClampNeg 1000) = true) (K : z_W p l e R s m args below meth c Q x M z0 (pc + 2) ls (.ref z :: r) (z + 1) (z_new1 z σ)) : z ≤ z + 1 ∧ z_W p l e R s m args below meth c Q x M z0 pc ls (.int n :: r) z σ := by
  have X' := X
  obtain ⟨hx, hb, hml, hown, hts, hF, hsz, -, -, hRc, hRs, -⟩ := X
  simp only [Bool.and_eq_true, decide_eq_true_eq] at hck
  obtain ⟨⟨⟨⟨k0, k1⟩, k2⟩, k4⟩, k5⟩ := hck
  have k1 := Nat.eq_of_beq_eq_true k1
  have k2 := Nat.eq_of_beq_eq_true k2
  have k4 : z < 1000 := Nat.ble_eq.mp k4
  have k5 : n.toNatClampNeg ≤ 1000 := Nat.ble_eq.mp k5
  refine ⟨Nat.le_succ _, fun H locs cells slots rls hP hS hc hs hl => z_size X' hP hS hc fun hH => ?_⟩
  have hsl : z_SL (z + 1) ≤ z_SL res.2.1 := z_SL_mono hz
  have hsl2 : z_SL (z + 1) = z_SL z + n.toNatClampNeg := by show z_SL z + (z_SH z).2 = _; rw [k2]
  have hbt : n.toNatClampNeg * componentBytes (Op.newarray.typeOf t) ≤ 536870912 := by
    have : componentBytes (Op.newarray.typeOf t) ≤ 8 := by cases t <;> decide
    calc n.toNatClampNeg * componentBytes (Op.newarray.typeOf t) ≤ 1000 * 8 := Nat.mul_le_mul k5 this
      _ ≤ 536870912 := by decide
  refine va_newaK hx hb (hts _ (z_T_in ok)) rfl hd rfl (Int32.not_lt.mpr k0) rfl hbt (by omega) (by omega) hH fun H1 cA e1 e2 e3 hAr hNm => ?_
  have hP1 : va_P x.2.1 vwCl (z_wl x (z + 1) (z_new1 z σ)) H1 := by
    refine z_wl_new hP (fun q hq => e3 q (by rw [← hH]; exact hq)) (fun a ha => z_e_off (z_zr_lt ha) (z_zr_lt ha) (z_zr_lt ha)) (fun a h1 h2 => ?_)
    have ea : a = z := by omega
    subst ea
    cases t with
    | int =>
      have hsh : z_SH a = (0, n.toNatClampNeg) := by rw [← k2]; exact Prod.ext k1 rfl
      have ec : cA = x.2.2.1 0 := Option.some.inj (hNm.symm.trans (hF.1.2 0 _ rfl).2)
      rw [z_e_0 hsh]
      show H1[x.1 + a]? = some (vp_cell _ _)
      rw [e1, ec, vp_cell_i]
      show some (arrV _ _ (fun _ => Value.int 0)) = some (arrV _ _ (fun j => Value.int (z_zr σ.1 a 0 a j)))
      rw [z_zr_ge (Nat.le_refl a)]
    | long =>
      have hsh : z_SH a = (1, n.toNatClampNeg) := by rw [← k2]; exact Prod.ext k1 rfl
      have ec : cA = x.2.2.1 1 := Option.some.inj (hNm.symm.trans (hF.1.2 1 _ rfl).2)
      rw [z_e_1 hsh]
      show H1[x.1 + a]? = some (vp_cell _ _)
      rw [e1, ec, vp_cell_l]
      show some (arrV _ _ (fun _ => Value.long 0)) = some (arrV _ _ (fun j => Value.long (z_zr σ.2.1 a 0 a j)))
      rw [z_zr_ge (Nat.le_refl a)]
    | boolean =>
      have hsh : z_SH a = (2, n.toNatClampNeg) := by rw [← k2]; exact Prod.ext k1 rfl
      have ec : cA = x.2.2.1 2 := Option.some.inj (hNm.symm.trans (hF.1.2 2 _ rfl).2)
      rw [z_e_2 hsh]
      show H1[x.1 + a]? = some (vp_cell _ _)
      rw [e1, ec, vp_cell_i]
      show some (arrV _ _ (fun _ => Value.int 0)) = some (arrV _ _ (fun j => Value.int (z_zr σ.1 a 0 a j)))
      rw [z_zr_ge (Nat.le_refl a)]
    | _ =>
      have kk : (z_SH a).1 = 99 := k1
      exfalso
      revert kk
      have hall : ∀ a, a < 1000 → (z_SH a).1 ≠ 99 := by decide +kernel
      exact hall a k4
  have hS1 : va_S (z_B x) s.heap H1 locs := ⟨Nat.le_trans hS.1 (by omega), fun q h1 h2 => (e3 q (by rw [← hH]; exact Nat.lt_of_lt_of_le h1 hS.1)).trans (hS.2.1 q h1 h2), hS.2.2⟩
  have K := K H1 locs (cells + 1) (slots + n.toNatClampNeg) rls hP1 hS1 (by omega) (by omega) hl
  rw [List.map_cons, z_tr_ref k4] at K
  exact K
end SIME
