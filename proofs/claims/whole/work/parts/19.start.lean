-- WHAT STAYS, at the law's entry
theorem z_inst : ∀ ci, ci < 12 → ∀ q, vwCl[ci]? = some q → Cond.instantiable q.1 q.2.2 ∈ lw_tbl := by
  apply z_12 <;> (intro q hq; cases hq; decide +kernel)
theorem z_start {p : Program} {s : State} {m : MethodId} {meth : Method} {c : Code} {b L : Nat} {xs : Nat → Int32} (C0 : lw_At p s m meth c b L xs) : ∃ x : zX, x.1 = s.heap.size ∧ x.2.2.2.1 1006 = b ∧ z_F x (L, xs) s := by
  obtain ⟨hx, hb, hr, hml, hown, hts, hX, hbl, hlocks, hgv⟩ := C0
  have hfl : ∀ w ∈ z_fl, w.before #[Value.ref b] s = true := flat_of_before _ hgv
  -- the classes
  have hk : ∀ ci : Nat, ∃ y : ClassId × (Nat → Nat), ∀ q, vwCl[ci]? = some q → u_Kn s q.1 q.2.1 q.2.2 y.1 y.2 := by
    intro ci
    by_cases hci : ci < 12
    · obtain ⟨q, c1, c2, c3, -⟩ := z_cls ci hci
      obtain ⟨cC, iS, h⟩ := u_known (C := q.1) (T := q.2.1) (N := q.2.2) (n := q.2.2) hts c3 (hts _ (z_inst ci hci q c1))
      exact ⟨(cC, iS), fun q' hq => by rw [c1] at hq; cases hq; exact h⟩
    · exact ⟨(0, fun _ => 0), fun q hq => by rw [List.getElem?_eq_none (Nat.not_lt.mp hci)] at hq; cases hq⟩
  obtain ⟨kn, hkn⟩ := Classical.axiomOfChoice hk
  -- the arrays' classes
  obtain ⟨cI, kI, oI, i1, i2, i3⟩ := Cond.arrayClass_spec (hts (.arrayClass .int) (by decide +kernel))
  obtain ⟨cJ, kJ, oJ, j1, j2, j3⟩ := Cond.arrayClass_spec (hts (.arrayClass .long) (by decide +kernel))
  obtain ⟨cZ, kZ, oZ, y1, y2, y3⟩ := Cond.arrayClass_spec (hts (.arrayClass .boolean) (by decide +kernel))
  have hov := hts (.arrayOver (.array .int)) (by decide +kernel)
  obtain ⟨oA, cA, kA, -, -, a2, a3, a4⟩ := arrayOverA_spec hov
  -- the static tables
  obtain ⟨t0, e0, x0, l0⟩ := z_Xof (N := 6) (f := z_first) (by decide) (hfl (.arrayOf (.static "LampHouse$Rules" "FIRST" "[I") .int) (by decide +kernel)) (va_eqt (hfl (.eq (.length (.static "LampHouse$Rules" "FIRST" "[I")) (.int 6)) (by decide +kernel))) (fun j hj => va_eqt (hfl _ (z_fl_first j hj)))
  obtain ⟨t1, e1, x1, l1⟩ := z_Xof (N := 6) (f := z_above) (by decide) (hfl (.arrayOf (.static "LampHouse$Things" "ABOVE" "[I") .int) (by decide +kernel)) (va_eqt (hfl (.eq (.length (.static "LampHouse$Things" "ABOVE" "[I")) (.int 6)) (by decide +kernel))) (fun j hj => va_eqt (hfl _ (z_fl_above j hj)))
  have hA : ∀ a : Nat, a < s.heap.size → ¬ (s.heap.size ≤ a) := fun a h q => absurd h (Nat.not_lt.mpr q)
  have zf := va_Zof (A := fun q => s.heap.size ≤ q) (hts (.laysStatic "LampHouse$Rules" "FIRST" "[I") (by decide +kernel)) (hts (.initialized "LampHouse$Rules") (by decide +kernel)) e0 hA
  have za := va_Zof (A := fun q => s.heap.size ≤ q) (hts (.laysStatic "LampHouse$Things" "ABOVE" "[I") (by decide +kernel)) (hts (.initialized "LampHouse$Things") (by decide +kernel)) e1 hA
  have zc := va_Zof (A := fun q => s.heap.size ≤ q) (hts (.laysStatic "java/lang/String" "COMPACT_STRINGS" "Z") (by decide +kernel)) (hts (.initialized "java/lang/String") (by decide +kernel)) (va_eqi (hfl (.eq (.static "java/lang/String" "COMPACT_STRINGS" "Z") (.int 1)) (by decide +kernel))) hA
  have zq := va_Zqof (A := fun q => s.heap.size ≤ q) (hts (.laysStatic "jdk/internal/util/Preconditions" "SIOOBE_FORMATTER" "Ljava/util/function/BiFunction;") (by decide +kernel)) (hts (.initialized "jdk/internal/util/Preconditions") (by decide +kernel)) (hfl (.isRef (.static "jdk/internal/util/Preconditions" "SIOOBE_FORMATTER" "Ljava/util/function/BiFunction;")) (by decide +kernel)) hA
  obtain ⟨fm, hfm, zq⟩ : ∃ fm : Value, (fm = .null ∨ ∃ t, fm = .ref t) ∧ va_Z "jdk/internal/util/Preconditions" "SIOOBE_FORMATTER" "Ljava/util/function/BiFunction;" fm (fun q => s.heap.size ≤ q) s s.heap := by
    rcases zq with h | ⟨t, h⟩
    · exact ⟨_, Or.inl rfl, h⟩
    · exact ⟨_, Or.inr ⟨t, rfl⟩, h⟩
  -- the texts
  obtain ⟨adK, adV, hS, hev⟩ := vk_Sof (args := #[Value.ref b]) (s := s) (N := 2) (tm := z_tm) (len := [55, 8]) (byt := [z_wordsL, z_signsL]) (A := fun q => s.heap.size ≤ q) (by decide)
    (z_2 (hfl _ (by decide +kernel)) (hfl _ (by decide +kernel))) (z_2 (hfl _ (by decide +kernel)) (hfl _ (by decide +kernel))) (z_2 (hfl _ (by decide +kernel)) (hfl _ (by decide +kernel))) (z_2 (hfl _ (by decide +kernel)) (hfl _ (by decide +kernel)))
    (z_2 (fun j hj => hfl _ (z_fl_words j hj)) (fun j hj => hfl _ (z_fl_signs j hj)))
    (fun i j hi hj hne => by
      have hh : (Cond.not (Cond.eq (z_tm 0) (z_tm 1))).before #[Value.ref b] s = true ∨ (Cond.not (Cond.eq (z_tm 1) (z_tm 0))).before #[Value.ref b] s = true := by
        first
          | exact Or.inl (hfl _ (by decide +kernel))
          | exact Or.inr (hfl _ (by decide +kernel))
      rcases (show i = 0 ∨ i = 1 by omega) with rfl | rfl <;> rcases (show j = 0 ∨ j = 1 by omega) with rfl | rfl
      · exact absurd rfl hne
      · exact hh
      · exact hh.symm
      · exact absurd rfl hne) hA
  refine ⟨(s.heap.size, (fun k => (kn k).1, fun k => (kn k).2), (fun k => if k = 0 then cI else if k = 1 then cJ else if k = 2 then cZ else cA), (fun a => if a = 1000 then t0 else if a = 1001 then t1 else if a = 1002 then adK 0 else if a = 1003 then adV 0 else if a = 1004 then adK 1 else if a = 1005 then adV 1 else b), fm), rfl, rfl, ?_⟩
  refine ⟨⟨fun ci q hq => hkn ci q hq, ?_⟩, ⟨zf, x0, l0⟩, ⟨za, x1, l1⟩, zc, zq, ?_, ⟨?_, ?_⟩, ⟨hX, hbl⟩, ?_, over_moved (Vm.Alike.refl s.vm) hov, Nat.le_refl _, hfm⟩
  · intro k q hq
    match k, hq with
    | 0, hq => cases hq; exact ⟨fun n z => ⟨fun k h => (by cases h), kI, i2, oI, i3⟩, i1⟩
    | 1, hq => cases hq; exact ⟨fun n z => ⟨fun k h => (by cases h), kJ, j2, oJ, j3⟩, j1⟩
    | 2, hq => cases hq; exact ⟨fun n z => ⟨fun k h => (by cases h), kZ, y2, oZ, y3⟩, y1⟩
    | 3, hq => cases hq; exact ⟨fun n z => ⟨fun k h => (by cases h), kA, a2, oA, a3⟩, a4⟩
    | k + 4, hq => simp [z_tys] at hq
  · refine ⟨z_2 (hS.1 0 (by decide)) (hS.1 1 (by decide)), fun i j hi hj he => ?_⟩
    rcases (show i = 0 ∨ i = 1 by omega) with rfl | rfl <;> rcases (show j = 0 ∨ j = 1 by omega) with rfl | rfl
    · rfl
    · exact hS.2 0 1 (by decide) (by decide) he
    · exact hS.2 1 0 (by decide) (by decide) he
    · rfl
  · exact vk_R.of (hts (.stringRef "LampHouse$Reader" 96 z_txt) (by decide +kernel)) (hev 0 (by decide))
  · exact vk_R.of (hts (.stringRef "LampHouse$Reader" 85 z_sgn) (by decide +kernel)) (hev 1 (by decide))
  · intro w hw
    obtain ⟨a, i, y, q, rfl⟩ := z_nst_M w hw
    exact va_Nw.of rfl (hts _ (z_nst_in _ hw))

/-- the claim, out of the pure machine: the tables are right, and the law's run answers 1 -/
def z_okA : Prop := ∀ (mid : Nat) (M : zM), z_mt mid = some M → z_okM M = true
def z_law : Prop := ∀ (L : Nat) (xs : Nat → Int32) (σ : zS), L ≤ 3072 → ∃ τ : zS, z_cl (L, xs) 100 285 [.ref 1006] (0, σ) = some (some (.int 1), 161, τ)
theorem z_whole (okA : z_okA) (hlaw : z_law) {p : Program} {e : Env} {s : State} {m : MethodId} {below : List Frame} {meth : Method} {c : Code} (l : Launch) {b L : Nat} {xs : Nat → Int32} (hL : L ≤ 3072) (C0 : lw_At p s m meth c b L xs) : W p l e room_1 s m #[Value.ref b] below meth c s.heap [] 0 0 (lw_Z below #[Value.ref b] s) (entryFrame m ([Value.ref b] : List Value).toArray 4) := by
  obtain ⟨x, hx1, hxb, hF⟩ := z_start C0
  obtain ⟨hx, hb, hr, hml, hown, hts, hX, hbl, hlocks, hgv⟩ := C0
  obtain ⟨τ, h⟩ := hlaw L xs (fun _ _ => 0, fun _ _ => 0, fun _ _ => none) hL
  have okM := okA 285 z_m285 rfl
  unfold z_cl at h
  rw [show z_mt 285 = some z_m285 from rfl] at h
  dsimp only at h
  rw [show Nat.ble (z_argl [Value.ref 1006]).length z_m285.2.2.1 = true from rfl, cond_true] at h
  obtain ⟨n, h⟩ := z_lim_inv h
  have hsl : z_SL 161 ≤ 7302250 := by decide +kernel
  have X : z_Fx p room_1 s m #[Value.ref b] meth c x (L, xs) z_m285 99 0 (some (.int 1), 161, τ) := ⟨hx, hb, hml, hown, fun w hw => hts w (List.mem_filter.mp hw).1, hF, hx1.symm, by decide, by decide, (show 161 - 0 ≤ 600000 by decide), Nat.le_trans (Nat.sub_le _ _) hsl, fun q => by cases q⟩
  have HC := z_met l x (L, xs) okA 99
  have hcal : ∀ mid as z σ r, z_cl (L, xs) 99 mid as (z, σ) = some r → z ≤ r.2.1 := fun mid as z σ r hq => by
    cases hN : z_mt mid with
    | some N => exact (HC mid as (z, σ) r N hN hq).1
    | none => unfold z_cl at hq; rw [hN] at hq; cases hq
  obtain ⟨-, hW⟩ := z_sim (l := l) (e := e) (below := below) (Q := lw_Z below #[Value.ref b] s) X HC okM (fun pc ls st z σ h1 => by
    rcases z_end (z_cl (L, xs) 99) (fun mid as r => hcal mid as z σ r) okM h1 with ⟨v, ty, rfl, hres, hd, ht, hn⟩ | ⟨v, rfl, hres, hd, ht⟩ | ⟨v, rfl, hres, hd, ht⟩ | ⟨rfl, hres, hd, ht⟩
    · simp only [Prod.mk.injEq, Option.some.injEq, Value.int.injEq] at hres
      obtain ⟨rfl, rfl, rfl⟩ := hres
      refine ⟨Nat.le_refl _, fun H locs cells slots rls hP hS hc hs hl => ?_⟩
      refine va_forget (fun q hq => by have := hS.2.2 q hq; rw [← hx1]; exact this) ?_
      have hs' : slots + 0 = z_SL 161 := hs
      refine W.widen (k := 600000) (n := 7302250) (by omega) (by omega) ?_
      exact lw_ret hx hb hr hlocks hd
    · cases hres
    · cases hres
    · cases hres) n 0 _ _ _ _ h
  have := hW s.heap [] 0 0 ((lg_sl [Value.ref b] ++ List.replicate (4 - (lg_sl [Value.ref b]).length) Slot.unset).toArray) (fun k q hq => by simp [z_wl] at hq) va_S.rf rfl rfl (by
    refine z_lp_sub (lv_entry [Value.ref b] (n := 4) (Nat.le_of_ble_eq_true rfl)) fun q hq => ?_
    obtain ⟨j, v, h1, rfl⟩ := (z_lp_mem _ 0 q).mp hq
    have h2 := z_pad_get _ _ _ h1
    match j, h2 with
    | 0, h2 =>
      cases h2
      have e1 : z_tr x (.ref 1006) = .ref b := by rw [← hxb]; rfl
      rw [e1]
      exact List.mem_cons_self
    | j + 1, h2 => simp [z_argl, z_isJ, z_gl] at h2)
  rw [lg_entry_eq]
  exact this
