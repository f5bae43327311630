-- STEPS: calls, by the callee's contract
def z_rm (d : Nat) (z : Nat) (r : zR) : Room := { frames := d, cells := r.2.1 - z, slots := z_SL r.2.1 - z_SL z, locals := 64 * d }
def z_Q (x : zX) (r : zR) : Array Value → State → Outcome → State → Prop := fun _ st oc t => oc = .returned (r.1.map (z_tr x)) ∧ va_P x.2.1 vwCl (z_wl x r.2.1 r.2.2) t.heap ∧ va_F (z_B x) st t
def z_Pc (x : zX) (E : zE) (as : List Value) (g : zG) : Array Value → State → Prop := va_Pc (as.map (z_tr x)) (fun U => U.heap.size = x.1 + g.1 ∧ va_P x.2.1 vwCl (z_wl x g.1 g.2) U.heap ∧ z_F x E U)
/-- every call of a depth keeps its contract -/
def z_Ct (l : Launch) (x : zX) (E : zE) (d : Nat) : Prop := ∀ (mid : Nat) (as : List Value) (g : zG) (r : zR) (M : zM), z_mt mid = some M → z_cl E d mid as g = some r → g.1 ≤ r.2.1 ∧ Met l M.1 (z_ws M) (z_rm d g.1 r) (z_Pc x E as g) (z_Q x r) (r.2.1 - g.1) (z_SL r.2.1 - z_SL g.1) (z_B x)
theorem z_ws_good {M : zM} (h : z_T (.code M.1 M.2.1 M.2.2.1 M.2.2.2.1) = true) : GoodIn z_tbl (z_ws M) := by
  intro w hw
  rcases List.mem_cons.mp hw with e | e
  · subst e
    exact ⟨z_T_in h, z_tbl_good (z_T_in h)⟩
  · exact ⟨e, z_tbl_good e⟩
theorem z_good_app {ws : List Cond} {l : List Cond} (hl : ∀ w ∈ l, w ∈ z_tbl) (h : GoodIn z_tbl ws) : GoodIn z_tbl (l ++ ws) := by
  intro w hw
  rcases List.mem_append.mp hw with e | e
  · exact ⟨hl w e, z_tbl_good (hl w e)⟩
  · exact h w e
section SIMG
variable {p : Program} {l : Launch} {e : Env} {R : Room} {s : State} {m : MethodId} {args : Array Value} {below : List Frame} {meth : Method} {c : Code} {Q : State → Prop} {x : zX} {E : zE} {M : zM} {d z0 : Nat} {res : zR}
variable {pc : Nat} {ls : zL} {st : List Value} {z : Nat} {σ : zS} {y : zP ⊕ zR} {ts : List Nat} {idx : Nat} {cv : Value}
theorem z_blind {as : List Value} {g : zG} : FrameBlind (z_Pc x E as g) := by
  intro a U f mk h
  obtain ⟨h1, h2, h3, h4⟩ := h
  exact ⟨h1, h2, h3, h4.same rfl rfl⟩
theorem z_cr {H : Heap} {locs : List Loc} {cells slots mc ms : Nat} {rls : Array Slot} {st0 rest : List Value} {a : Array Value} {r : zR} (hr : va_Run p l e R s m args below meth c H locs cells slots mc ms (F0 m pc rls st0) rest (z_Q x r a) (z_B x)) (hS : va_S (z_B x) s.heap H locs)
    (kk : ∀ (H1 : Heap) (locs1 : List Loc), va_P x.2.1 vwCl (z_wl x r.2.1 r.2.2) H1 → va_S (z_B x) s.heap H1 locs1 → W p l e R s m args below meth c H1 locs1 (cells + mc) (slots + ms) Q (F0 m (pc + 3) rls ((r.1.map (z_tr x)).toList ++ rest))) : W p l e R s m args below meth c H locs cells slots Q (F0 m pc rls st0) := by
  intro T hT X
  obtain ⟨v, st₀, t, T', L, h0, X', hL, e1, e2, ⟨hv, hP, hz, hk⟩, st⟩ := hr T hT X
  have hv : v = r.1.map (z_tr x) := Outcome.returned.inj hv
  subst hv
  rw [h0] at hz hk
  obtain ⟨t2, a1, b1⟩ := kk T'.heap (locs ++ L) (by rw [e1]; exact hP)
    ⟨Nat.le_trans hS.1 (by rw [e1]; exact hz), fun q h1 h2 => by rw [e1, hk q (Nat.lt_of_lt_of_le h1 hS.1) h2]; exact hS.2.1 q h1 h2, fun q hq => by
      rcases List.mem_append.mp hq with h | h
      · exact hS.2.2 q h
      · exact hL q h⟩ T' rfl X'
  exact ⟨t2, st t2 a1, b1⟩
theorem z_rv_map (r : zR) (st : List Value) : (r.1.map (z_tr x)).toList ++ st.map (z_tr x) = (r.1.toList ++ st).map (z_tr x) := by
  cases r.1 <;> rfl
/-- what all calls share -/
theorem z_cl1 (X : z_Fx p R s m args meth c x E M d z0 res) {mid : Nat} {as : List Value} {r : zR} {N : zM} (HC : z_Ct l x E d) (hN : z_mt mid = some N) (hcl : z_cl E d mid as (z, σ) = some r) (hz : r.2.1 ≤ res.2.1) {rest stk : List Value} (K : z_W p l e R s m args below meth c Q x M z0 (pc + 3) ls (r.1.toList ++ rest) r.2.1 r.2.2)
    (run : Met l N.1 (z_ws N) (z_rm d z r) (z_Pc x E as (z, σ)) (z_Q x r) (r.2.1 - z) (z_SL r.2.1 - z_SL z) (z_B x) → ∀ (H : Heap) (locs : List Loc) (cells slots : Nat) (rls : Array Slot), va_P x.2.1 vwCl (z_wl x z σ) H → va_S (z_B x) s.heap H locs → rls.size = M.2.2.1 → (∀ U : State, U.heap = H → s.WarmedH U.vm → z_Pc x E as (z, σ) (as.map (z_tr x)).toArray U) → cells + (r.2.1 - z) ≤ R.cells ∧ slots + (z_SL r.2.1 - z_SL z) ≤ R.slots → va_Run p l e R s m args below meth c H locs cells slots (r.2.1 - z) (z_SL r.2.1 - z_SL z) (F0 m pc rls (stk.map (z_tr x))) (rest.map (z_tr x)) (z_Q x r (as.map (z_tr x)).toArray) (z_B x)) : z ≤ r.2.1 ∧ z_W p l e R s m args below meth c Q x M z0 pc ls stk z σ := by
  obtain ⟨hle, hM⟩ := HC mid as (z, σ) r N hN hcl
  have hle : z ≤ r.2.1 := hle
  have X' := X
  obtain ⟨hx, hb, hml, hown, hts, hF, hsz, hfr, hlo, hRc, hRs, -⟩ := X
  refine ⟨hle, fun H locs cells slots rls hP hS hc hs hl => z_size X' hP hS hc fun hH => ?_⟩
  have s1 : z_SL z ≤ z_SL r.2.1 := z_SL_mono hle
  have s2 : z_SL r.2.1 ≤ z_SL res.2.1 := z_SL_mono hz
  refine z_cr (run hM H locs cells slots rls hP hS hl.1 (fun U hU hW => ⟨rfl, by rw [hU]; exact hH, by rw [hU]; exact hP, hF.move hW hU hS⟩) ⟨by omega, by omega⟩) hS fun H1 locs1 hP1 hS1 => ?_
  have K := K H1 locs1 (cells + (r.2.1 - z)) (slots + (z_SL r.2.1 - z_SL z)) rls hP1 hS1 (by omega) (by omega) hl
  rw [z_rv_map]
  exact K
theorem z_okc_inv {N : zM} {n : Nat} (h : z_okc N n = true) : z_T (.code N.1 N.2.1 N.2.2.1 N.2.2.2.1) = true ∧ z_T (.initialized N.1.cls) = true ∧ (N.1.cls ≠ "java/lang/invoke/MethodHandle" ∧ N.1.cls ≠ "java/lang/invoke/VarHandle" ∧ (parseMethodDescriptor N.1.desc).map (fun d => d.parameters.length) = some n) ∧ N.2.2.1 ≤ 45 := by
  unfold z_okc at h
  simp only [Bool.and_eq_true, decide_eq_true_eq] at h
  obtain ⟨⟨⟨⟨⟨h1, h2⟩, h3⟩, h4⟩, h5⟩, h6⟩ := h
  exact ⟨h1, h2, ⟨h3, h4, h5⟩, Nat.ble_eq.mp h6⟩
theorem z_iv0 (X : z_Fx p R s m args meth c x E M d z0 res) (HC : z_Ct l x E d) {mid n ci : Nat} (hd : decode M.2.1 pc = .ok (.invokevirtual idx, 3)) {N : zM} (hN : z_mt mid = some N) (ok : (z_okc N n && z_T (.methodLink M.1.cls idx N.1) && z_T (.instanceMethod N.1) && z_T (.selects N.1.cls N.1 N.1) && decide (N.1.cls = z_cn ci) && z_T (.initialized N.1.cls)) = true)
    {bs rest : List Value} {a : Nat} (hn : bs.length = n) (hck : ((z_isO z σ a ci || (Nat.beq ci 100 && (Nat.beq a 1002 || Nat.beq a 1004))) && Nat.ble (z_cs rest) 8) = true) {r : zR} (hcl : z_cl E d mid (.ref a :: bs.reverse) (z, σ) = some r) (hz : r.2.1 ≤ res.2.1) (K : z_W p l e R s m args below meth c Q x M z0 (pc + 3) ls (r.1.toList ++ rest) r.2.1 r.2.2) : z ≤ r.2.1 ∧ z_W p l e R s m args below meth c Q x M z0 pc ls (bs ++ .ref a :: rest) z σ := by
  have X' := X
  obtain ⟨hx, hb, hml, hown, hts, hF, hsz, hfr, hlo, hRc, hRs, -⟩ := X
  simp only [Bool.and_eq_true, decide_eq_true_eq, Bool.or_eq_true] at ok hck
  obtain ⟨⟨⟨⟨⟨o1, o2⟩, o3⟩, o4⟩, o5⟩, o6⟩ := ok
  obtain ⟨q1, q2, q3, q4⟩ := z_okc_inv o1
  have hcs := Nat.ble_eq.mp hck.2
  have hf1 := z_f1 hF.2.2.2.2.2.2.2.2.2.2.2
  have hta : ∃ b, z_tr x (.ref a) = .ref b := by
    rcases hck.1 with h | ⟨-, h | h⟩
    · exact ⟨_, z_tr_ref (z_isO_inv h).1⟩
    · rw [Nat.eq_of_beq_eq_true h]; exact ⟨_, rfl⟩
    · rw [Nat.eq_of_beq_eq_true h]; exact ⟨_, rfl⟩
  obtain ⟨b, hb'⟩ := hta
  refine z_cl1 X' HC hN hcl hz K fun hM H locs cells slots rls hP hS hsl hU hrm => ?_
  have hrec : ∃ cellB : Cell, H[b]? = some cellB ∧ cellB.vm.isStatics = false ∧ s.vm.findClass N.1.cls = some cellB.cls := by
    rcases hck.1 with h | ⟨hci, h⟩
    · obtain ⟨a1, a2, a3, a4⟩ := z_isO_inv h
      obtain ⟨q, c1, -⟩ := z_cls ci a4
      have eb : b = x.1 + a := by rw [z_tr_ref a1] at hb'; exact (Value.ref.inj hb').symm
      rw [o5, eb]
      unfold z_cn
      rw [c1]
      exact va_recv hF.1 hP c1 (q0 := a) (by rw [z_wl_at a2, z_e_obj a3])
    · have hci := Nat.eq_of_beq_eq_true hci
      subst hci
      rw [o5]
      obtain ⟨-, -, -, -, -, h6, -⟩ := hF
      rcases h with h | h
      · have h := Nat.eq_of_beq_eq_true h
        subst h
        rw [← Value.ref.inj hb']
        exact vk_recv h6 (i := 0) (by decide) hS
      · have h := Nat.eq_of_beq_eq_true h
        subst h
        rw [← Value.ref.inj hb']
        exact vk_recv h6 (i := 1) (by decide) hS
  have hU' : ∀ U : State, U.heap = H → s.WarmedH U.vm → z_Pc x E (.ref a :: bs.reverse) (z, σ) (Value.ref b :: bs.reverse.map (z_tr x)).toArray U := fun U h1 h2 => by
    have := hU U h1 h2
    rw [List.map_cons, hb'] at this
    exact this
  rw [List.map_cons, hb']
  exact va_runV (As := bs.reverse.map (z_tr x)) (rest := rest.map (z_tr x)) (b := b) (g := F0 m pc rls ((bs ++ .ref a :: rest).map (z_tr x))) (nL := M.2.2.1) ⟨hx, hb, hml, hown, hts⟩ hM (cwV (C := N.1.cls) n hts (z_good_app (fun w hw => by
      simp only [List.mem_cons, List.not_mem_nil, or_false] at hw
      rcases hw with rfl | rfl | rfl | rfl
      · exact z_T_in o2
      · exact z_T_in o3
      · exact z_T_in o4
      · exact z_T_in o6) (z_ws_good q1)) rfl rfl rfl ⟨rfl, q3⟩ ⟨by show d + 1 ≤ _; exact hfr, by show 8 + (N.2.2.1 + 11) + 64 * d ≤ _; omega⟩) ⟨z_blind, hrec, hU'⟩ rfl (by simp [hn]) hsl (by simp [hb']) (lv_room (by rw [z_cs_eq hf1]; exact hcs)) hd hrm
theorem z_iv1 (X : z_Fx p R s m args meth c x E M d z0 res) (HC : z_Ct l x E d) {mid n : Nat} (hd : decode M.2.1 pc = .ok (.invokestatic idx, 3)) {N : zM} (hN : z_mt mid = some N) (ok : (z_okc N n && z_T (.methodLink M.1.cls idx N.1) && z_T (.static N.1)) = true)
    {bs rest : List Value} (hn : bs.length = n) (hck : Nat.ble (z_cs rest) 8 = true) {r : zR} (hcl : z_cl E d mid bs.reverse (z, σ) = some r) (hz : r.2.1 ≤ res.2.1) (K : z_W p l e R s m args below meth c Q x M z0 (pc + 3) ls (r.1.toList ++ rest) r.2.1 r.2.2) : z ≤ r.2.1 ∧ z_W p l e R s m args below meth c Q x M z0 pc ls (bs ++ rest) z σ := by
  have X' := X
  obtain ⟨hx, hb, hml, hown, hts, hF, hsz, hfr, hlo, hRc, hRs, -⟩ := X
  simp only [Bool.and_eq_true] at ok
  obtain ⟨⟨o1, o2⟩, o3⟩ := ok
  obtain ⟨q1, q2, q3, q4⟩ := z_okc_inv o1
  have hcs := Nat.ble_eq.mp hck
  have hf1 := z_f1 hF.2.2.2.2.2.2.2.2.2.2.2
  refine z_cl1 X' HC hN hcl hz K fun hM H locs cells slots rls hP hS hsl hU hrm => ?_
  exact va_runS (As := bs.reverse.map (z_tr x)) (rest := rest.map (z_tr x)) (g := F0 m pc rls ((bs ++ rest).map (z_tr x))) (nL := M.2.2.1) ⟨hx, hb, hml, hown, hts⟩ hM (va_cwS n hts (z_good_app (fun w hw => by
      simp only [List.mem_cons, List.not_mem_nil, or_false] at hw
      rcases hw with rfl | rfl | rfl
      · exact z_T_in o2
      · exact z_T_in o3
      · exact z_T_in q2) (z_ws_good q1)) rfl rfl rfl q3 ⟨by show d + 1 ≤ _; exact hfr, by show 8 + (N.2.2.1 + 11) + 64 * d ≤ _; omega⟩) ⟨z_blind, hU⟩ rfl (by simp [hn]) hsl (by simp) (lv_room (by rw [z_cs_eq hf1]; exact hcs)) hd hrm
theorem z_iv3 (X : z_Fx p R s m args meth c x E M d z0 res) (HC : z_Ct l x E d) {mid n : Nat} (hd : decode M.2.1 pc = .ok (.invokestatic idx, 3)) {N : zM} (hN : z_mt mid = some N) (ok : (z_okc N n && decide (Cond.methodLinkNest M.1.cls idx N.1 "LampHouse" ∈ z_nst) && z_T (.static N.1)) = true)
    {bs rest : List Value} (hn : bs.length = n) (hck : Nat.ble (z_cs rest) 8 = true) {r : zR} (hcl : z_cl E d mid bs.reverse (z, σ) = some r) (hz : r.2.1 ≤ res.2.1) (K : z_W p l e R s m args below meth c Q x M z0 (pc + 3) ls (r.1.toList ++ rest) r.2.1 r.2.2) : z ≤ r.2.1 ∧ z_W p l e R s m args below meth c Q x M z0 pc ls (bs ++ rest) z σ := by
  have X' := X
  obtain ⟨hx, hb, hml, hown, hts, hF, hsz, hfr, hlo, hRc, hRs, -⟩ := X
  simp only [Bool.and_eq_true, decide_eq_true_eq] at ok
  obtain ⟨⟨o1, o2⟩, o3⟩ := ok
  obtain ⟨q1, q2, q3, q4⟩ := z_okc_inv o1
  have hcs := Nat.ble_eq.mp hck
  have hf1 := z_f1 hF.2.2.2.2.2.2.2.2.2.2.2
  refine z_cl1 X' HC hN hcl hz K fun hM H locs cells slots rls hP hS hsl hU hrm => ?_
  exact va_runSN (As := bs.reverse.map (z_tr x)) (rest := rest.map (z_tr x)) (g := F0 m pc rls ((bs ++ rest).map (z_tr x))) (nL := M.2.2.1) ⟨hx, hb, hml, hown, hts⟩ hM ⟨va_cnB n hts (z_ws_good q1) rfl rfl rfl (hF.2.2.2.2.2.2.2.2.1 _ o2) (hts _ (z_T_in q2)) q3 ⟨by show d + 1 ≤ _; exact hfr, by show 8 + (N.2.2.1 + 11) + 64 * d ≤ _; omega⟩, hts _ (z_T_in o3), trivial⟩ ⟨z_blind, hU⟩ rfl (by simp [hn]) hsl (by simp) (lv_room (by rw [z_cs_eq hf1]; exact hcs)) hd hrm
theorem z_iv2 (X : z_Fx p R s m args meth c x E M d z0 res) (HC : z_Ct l x E d) {mid n : Nat} (hd : decode M.2.1 pc = .ok (.invokespecial idx, 3)) {N : zM} (hN : z_mt mid = some N) (ok : (z_okc N n && z_T (.methodLink M.1.cls idx N.1) && z_T (.instanceMethod N.1) && decide (N.1.name = "<init>") && decide (N.2.2.2.1 = none)) = true)
    {bs rest : List Value} {a : Nat} (hn : bs.length = n) (hck : (Nat.blt a 1000 && Nat.ble (z_cs rest) 8) = true) {r : zR} (hcl : z_cl E d mid (.ref a :: bs.reverse) (z, σ) = some r) (hz : r.2.1 ≤ res.2.1) (K : z_W p l e R s m args below meth c Q x M z0 (pc + 3) ls (r.1.toList ++ rest) r.2.1 r.2.2) : z ≤ r.2.1 ∧ z_W p l e R s m args below meth c Q x M z0 pc ls (bs ++ .ref a :: rest) z σ := by
  have X' := X
  obtain ⟨hx, hb, hml, hown, hts, hF, hsz, hfr, hlo, hRc, hRs, -⟩ := X
  simp only [Bool.and_eq_true, decide_eq_true_eq] at ok hck
  obtain ⟨⟨⟨⟨o1, o2⟩, o3⟩, o4⟩, o5⟩ := ok
  obtain ⟨q1, q2, q3, q4⟩ := z_okc_inv o1
  have ha := Nat.ble_eq.mp hck.1
  have hcs := Nat.ble_eq.mp hck.2
  have hf1 := z_f1 hF.2.2.2.2.2.2.2.2.2.2.2
  have hb' : z_tr x (.ref a) = .ref (x.1 + a) := z_tr_ref ha
  refine z_cl1 X' HC hN hcl hz K fun hM H locs cells slots rls hP hS hsl hU hrm => ?_
  rw [List.map_cons, hb'] at hU ⊢
  refine va_runI (bytes := N.2.1) (maxL := N.2.2.1) (n := n) (As := bs.reverse.map (z_tr x)) (rest := rest.map (z_tr x)) (g := F0 m pc rls ((bs ++ .ref a :: rest).map (z_tr x))) (nL := M.2.2.1) ⟨hx, hb, hml, hown, hts⟩ hM (cwI n hts (z_ws_good q1) (by show _ :: _ = _; rw [o5]) rfl rfl (hts _ (z_T_in q2)) (hts _ (z_T_in o2)) (hts _ (z_T_in o3)) o4 q3 ⟨by show d + 1 ≤ _; exact hfr, by show 8 + (N.2.2.1 + 11) + 64 * d ≤ _; omega⟩) ⟨z_blind, hU⟩ rfl (by simp [hn]) hsl (by simp [hb']) (lv_room (by rw [z_cs_eq hf1]; exact hcs)) hd hrm
theorem z_iv4 (X : z_Fx p R s m args meth c x E M d z0 res) (HC : z_Ct l x E d) {mid n : Nat} (hd : decode M.2.1 pc = .ok (.invokespecial idx, 3)) {N : zM} (hN : z_mt mid = some N) (ok : (z_okc N n && decide (Cond.methodLinkNest M.1.cls idx N.1 "LampHouse" ∈ z_nst) && z_T (.instanceMethod N.1) && decide (N.1.name = "<init>") && decide (N.2.2.2.1 = none)) = true)
    {bs rest : List Value} {a : Nat} (hn : bs.length = n) (hck : (Nat.blt a 1000 && Nat.ble (z_cs rest) 8) = true) {r : zR} (hcl : z_cl E d mid (.ref a :: bs.reverse) (z, σ) = some r) (hz : r.2.1 ≤ res.2.1) (K : z_W p l e R s m args below meth c Q x M z0 (pc + 3) ls (r.1.toList ++ rest) r.2.1 r.2.2) : z ≤ r.2.1 ∧ z_W p l e R s m args below meth c Q x M z0 pc ls (bs ++ .ref a :: rest) z σ := by
  have X' := X
  obtain ⟨hx, hb, hml, hown, hts, hF, hsz, hfr, hlo, hRc, hRs, -⟩ := X
  simp only [Bool.and_eq_true, decide_eq_true_eq] at ok hck
  obtain ⟨⟨⟨⟨o1, o2⟩, o3⟩, o4⟩, o5⟩ := ok
  obtain ⟨q1, q2, q3, q4⟩ := z_okc_inv o1
  have ha := Nat.ble_eq.mp hck.1
  have hcs := Nat.ble_eq.mp hck.2
  have hf1 := z_f1 hF.2.2.2.2.2.2.2.2.2.2.2
  have hb' : z_tr x (.ref a) = .ref (x.1 + a) := z_tr_ref ha
  refine z_cl1 X' HC hN hcl hz K fun hM H locs cells slots rls hP hS hsl hU hrm => ?_
  rw [List.map_cons, hb'] at hU ⊢
  refine va_runIN (bytes := N.2.1) (maxL := N.2.2.1) (n := n) (host := "LampHouse") (As := bs.reverse.map (z_tr x)) (rest := rest.map (z_tr x)) (g := F0 m pc rls ((bs ++ .ref a :: rest).map (z_tr x))) (nL := M.2.2.1) ⟨hx, hb, hml, hown, hts⟩ hM ⟨va_cnB n hts (z_ws_good q1) (by show _ :: _ = _; rw [o5]) rfl rfl (hF.2.2.2.2.2.2.2.2.1 _ o2) (hts _ (z_T_in q2)) q3 ⟨by show d + 1 ≤ _; exact hfr, by show 8 + (N.2.2.1 + 11) + 64 * d ≤ _; omega⟩, o4, hts _ (z_T_in o3)⟩ ⟨z_blind, hU⟩ rfl (by simp [hn]) hsl (by simp [hb']) (lv_room (by rw [z_cs_eq hf1]; exact hcs)) hd hrm
theorem z_iv6 (X : z_Fx p R s m args meth c x E M d z0 res) (hd : decode M.2.1 pc = .ok (.invokespecial idx, 3)) (ok : (z_T (.methodLink M.1.cls idx Lib.objectInit) && z_T (.instanceMethod Lib.objectInit) && z_T (.code Lib.objectInit ⟨#[0xb1]⟩ 1 none)) = true) {rest : List Value} {a : Nat} (hck : (Nat.blt a 1000 && Nat.ble (z_cs rest) 8) = true) (K : z_W p l e R s m args below meth c Q x M z0 (pc + 3) ls rest z σ) : z ≤ z ∧ z_W p l e R s m args below meth c Q x M z0 pc ls (.ref a :: rest) z σ := by
  obtain ⟨hx, hb, hml, hown, hts, hF, hsz, hfr, hlo, hRc, hRs, -⟩ := X
  simp only [Bool.and_eq_true] at ok hck
  obtain ⟨⟨o1, o2⟩, o3⟩ := ok
  have ha := Nat.ble_eq.mp hck.1
  have hcs := Nat.ble_eq.mp hck.2
  have hf1 := z_f1 hF.2.2.2.2.2.2.2.2.2.2.2
  refine ⟨Nat.le_refl _, fun H locs cells slots rls hP hS hc hs hl => ?_⟩
  have K := K H locs cells slots rls hP hS hc hs hl
  rw [List.map_cons, z_tr_ref ha]
  have hr := lv_room (m := m) (pc := pc) (ls := rls) (rest := Value.ref (x.1 + a) :: rest.map (z_tr x)) (st := rest.map (z_tr x)) (by rw [z_cs_eq hf1]; exact hcs)
  exact W.objInit hx hb hown (hts _ (z_T_in o1)) (hts _ (z_T_in o2)) (hts _ (z_T_in o3)) rfl (by rw [hml]; exact hl.1) rfl hd (by omega) (by omega) K
theorem z_iv7 (X : z_Fx p R s m args meth c x E M d z0 res) (hd : decode M.2.1 pc = .ok (.invokestatic idx, 3)) (ok : (z_T (.methodLink M.1.cls idx Lib.Math.max.name) && z_T (.static Lib.Math.max.name) && z_T (.initialized "java/lang/Math") && z_T (.code Lib.Math.max.name Lib.Math.max.code 2 (some .int))) = true) {rest : List Value} {v w : Int32} (hck : Nat.ble (z_cs rest) 8 = true) (hz : z ≤ res.2.1) (K : z_W p l e R s m args below meth c Q x M z0 (pc + 3) ls (.int (if v < w then w else v) :: rest) z σ) : z ≤ z ∧ z_W p l e R s m args below meth c Q x M z0 pc ls (.int w :: .int v :: rest) z σ := by
  obtain ⟨hx, hb, hml, hown, hts, hF, hsz, hfr, hlo, hRc, hRs, -⟩ := X
  simp only [Bool.and_eq_true] at ok
  obtain ⟨⟨⟨o1, o2⟩, o3⟩, o4⟩ := ok
  have hcs := Nat.ble_eq.mp hck
  have hf1 := z_f1 hF.2.2.2.2.2.2.2.2.2.2.2
  refine ⟨Nat.le_refl _, fun H locs cells slots rls hP hS hc hs hl => ?_⟩
  have s2 : z_SL z ≤ z_SL res.2.1 := z_SL_mono hz
  exact va_mmax hx hb (by rw [hml]; exact hl.1.symm) hown (hts _ (z_T_in o1)) (hts _ (z_T_in o2)) (hts _ (z_T_in o3)) (hts _ (z_T_in o4)) (by omega) (by rw [z_cs_eq hf1]; omega) (by omega) (by omega) hd (K H locs cells slots rls hP hS hc hs hl)
theorem z_iv8 (X : z_Fx p R s m args meth c x E M d z0 res) (hd : decode M.2.1 pc = .ok (.invokestatic idx, 3)) (ok : (z_T (.methodLink M.1.cls idx Lib.Math.min.name) && z_T (.static Lib.Math.min.name) && z_T (.initialized "java/lang/Math") && z_T (.code Lib.Math.min.name Lib.Math.min.code 2 (some .int))) = true) {rest : List Value} {v w : Int32} (hck : Nat.ble (z_cs rest) 8 = true) (hz : z ≤ res.2.1) (K : z_W p l e R s m args below meth c Q x M z0 (pc + 3) ls (.int (if w < v then w else v) :: rest) z σ) : z ≤ z ∧ z_W p l e R s m args below meth c Q x M z0 pc ls (.int w :: .int v :: rest) z σ := by
  obtain ⟨hx, hb, hml, hown, hts, hF, hsz, hfr, hlo, hRc, hRs, -⟩ := X
  simp only [Bool.and_eq_true] at ok
  obtain ⟨⟨⟨o1, o2⟩, o3⟩, o4⟩ := ok
  have hcs := Nat.ble_eq.mp hck
  have hf1 := z_f1 hF.2.2.2.2.2.2.2.2.2.2.2
  refine ⟨Nat.le_refl _, fun H locs cells slots rls hP hS hc hs hl => ?_⟩
  have s2 : z_SL z ≤ z_SL res.2.1 := z_SL_mono hz
  exact va_mmin hx hb (by rw [hml]; exact hl.1.symm) hown (hts _ (z_T_in o1)) (hts _ (z_T_in o2)) (hts _ (z_T_in o3)) (hts _ (z_T_in o4)) (by omega) (by rw [z_cs_eq hf1]; omega) (by omega) (by omega) hd (K H locs cells slots rls hP hS hc hs hl)
theorem z_iv9 (X : z_Fx p R s m args meth c x E M d z0 res) (hd : decode M.2.1 pc = .ok (.invokestatic idx, 3)) (ok : (z_T (.methodLink M.1.cls idx Lib.MathLoose.min_long.x) && z_T (.static Lib.MathLoose.min_long.x) && z_T (.initialized "java/lang/Math") && z_T (.code Lib.MathLoose.min_long.x Lib.MathLoose.min_long.code 4 (some .long))) = true) {rest : List Value} {v w : Int64} (hck : Nat.ble (z_cs rest) 8 = true) (hz : z ≤ res.2.1) (K : z_W p l e R s m args below meth c Q x M z0 (pc + 3) ls (.long (if w < v then w else v) :: rest) z σ) : z ≤ z ∧ z_W p l e R s m args below meth c Q x M z0 pc ls (.long w :: .long v :: rest) z σ := by
  obtain ⟨hx, hb, hml, hown, hts, hF, hsz, hfr, hlo, hRc, hRs, -⟩ := X
  simp only [Bool.and_eq_true] at ok
  obtain ⟨⟨⟨o1, o2⟩, o3⟩, o4⟩ := ok
  have hcs := Nat.ble_eq.mp hck
  have hf1 := z_f1 hF.2.2.2.2.2.2.2.2.2.2.2
  refine ⟨Nat.le_refl _, fun H locs cells slots rls hP hS hc hs hl => ?_⟩
  have s2 : z_SL z ≤ z_SL res.2.1 := z_SL_mono hz
  exact va_mmin_long hx hb (by rw [hml]; exact hl.1.symm) hown (hts _ (z_T_in o1)) (hts _ (z_T_in o2)) (hts _ (z_T_in o3)) (hts _ (z_T_in o4)) (by omega) (by rw [z_cs_eq hf1]; omega) (by omega) (by omega) hd (K H locs cells slots rls hP hS hc hs hl)
theorem z_iv10 (X : z_Fx p R s m args meth c x E M d z0 res) (hd : decode M.2.1 pc = .ok (.invokestatic idx, 3)) (ok : (z_T (.methodLink M.1.cls idx Lib.MathLoose.abs_long.x) && z_T (.static Lib.MathLoose.abs_long.x) && z_T (.initialized "java/lang/Math") && z_T (.code Lib.MathLoose.abs_long.x Lib.MathLoose.abs_long.code 2 (some .long))) = true) {rest : List Value} {v : Int64} (hck : Nat.ble (z_cs rest) 8 = true) (hz : z ≤ res.2.1) (K : z_W p l e R s m args below meth c Q x M z0 (pc + 3) ls (.long (if 0 < v then v else -v) :: rest) z σ) : z ≤ z ∧ z_W p l e R s m args below meth c Q x M z0 pc ls (.long v :: rest) z σ := by
  obtain ⟨hx, hb, hml, hown, hts, hF, hsz, hfr, hlo, hRc, hRs, -⟩ := X
  simp only [Bool.and_eq_true] at ok
  obtain ⟨⟨⟨o1, o2⟩, o3⟩, o4⟩ := ok
  have hcs := Nat.ble_eq.mp hck
  have hf1 := z_f1 hF.2.2.2.2.2.2.2.2.2.2.2
  refine ⟨Nat.le_refl _, fun H locs cells slots rls hP hS hc hs hl => ?_⟩
  have s2 : z_SL z ≤ z_SL res.2.1 := z_SL_mono hz
  exact va_mabs_long hx hb (by rw [hml]; exact hl.1.symm) hown (hts _ (z_T_in o1)) (hts _ (z_T_in o2)) (hts _ (z_T_in o3)) (hts _ (z_T_in o4)) (by omega) (by rw [z_cs_eq hf1]; omega) (by omega) (by omega) hd (K H locs cells slots rls hP hS hc hs hl)
end SIMG
