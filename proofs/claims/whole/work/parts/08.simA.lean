-- THE PURE STEP IS THE MACHINE'S: instructions on stack and locals
/-- what a method's walk stands on -/
def z_Fx (p : Program) (R : Room) (s : State) (m : MethodId) (args : Array Value) (meth : Method) (c : Code) (x : zX) (E : zE) (M : zM) (d z0 : Nat) (res : zR) : Prop :=
  p.tables.exec = Jvm.exec ∧ c.code = M.2.1 ∧ c.maxLocals = M.2.2.1 ∧ s.vm.findClass M.1.cls = some m.cls ∧ (∀ w ∈ z_tbl, w.before args s = true) ∧ z_F x E s ∧ s.heap.size = x.1 + z0 ∧ d + 1 ≤ R.frames ∧ 64 * (d + 1) ≤ R.locals ∧ res.2.1 - z0 ≤ R.cells ∧ z_SL res.2.1 - z_SL z0 ≤ R.slots ∧ (M.2.2.2.2.1 = true → meth.name = "<init>")
/-- from a pure state the machine comes to Q -/
def z_W (p : Program) (l : Launch) (e : Env) (R : Room) (s : State) (m : MethodId) (args : Array Value) (below : List Frame) (meth : Method) (c : Code) (Q : State → Prop) (x : zX) (M : zM) (z0 : Nat) (pc : Nat) (ls : zL) (st : List Value) (z : Nat) (σ : zS) : Prop :=
  ∀ (H : Heap) (locs : List Loc) (cells slots : Nat) (rls : Array Slot), va_P x.2.1 vwCl (z_wl x z σ) H → va_S (z_B x) s.heap H locs → cells + z0 = z → slots + z_SL z0 = z_SL z → lv_has rls M.2.2.1 (z_lp x 0 ls) → W p l e R s m args below meth c H locs cells slots Q (F0 m pc rls (st.map (z_tr x)))
theorem z_st1 {x : zX} {ls : zL} {rls : Array Slot} {nL i : Nat} {v : Value} (hf : x.2.2.2.2.category = 1) (hv : v.category = 1) (h : lv_has rls nL ((i, z_tr x v) :: (z_lp x 0 ls).filter (fun q => !(q.1 == i) && !(q.1 + 1 == i && q.2.category == 2)))) : lv_has rls nL (z_lp x 0 (z_s1 ls i v)) := by
  refine z_lp_sub h fun q hq => ?_
  obtain ⟨j, w, h1, rfl⟩ := (z_lp_mem _ 0 q).mp hq
  rcases z_s1_get ls i v j w h1 with ⟨rfl, rfl⟩ | ⟨h2, h3, h4⟩
  · rw [Nat.zero_add]; exact List.mem_cons_self
  · refine List.mem_cons_of_mem _ (List.mem_filter.mpr ⟨(z_lp_mem ls 0 _).mpr ⟨j, w, h3, rfl⟩, ?_⟩)
    simp only [Nat.zero_add, z_tr_cat hf]
    simp only [Bool.and_eq_true, Bool.not_eq_true', Bool.and_eq_false_iff, beq_eq_false_iff_ne]
    refine ⟨h2, ?_⟩
    by_cases q1 : j + 1 = i
    · refine Or.inr fun q2 => h4 ⟨q1, ?_⟩
      cases w <;> simp [Value.category] at q2 <;> rfl
    · exact Or.inl q1
theorem z_st2 {x : zX} {ls : zL} {rls : Array Slot} {nL i : Nat} {v : Value} (hf : x.2.2.2.2.category = 1) (h : lv_has rls nL ((i, z_tr x v) :: (z_lp x 0 ls).filter (fun q => !(q.1 == i) && (!(q.1 == i + 1) && !(q.1 + 1 == i && q.2.category == 2))))) : lv_has rls nL (z_lp x 0 (z_s2 ls i v)) := by
  refine z_lp_sub h fun q hq => ?_
  obtain ⟨j, w, h1, rfl⟩ := (z_lp_mem _ 0 q).mp hq
  rcases z_s2_get ls i v j w h1 with ⟨rfl, rfl⟩ | ⟨h2, h2', h3, h4⟩
  · rw [Nat.zero_add]; exact List.mem_cons_self
  · refine List.mem_cons_of_mem _ (List.mem_filter.mpr ⟨(z_lp_mem ls 0 _).mpr ⟨j, w, h3, rfl⟩, ?_⟩)
    simp only [Nat.zero_add, z_tr_cat hf]
    simp only [Bool.and_eq_true, Bool.not_eq_true', Bool.and_eq_false_iff, beq_eq_false_iff_ne]
    refine ⟨h2, h2', ?_⟩
    by_cases q1 : j + 1 = i
    · refine Or.inr fun q2 => h4 ⟨q1, ?_⟩
      cases w <;> simp [Value.category] at q2 <;> rfl
    · exact Or.inl q1
section SIMA
variable {p : Program} {l : Launch} {e : Env} {R : Room} {s : State} {m : MethodId} {args : Array Value} {below : List Frame} {meth : Method} {c : Code} {Q : State → Prop} {x : zX} {E : zE} {M : zM} {d z0 : Nat} {res : zR}
variable {cal : Nat → List Value → zG → Option zR} {pc : Nat} {ls : zL} {st : List Value} {z : Nat} {σ : zS} {pc' : Nat} {ls' : zL} {st' : List Value} {z' : Nat} {σ' : zS} {len : Nat} {ts : List Nat} {cv : Value}
/-- what a step theorem gives -/
abbrev z_Step (p : Program) (l : Launch) (e : Env) (R : Room) (s : State) (m : MethodId) (args : Array Value) (below : List Frame) (meth : Method) (c : Code) (Q : State → Prop) (x : zX) (M : zM) (z0 : Nat) (pc : Nat) (ls : zL) (st : List Value) (z : Nat) (σ : zS) (y : zP ⊕ zR) : Prop := match y with
  | .inl (pc', ls', st', z', σ') => z_W p l e R s m args below meth c Q x M z0 pc' ls' st' z' σ' → z ≤ z' ∧ z_W p l e R s m args below meth c Q x M z0 pc ls st z σ
  | .inr _ => True
theorem z_goS (h : z_W p l e R s m args below meth c Q x M z0 pc' ls' st' z' σ' → z ≤ z' ∧ z_W p l e R s m args below meth c Q x M z0 pc ls st z σ) {y : zP ⊕ zR} (hy : z_go pc' ls' st' z' σ' = some y) : z_Step p l e R s m args below meth c Q x M z0 pc ls st z σ y := by
  rw [z_go_inv hy]
  exact h
theorem z_ld {k : Nat} {v : Value} (hd : ∀ {H : Heap} {locs : List Loc} {cells slots : Nat} {rls : Array Slot} {rest : List Value}, rls[k]? = some (.val (z_tr x v)) → W p l e R s m args below meth c H locs cells slots Q (F0 m pc' rls (z_tr x v :: rest)) → W p l e R s m args below meth c H locs cells slots Q (F0 m pc rls rest)) (hg : z_gl ls k = some v) (K : z_W p l e R s m args below meth c Q x M z0 pc' ls (v :: st) z σ) : z ≤ z ∧ z_W p l e R s m args below meth c Q x M z0 pc ls st z σ := by
  refine ⟨Nat.le_refl _, fun H locs cells slots rls hP hS hc hs hl => ?_⟩
  exact hd (z_lp_at hl hg) (K H locs cells slots rls hP hS hc hs hl)
theorem z_pu {v : Value} (hd : ∀ {H : Heap} {locs : List Loc} {cells slots : Nat} {rls : Array Slot} {rest : List Value}, va_S (z_B x) s.heap H locs → W p l e R s m args below meth c H locs cells slots Q (F0 m pc' rls (z_tr x v :: rest)) → W p l e R s m args below meth c H locs cells slots Q (F0 m pc rls rest)) (K : z_W p l e R s m args below meth c Q x M z0 pc' ls (v :: st) z σ) : z ≤ z ∧ z_W p l e R s m args below meth c Q x M z0 pc ls st z σ := by
  refine ⟨Nat.le_refl _, fun H locs cells slots rls hP hS hc hs hl => ?_⟩
  exact hd hS (K H locs cells slots rls hP hS hc hs hl)
/-- a change of the stack alone -/
theorem z_sk (hd : ∀ {H : Heap} {locs : List Loc} {cells slots : Nat} {rls : Array Slot}, W p l e R s m args below meth c H locs cells slots Q (F0 m pc' rls (st'.map (z_tr x))) → W p l e R s m args below meth c H locs cells slots Q (F0 m pc rls (st.map (z_tr x)))) (K : z_W p l e R s m args below meth c Q x M z0 pc' ls st' z σ) : z ≤ z ∧ z_W p l e R s m args below meth c Q x M z0 pc ls st z σ :=
  ⟨Nat.le_refl _, fun H locs cells slots rls hP hS hc hs hl => hd (K H locs cells slots rls hP hS hc hs hl)⟩
theorem z_b2 {t n : Nat} {P : Prop} {_ : Decidable P} {y : zP ⊕ zR} (h : (if P then z_go t ls st' z σ else z_go n ls st' z σ) = some y)
    (hd : ∀ {H : Heap} {locs : List Loc} {cells slots : Nat} {rls : Array Slot}, (P → W p l e R s m args below meth c H locs cells slots Q (F0 m t rls (st'.map (z_tr x)))) → (¬ P → W p l e R s m args below meth c H locs cells slots Q (F0 m n rls (st'.map (z_tr x)))) → W p l e R s m args below meth c H locs cells slots Q (F0 m pc rls (st.map (z_tr x)))) : z_Step p l e R s m args below meth c Q x M z0 pc ls st z σ y := by
  by_cases q : P
  · rw [if_pos q] at h
    refine z_goS (fun K => ?_) h
    exact z_sk (fun k => hd (fun _ => k) (fun n => absurd q n)) K
  · rw [if_neg q] at h
    refine z_goS (fun K => ?_) h
    exact z_sk (fun k => hd (fun n => absurd n q) (fun _ => k)) K
theorem z_brS {cd : Jvm.ClassFile.Cond} {off : Int} {x1 x2 : Int32} {t : Nat} {y : zP ⊕ zR} (hx : p.tables.exec = Jvm.exec) (hb : c.code = M.2.1) (hd : decode M.2.1 pc = .ok (.if_icmp cd off, 3)) (ht : (pc : Int) + off = (t : Int)) (h : z_br cd x1 x2 t (pc + 3) ls st z σ = some y) : z_Step p l e R s m args below meth c Q x M z0 pc ls (.int x2 :: .int x1 :: st) z σ y := by
  cases cd with
  | eq => exact z_b2 h (fun k1 k2 => lv_icmp_eq hx hb hd ht k1 k2)
  | ne => exact z_b2 h (fun k1 k2 => lv_icmp_ne hx hb hd ht (fun q => k2 q) (fun q => k1 q))
  | lt => exact z_b2 h (fun k1 k2 => lv_icmp_lt hx hb hd ht k1 k2)
  | ge => exact z_b2 h (fun k1 k2 => lv_icmp_ge hx hb hd ht (fun q => k2 (Int32.not_lt.mpr q)) (fun q => k1 (Int32.not_le.mp q)))
  | gt => exact z_b2 h (fun k1 k2 => lv_icmp_gt hx hb hd ht k1 k2)
  | le => exact z_b2 h (fun k1 k2 => lv_icmp_le hx hb hd ht (fun q => k2 (Int32.not_lt.mpr q)) (fun q => k1 (Int32.not_le.mp q)))
theorem z_brZ {cd : Jvm.ClassFile.Cond} {off : Int} {x1 : Int32} {t : Nat} {y : zP ⊕ zR} (hx : p.tables.exec = Jvm.exec) (hb : c.code = M.2.1) (hd : decode M.2.1 pc = .ok (.ifCond cd off, 3)) (ht : (pc : Int) + off = (t : Int)) (h : z_br cd x1 0 t (pc + 3) ls st z σ = some y) : z_Step p l e R s m args below meth c Q x M z0 pc ls (.int x1 :: st) z σ y := by
  cases cd with
  | eq => exact z_b2 h (fun k1 k2 => lv_if_eq hx hb hd ht k1 k2)
  | ne => exact z_b2 h (fun k1 k2 => lv_if_ne hx hb hd ht (fun q => k2 q) (fun q => k1 q))
  | lt => exact z_b2 h (fun k1 k2 => lv_if_lt hx hb hd ht k1 k2)
  | ge => exact z_b2 h (fun k1 k2 => lv_if_ge hx hb hd ht (fun q => k2 (Int32.not_lt.mpr q)) (fun q => k1 (Int32.not_le.mp q)))
  | gt => exact z_b2 h (fun k1 k2 => lv_if_gt hx hb hd ht k1 k2)
  | le => exact z_b2 h (fun k1 k2 => lv_if_le hx hb hd ht (fun q => k2 (Int32.not_lt.mpr q)) (fun q => k1 (Int32.not_le.mp q)))
end SIMA
