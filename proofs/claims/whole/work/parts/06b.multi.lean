-- AN ARRAY OF ARRAYS (multianewarray, two dimensions): our own; the outer cell as it will be, and the rows behind it, by pushes alone
def z_mk (U : State) (ci : Cell) : Nat → State
  | 0 => U
  | i + 1 => (z_mk U ci i).pushCell ci
theorem z_mk_size (U : State) (ci : Cell) : ∀ i : Nat, (z_mk U ci i).heap.size = U.heap.size + i
  | 0 => rfl
  | i + 1 => by
    show ((z_mk U ci i).heap.push ci).size = _
    rw [Array.size_push, z_mk_size U ci i]
    omega
theorem z_mk_used (U : State) (ci : Cell) : ∀ i : Nat, (z_mk U ci i).slotsUsed = U.slotsUsed + i * ci.slots.size
  | 0 => by simp [z_mk]
  | i + 1 => by
    show (z_mk U ci i).slotsUsed + ci.slots.size = _
    rw [z_mk_used U ci i, Nat.succ_mul]
    omega
theorem z_mk_vm (U : State) (ci : Cell) : ∀ i : Nat, (z_mk U ci i).vm = U.vm
  | 0 => rfl
  | i + 1 => z_mk_vm U ci i
theorem z_mk_old {U : State} {ci : Cell} {q : Nat} (h : q < U.heap.size) : ∀ i : Nat, (z_mk U ci i).heap[q]? = U.heap[q]?
  | 0 => rfl
  | i + 1 => by
    show ((z_mk U ci i).heap.push ci)[q]? = _
    rw [Array.getElem?_push, if_neg (by rw [z_mk_size]; omega), z_mk_old h i]
theorem z_mk_row (U : State) (ci : Cell) : ∀ i j : Nat, j < i → (z_mk U ci i).heap[U.heap.size + j]? = some ci
  | 0, j, h => absurd h (Nat.not_lt_zero j)
  | i + 1, j, h => by
    show ((z_mk U ci i).heap.push ci)[U.heap.size + j]? = _
    rw [Array.getElem?_push, z_mk_size]
    by_cases e : j = i
    · rw [if_pos (by omega)]
    · rw [if_neg (by omega)]
      exact z_mk_row U ci i j (by omega)
theorem z_mk_top (U : State) (ci : Cell) (f : JFrame) : ∀ i : Nat, z_mk (U.setTop f) ci i = (z_mk U ci i).setTop f
  | 0 => rfl
  | i + 1 => by
    show (z_mk (U.setTop f) ci i).pushCell ci = ((z_mk U ci i).pushCell ci).setTop f
    rw [z_mk_top U ci f i]
    rfl
theorem z_push_set {U : State} {ci cn : Cell} {a : Nat} (h : a < U.heap.size) : (U.pushCell ci).setCell a cn = (U.setCell a cn).pushCell ci := by
  have e : (U.heap.push ci).setIfInBounds a cn = (U.heap.setIfInBounds a cn).push ci := by
    apply Array.ext_getElem?
    intro i
    rw [Array.getElem?_setIfInBounds, Array.getElem?_push, Array.getElem?_push, Array.getElem?_setIfInBounds, Array.size_push, Array.size_setIfInBounds]
    by_cases e1 : a = i
    · subst e1
      rw [if_pos rfl, if_pos (by omega), if_neg (by omega), if_pos rfl, if_pos h]
    · rw [if_neg e1, if_neg e1]
  show ({ U with heap := (U.heap.push ci).setIfInBounds a cn, slotsUsed := U.slotsUsed + ci.slots.size } : State) = { U with heap := (U.heap.setIfInBounds a cn).push ci, slotsUsed := U.slotsUsed + ci.slots.size }
  rw [e]
theorem z_push_new {U : State} {ci cn : Cell} (h : ci.slots.size = cn.slots.size) : (U.pushCell ci).setCell U.heap.size cn = U.pushCell cn := by
  have e : (U.heap.push ci).setIfInBounds U.heap.size cn = U.heap.push cn := by
    apply Array.ext_getElem?
    intro i
    rw [Array.getElem?_setIfInBounds, Array.getElem?_push, Array.getElem?_push, Array.size_push]
    by_cases e1 : U.heap.size = i
    · subst e1
      rw [if_pos rfl, if_pos (by omega), if_pos rfl]
    · rw [if_neg e1, if_neg (fun h => e1 h.symm), if_neg (fun h => e1 h.symm)]
  show ({ U with heap := (U.heap.push ci).setIfInBounds U.heap.size cn, slotsUsed := U.slotsUsed + ci.slots.size } : State) = { U with heap := U.heap.push cn, slotsUsed := U.slotsUsed + cn.slots.size }
  rw [e, h]
theorem z_mk_set {U : State} {ci cn : Cell} {a : Nat} (h : a < U.heap.size) : ∀ i : Nat, (z_mk U ci i).setCell a cn = z_mk (U.setCell a cn) ci i
  | 0 => rfl
  | i + 1 => by
    show ((z_mk U ci i).pushCell ci).setCell a cn = (z_mk (U.setCell a cn) ci i).pushCell ci
    rw [z_push_set (by rw [z_mk_size]; omega), z_mk_set h i]
/-- the outer cell, once i of its rows stand -/
def z_mo (cA : ClassId) (N h0 i : Nat) : Cell := arrV cA N (fun j => if j < i then .ref (h0 + 1 + j) else .null)
theorem z_mo_size (cA : ClassId) (N h0 i : Nat) : (z_mo cA N h0 i).slots.size = N := arrV_size _ _ _
theorem z_mo_0 (cA : ClassId) (N h0 : Nat) : ({ cls := cA, slots := Array.replicate N .null, vm := .none } : Cell) = z_mo cA N h0 0 := by
  rw [arrV_new]
  refine congrArg (arrV cA N) (funext fun j => ?_)
  rw [if_neg (Nat.not_lt_zero j)]
theorem z_mo_s (cA : ClassId) (N h0 i : Nat) : (z_mo cA N h0 i).setSlot i (.ref (h0 + 1 + i)) = z_mo cA N h0 (i + 1) := by
  unfold z_mo
  rw [arrV_store]
  refine congrArg (arrV cA N) (funext fun j => ?_)
  unfold updV
  by_cases e : j = i
  · subst e
    rw [if_pos rfl, if_pos (Nat.lt_succ_self j)]
  · by_cases h : j < i
    · rw [if_neg e]
      show (if j < i then _ else _) = _
      rw [if_pos h, if_pos (Nat.lt_succ_of_lt h)]
    · rw [if_neg e]
      show (if j < i then _ else _) = _
      rw [if_neg h, if_neg (by omega)]
/-- the state, once i rows stand -/
def z_mi (U : State) (cA : ClassId) (N : Nat) (ci : Cell) (i : Nat) : State := z_mk (U.pushCell (z_mo cA N U.heap.size i)) ci i
theorem z_mi_size (U : State) (cA : ClassId) (N : Nat) (ci : Cell) (i : Nat) : (z_mi U cA N ci i).heap.size = U.heap.size + 1 + i := by
  unfold z_mi
  rw [z_mk_size]
  show (U.heap.push _).size + i = _
  rw [Array.size_push]
theorem z_mi_used (U : State) (cA : ClassId) (N : Nat) (ci : Cell) (i : Nat) : (z_mi U cA N ci i).slotsUsed = U.slotsUsed + N + i * ci.slots.size := by
  unfold z_mi
  rw [z_mk_used]
  show U.slotsUsed + (z_mo cA N U.heap.size i).slots.size + _ = _
  rw [z_mo_size]
theorem z_mi_vm (U : State) (cA : ClassId) (N : Nat) (ci : Cell) (i : Nat) : (z_mi U cA N ci i).vm = U.vm := z_mk_vm _ _ _
theorem z_mi_old {U : State} {cA : ClassId} {N : Nat} {ci : Cell} {i q : Nat} (h : q < U.heap.size) : (z_mi U cA N ci i).heap[q]? = U.heap[q]? := by
  unfold z_mi
  rw [z_mk_old (by show q < (U.heap.push _).size; rw [Array.size_push]; omega)]
  show (U.heap.push _)[q]? = _
  rw [Array.getElem?_push, if_neg (by omega)]
theorem z_mi_out (U : State) (cA : ClassId) (N : Nat) (ci : Cell) (i : Nat) : (z_mi U cA N ci i).heap[U.heap.size]? = some (z_mo cA N U.heap.size i) := by
  unfold z_mi
  rw [z_mk_old (by show U.heap.size < (U.heap.push _).size; rw [Array.size_push]; omega)]
  show (U.heap.push _)[U.heap.size]? = _
  rw [Array.getElem?_push, if_pos rfl]
theorem z_mi_row {U : State} {cA : ClassId} {N : Nat} {ci : Cell} {i j : Nat} (h : j < i) : (z_mi U cA N ci i).heap[U.heap.size + 1 + j]? = some ci := by
  have := z_mk_row (U.pushCell (z_mo cA N U.heap.size i)) ci i j h
  rw [show (U.pushCell (z_mo cA N U.heap.size i)).heap.size = U.heap.size + 1 from Array.size_push _] at this
  exact this
theorem z_mi_top (U : State) (cA : ClassId) (N : Nat) (ci : Cell) (f : JFrame) (i : Nat) : z_mi (U.setTop f) cA N ci i = (z_mi U cA N ci i).setTop f := z_mk_top (U.pushCell (z_mo cA N U.heap.size i)) ci f i
theorem z_mi_s (U : State) (cA : ClassId) (N : Nat) (ci : Cell) (i : Nat) : ((z_mi U cA N ci i).pushCell ci).setCell U.heap.size ((z_mo cA N U.heap.size i).setSlot i (.ref (U.heap.size + 1 + i))) = z_mi U cA N ci (i + 1) := by
  rw [z_mo_s]
  show (z_mk (U.pushCell (z_mo cA N U.heap.size i)) ci (i + 1)).setCell U.heap.size (z_mo cA N U.heap.size (i + 1)) = z_mk (U.pushCell (z_mo cA N U.heap.size (i + 1))) ci (i + 1)
  rw [z_mk_set (by show U.heap.size < (U.heap.push _).size; rw [Array.size_push]; omega), z_push_new (by rw [z_mo_size, z_mo_size])]
/-- one row -/
def z_mr (comp : ClassId) (K : Nat) : Cell := { cls := comp, slots := Array.replicate K (.int 0), vm := .none }
theorem z_mr_size (comp : ClassId) (K : Nat) : (z_mr comp K).slots.size = K := Array.size_replicate
theorem z_wp_row {comp cc : ClassId} {k : Int32} {kc : Class} {E : CtlPost} {e : Env} {d : Bool} {acts : List Action} {U : State} {Q : Addr → Pre} (hkc : U.vm.classes[comp]? = some kc) (hkind : kc.kind = .array cc .int) (hk : ¬ k < 0)
    (hl : ¬ k.toNatClampNeg > e.platform.arrayLengthLimit) (hh : ¬ k.toNatClampNeg * componentBytes .int > e.platform.maxHeapBytes) (hcells : U.heap.size < e.platform.maxCells) (hslots : U.slotsUsed + k.toNatClampNeg ≤ e.platform.maxSlots)
    (hq : ∀ acts' : List Action, Q U.heap.size d acts' (U.pushCell (z_mr comp k.toNatClampNeg))) : wp (multianewarray.make comp [k]) Q E e d acts U := by
  unfold multianewarray.make
  simp only [wp_bind', W.ite, hk, if_false, wp_pure', W.theClass, hkc, Option.some.injEq, exists_eq_left', hkind]
  exact W.newArray_of hkc hkind hl hh hcells hslots rfl hq
theorem z_wp_rows {cA comp cc : ClassId} {n k : Int32} {kA kc : Class} {E : CtlPost} {e : Env} {d : Bool} {acts : List Action} {U : State} {Q : Addr → Pre} (hkA : U.vm.classes[cA]? = some kA) (hkindA : kA.kind = .array comp (.array .int)) (hkc : U.vm.classes[comp]? = some kc) (hkind : kc.kind = .array cc .int) (hn : ¬ n < 0) (hk : ¬ k < 0)
    (hl1 : ¬ n.toNatClampNeg > e.platform.arrayLengthLimit) (hh1 : ¬ n.toNatClampNeg * componentBytes (.array .int) > e.platform.maxHeapBytes) (hl : ¬ k.toNatClampNeg > e.platform.arrayLengthLimit) (hh : ¬ k.toNatClampNeg * componentBytes .int > e.platform.maxHeapBytes)
    (hcells : U.heap.size + (1 + n.toNatClampNeg) ≤ e.platform.maxCells) (hslots : U.slotsUsed + (n.toNatClampNeg + n.toNatClampNeg * k.toNatClampNeg) ≤ e.platform.maxSlots)
    (hq : ∀ (d' : Bool) (acts' : List Action), Q U.heap.size d' acts' (z_mi U cA n.toNatClampNeg (z_mr comp k.toNatClampNeg) n.toNatClampNeg)) : wp (multianewarray.make cA [n, k]) Q E e d acts U := by
  have hfind : List.find? (fun x : Int32 => decide (x < 0)) [k] = none := by simp [hk]
  unfold multianewarray.make
  simp only [wp_bind', W.ite, hn, if_false, wp_pure', W.theClass, hkA, Option.some.injEq, exists_eq_left', hkindA]
  refine W.newArray_of hkA hkindA hl1 hh1 (by omega) (by omega) rfl (fun acts1 => ?_)
  rw [show U.pushCell { cls := cA, slots := Array.replicate n.toNatClampNeg .null } = z_mi U cA n.toNatClampNeg (z_mr comp k.toNatClampNeg) 0 from congrArg U.pushCell (z_mo_0 cA n.toNatClampNeg U.heap.size)]
  simp only [hfind, ite_self, wp_bind', Std.Legacy.Range.forIn_eq_forIn_range']
  refine wp_forIn_inv (fun rest s' => ∃ i : Nat, i ≤ n.toNatClampNeg ∧ rest = List.range' i (n.toNatClampNeg - i) 1 ∧ s' = z_mi U cA n.toNatClampNeg (z_mr comp k.toNatClampNeg) i) _ _ ?_ ?_ ?_
  · refine ⟨0, Nat.zero_le _, ?_, rfl⟩
    simp [Std.Legacy.Range.size]
  · rintro i rest s' d' acts' Q' ⟨t, ht, hr, rfl⟩ hQ'
    obtain ⟨w, hw⟩ : ∃ w : Nat, n.toNatClampNeg - t = w + 1 := by
      cases h : n.toNatClampNeg - t with
      | zero => rw [h] at hr; cases hr
      | succ w => exact ⟨w, rfl⟩
    rw [hw, List.range'_succ] at hr
    obtain ⟨rfl, rfl⟩ := List.cons.inj hr
    have hlt : i < n.toNatClampNeg := by omega
    have hmul : i * k.toNatClampNeg + k.toNatClampNeg ≤ n.toNatClampNeg * k.toNatClampNeg := by
      rw [← Nat.succ_mul]
      exact Nat.mul_le_mul_right _ hlt
    simp only [wp_bind', wp_pure']
    refine z_wp_row (kc := kc) (by rw [z_mi_vm]; exact hkc) hkind hk hl hh (by rw [z_mi_size]; omega) (by rw [z_mi_used, z_mr_size]; omega) (fun acts2 => ?_)
    rw [wp_bind', W.writeLoc]
    refine ⟨z_mo cA n.toNatClampNeg U.heap.size i, ?_, ?_, ?_, ?_, ?_⟩
    · show ((z_mi U cA n.toNatClampNeg (z_mr comp k.toNatClampNeg) i).heap.push _)[U.heap.size]? = _
      rw [Array.getElem?_push, if_neg (by rw [z_mi_size]; omega)]
      exact z_mi_out _ _ _ _ _
    · intro h; cases h
    · rw [z_mo_size]; exact hlt
    · show State.fitsSlot (z_mi U cA n.toNatClampNeg (z_mr comp k.toNatClampNeg) i) cA .none i _ = true
      simp [State.fitsSlot, State.slotType?, z_mi_vm, hkA, hkindA, fits]
    · rw [wp_pure', z_mi_size, z_mi_s]
      exact hQ' _ _ _ ⟨i + 1, by omega, by rw [show n.toNatClampNeg - (i + 1) = w by omega], rfl⟩
  · rintro s' d' acts' ⟨t, ht, hr, rfl⟩
    have e1 : n.toNatClampNeg - t = 0 := by
      cases h : n.toNatClampNeg - t with
      | zero => rfl
      | succ w => rw [h, List.range'_succ] at hr; cases hr
    obtain rfl : t = n.toNatClampNeg := by omega
    exact hq _ _
section MULTI
variable {p : Program} {l : Launch} {e : Env} {R : Room} {s : State} {m : MethodId} {args : Array Value} {below : List Frame} {meth : Method} {c : Code} {T : State} {H : Heap} {locs : List Loc} {cells slots : Nat} {Q : State → Prop}
theorem z_mk_stand {ci : Cell} (X : Stand p l e R s m args below meth c T locs cells slots) : ∀ i : Nat, Stand p l e R s m args below meth c (z_mk T ci i) locs (cells + i) (slots + i * ci.slots.size)
  | 0 => by
    rw [Nat.zero_mul]
    exact X
  | i + 1 => by
    have h := (z_mk_stand (ci := ci) X i).pushed ci
    rw [Nat.succ_mul, ← Nat.add_assoc, ← Nat.add_assoc]
    exact h
theorem z_mi_stand {ci : Cell} {cA : ClassId} {N : Nat} (X : Stand p l e R s m args below meth c T locs cells slots) (i : Nat) : Stand p l e R s m args below meth c (z_mi T cA N ci i) locs (cells + 1 + i) (slots + N + i * ci.slots.size) := by
  have h := z_mk_stand (ci := ci) (X.pushed (z_mo cA N T.heap.size i)) i
  rw [z_mo_size] at h
  exact h
theorem z_multi {cc : ByteArray} (hexec : p.tables.exec = Jvm.exec) (hb : c.code = cc) {own : String} {index : Nat} (hown : s.vm.findClass own = some m.cls) (hclink : (Cond.classLink own index "[[I").before args s = true) (hover : (Cond.arrayOver (.array .int)).before #[] s = true) (hac : (Cond.arrayClass .int).before args s = true)
    {g : JFrame} (hg : g.method = m) (hdg : decode cc g.pc = .ok (.multianewarray index 2, 4)) {n k : Int32} {rest : List Value} (hstack : g.stack = .int k :: .int n :: rest) (hn : ¬ n < 0) (hk : ¬ k < 0) (hn1 : n.toNatClampNeg ≤ 1000) (hk1 : k.toNatClampNeg ≤ 1000)
    (hcells : cells + (1 + n.toNatClampNeg) ≤ R.cells) (hslots : slots + (n.toNatClampNeg + n.toNatClampNeg * k.toNatClampNeg) ≤ R.slots)
    (kk : ∀ (cA comp : ClassId) (H1 : Heap), s.vm.findClass "[[I" = some cA → s.vm.findClass "[I" = some comp → H1.size = H.size + 1 + n.toNatClampNeg → H1[H.size]? = some (z_mo cA n.toNatClampNeg H.size n.toNatClampNeg) → (∀ j : Nat, j < n.toNatClampNeg → H1[H.size + 1 + j]? = some (z_mr comp k.toNatClampNeg)) → (∀ q : Nat, q < H.size → H1[q]? = H[q]?) →
      W p l e R s m args below meth c H1 locs (cells + 1 + n.toNatClampNeg) (slots + n.toNatClampNeg + n.toNatClampNeg * k.toNatClampNeg) Q { g with pc := g.pc + 4, stack := .ref H.size :: rest }) : W p l e R s m args below meth c H locs cells slots Q g := by
  intro T hT X
  subst hT; subst hb; subst hg
  have hpl : e.platform.magicAccessors = ({} : Platform).magicAccessors := by rw [X.admits.platform]
  obtain ⟨comp, cA, kA, hcomp, -, hkA, hkindA, hnameA⟩ := arrayOverA_spec hover
  obtain ⟨comp', kc, cc', hcomp', hkc, hkind⟩ := Cond.arrayClass_spec hac
  have hnA : s.vm.findClass "[[I" = some cA := hnameA
  have hnC : s.vm.findClass "[I" = some comp := hcomp
  have hnC' : s.vm.findClass "[I" = some comp' := hcomp'
  cases hnC.symm.trans hnC'
  obtain ⟨cB, hfB, hcl⟩ := Cond.classLink_spec hown hclink e.platform hpl
  cases hnA.symm.trans hfB
  obtain ⟨hg₁, hwarm₁, hready₁⟩ := State.classEntry (e := e) X.warmed hcl
  generalize T.vm.noted g.method.cls index (.cls cA) = vm₁ at hg₁ hwarm₁ hready₁
  have hal : s.vm.Alike vm₁ := hwarm₁.alike
  obtain ⟨kA₁, hkA₁, heA⟩ := hal.2.2 _ _ hkA
  obtain ⟨kc₁, hkc₁, hec⟩ := hal.2.2 _ _ hkc
  have hkindA₁ : kA₁.kind = .array comp (.array .int) := by rw [heA]; exact hkindA
  have hkind₁ : kc₁.kind = .array cc' .int := by rw [hec]; exact hkind
  have hlim := Launch.admits_arrayLengthLimit X.admits
  have hmax := Launch.admits_maxHeapBytes X.admits
  obtain ⟨hr1, hr2⟩ := X.roomAbove hcells hslots
  have X₁ := X.noted hwarm₁
  have X₂ := z_mi_stand (ci := z_mr comp k.toNatClampNeg) (cA := cA) (N := n.toNatClampNeg) X₁ n.toNatClampNeg
  rw [z_mr_size] at X₂
  obtain ⟨t, a1, b1⟩ := kk cA comp (z_mi (T.setVm vm₁) cA n.toNatClampNeg (z_mr comp k.toNatClampNeg) n.toNatClampNeg).heap hnA hnC (z_mi_size _ _ _ _ _) (z_mi_out (T.setVm vm₁) _ _ _ _) (fun j hj => z_mi_row (U := T.setVm vm₁) hj) (fun q hq => z_mi_old (U := T.setVm vm₁) hq) _ rfl X₂
  refine ⟨t, ?_, b1⟩
  refine Steps.instr (c := c) (by simpa using X.here) ?_
  rw [hdg]
  show wpRun (p.tables.exec (.multianewarray index 2)) _ _ e (T.setTop g)
  rw [hexec]
  show wp (multianewarray.sem index 2) _ _ e false [] (T.setTop g)
  have htop : (T.setVm vm₁).topJava?.isSome := X.here.top
  unfold multianewarray.sem
  rw [wp_bind']
  refine (W.resolveClassAt_transfer (s := T.setTop g) (State.method?_setTop g X.here.top) hg₁ hready₁).mpr ?_
  refine (W.resolveClassAt_ready (s := (T.setVm vm₁).setTop g) (State.method?_setTop g htop) hready₁).mpr ?_
  simp only [popN, wp_bind', W.pop, wp_pure', State.topJava?_setTop' _ htop, Option.some.injEq, exists_eq_left', hstack, List.cons.injEq, exists_cons_eq, State.setTop_setTop, List.nil_append, List.cons_append, List.mapM_cons, List.mapM_nil]
  refine z_wp_rows (U := (T.setVm vm₁).setTop { g with stack := rest }) (kA := kA₁) (kc := kc₁) hkA₁ hkindA₁ hkc₁ hkind₁ hn hk (by rw [hlim]; omega) (by rw [hmax]; show ¬ n.toNatClampNeg * 4 > 536870912; omega) (by rw [hlim]; omega) (by rw [hmax]; show ¬ k.toNatClampNeg * 4 > 536870912; omega) hr1 hr2 (fun d' acts' => ?_)
  rw [z_mi_top, wp_bind', W.mark, W.pushRef]
  refine ⟨{ g with stack := rest }, State.topJava?_setTop' _ X₂.here.top, fun acts2 => ?_⟩
  rw [State.setTop_setTop, afterInstr_ok]
  exact a1
end MULTI
