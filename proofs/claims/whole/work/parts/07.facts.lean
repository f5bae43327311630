-- WHAT STAYS: tables, fixed cells; what is asked of each instruction of the tables
def z_tbl : List Cond := lw_tbl.filter goodWord
def z_nst : List Cond := [
  .methodLinkNest "LampHouse" 20 ⟨"LampHouse$Ages", "<init>", "()V"⟩ "LampHouse",
  .methodLinkNest "LampHouse" 48 ⟨"LampHouse$Reader", "<init>", "()V"⟩ "LampHouse",
  .methodLinkNest "LampHouse" 82 ⟨"LampHouse$Filters", "<init>", "()V"⟩ "LampHouse",
  .methodLinkNest "LampHouse" 89 ⟨"LampHouse$Sheets", "<init>", "()V"⟩ "LampHouse",
  .methodLinkNest "LampHouse$Things" 70 ⟨"LampHouse", "limited", "(J)I"⟩ "LampHouse",
  .methodLinkNest "LampHouse$Eights" 26 ⟨"LampHouse", "areBelow", "(II)Z"⟩ "LampHouse",
  .methodLinkNest "LampHouse$Nearest" 73 ⟨"LampHouse", "isTold", "(II)Z"⟩ "LampHouse",
  .methodLinkNest "LampHouse$Things" 46 ⟨"LampHouse", "areBelow", "(II)Z"⟩ "LampHouse",
  .methodLinkNest "LampHouse$Eyes" 28 ⟨"LampHouse", "areBelow", "(II)Z"⟩ "LampHouse",
  .methodLinkNest "LampHouse$Plates" 65 ⟨"LampHouse", "isTold", "(II)Z"⟩ "LampHouse"]
def z_txt : String := "like true or   and  not  a    b    c    sum  kind hour "
def z_sgn : String := "();+-*<="
def z_F (x : zX) (E : zE) (U : State) : Prop :=
  va_K x.2.1 vwCl (z_tys x) U ∧
  (va_Z "LampHouse$Rules" "FIRST" "[I" (.ref (x.2.2.2.1 1000)) (z_B x) U U.heap ∧ va_X (x.2.2.2.1 1000) 6 z_first U U.heap ∧ x.2.2.2.1 1000 < x.1) ∧
  (va_Z "LampHouse$Things" "ABOVE" "[I" (.ref (x.2.2.2.1 1001)) (z_B x) U U.heap ∧ va_X (x.2.2.2.1 1001) 6 z_above U U.heap ∧ x.2.2.2.1 1001 < x.1) ∧
  va_Z "java/lang/String" "COMPACT_STRINGS" "Z" (.int 1) (z_B x) U U.heap ∧
  va_Z "jdk/internal/util/Preconditions" "SIOOBE_FORMATTER" "Ljava/util/function/BiFunction;" x.2.2.2.2 (z_B x) U U.heap ∧
  vk_S 2 [55, 8] [z_wordsL, z_signsL] (fun i => x.2.2.2.1 (1002 + 2 * i)) (fun i => x.2.2.2.1 (1003 + 2 * i)) (z_B x) U U.heap ∧
  (vk_R "LampHouse$Reader" 96 z_txt (x.2.2.2.1 1002) U ∧ vk_R "LampHouse$Reader" 85 z_sgn (x.2.2.2.1 1004) U) ∧
  (va_X (x.2.2.2.1 1006) E.1 E.2 U U.heap ∧ x.2.2.2.1 1006 < x.1) ∧
  (∀ w ∈ z_nst, va_Nw w U) ∧
  (Cond.arrayOver (.array .int)).before #[] U = true ∧
  x.1 ≤ U.heap.size ∧ (x.2.2.2.2 = .null ∨ ∃ t, x.2.2.2.2 = .ref t)
theorem z_nst_M : ∀ w ∈ z_nst, ∃ a i y h, w = .methodLinkNest a i y h := by
  intro w hw
  simp only [z_nst, List.mem_cons, List.not_mem_nil, or_false] at hw
  rcases hw with h | h | h | h | h | h | h | h | h | h <;> exact ⟨_, _, _, _, h⟩
theorem z_F.move {x : zX} {E : zE} {s U : State} {H : Heap} {locs : List Loc} (h : z_F x E s) (hW : s.WarmedH U.vm) (hU : U.heap = H) (hS : va_S (z_B x) s.heap H locs) : z_F x E U := by
  subst hU
  obtain ⟨h1, ⟨h2, h2', g2⟩, ⟨h3, h3', g3⟩, h4, h5, h6, ⟨h7, h7'⟩, ⟨h8, h8'⟩, h9, h10, h11, h12⟩ := h
  have ha := hW.alike
  have hk := hS.2.1
  refine ⟨h1.moved ha, ⟨(h2.moved ha).kept hk, (h2'.moved ha).kept (hk _ (by omega) (by show ¬ x.1 ≤ _; omega)), g2⟩, ⟨(h3.moved ha).kept hk, (h3'.moved ha).kept (hk _ (by omega) (by show ¬ x.1 ≤ _; omega)), g3⟩, (h4.moved ha).kept hk, (h5.moved ha).kept hk, (h6.moved ha).kept hk, ⟨h7.warm hW, h7'.warm hW⟩, ⟨(h8.moved ha).kept (hk _ (by omega) (by show ¬ x.1 ≤ _; omega)), h8'⟩, ?_, ?_, Nat.le_trans h11 hS.1, h12⟩
  · intro w hw
    obtain ⟨a, i, y, q, rfl⟩ := z_nst_M w hw
    exact va_Nw.warmM hW (h9 _ hw)
  · exact over_moved ha h10
theorem z_F.same {x : zX} {E : zE} {s U : State} (h : z_F x E s) (hv : s.vm = U.vm) (hh : s.heap = U.heap) : z_F x E U := by
  obtain ⟨h1, ⟨h2, h2', g2⟩, ⟨h3, h3', g3⟩, h4, h5, h6, ⟨h7, h7'⟩, ⟨h8, h8'⟩, h9, h10, h11, h12⟩ := h
  have ha : s.vm.Alike U.vm := by rw [hv]; exact Vm.Alike.refl U.vm
  rw [hh] at h2 h2' h3 h3' h4 h5 h6 h8 h11
  refine ⟨h1.moved ha, ⟨h2.moved ha, h2'.moved ha, g2⟩, ⟨h3.moved ha, h3'.moved ha, g3⟩, h4.moved ha, h5.moved ha, h6.moved ha, ⟨h7.same hv.symm, h7'.same hv.symm⟩, ⟨h8.moved ha, h8'⟩, ?_, ?_, h11, h12⟩
  · intro w hw
    obtain ⟨a, i, y, q, rfl⟩ := z_nst_M w hw
    exact va_Nw.same rfl hv (h9 _ hw)
  · exact over_moved ha h10
def z_T (w : Cond) : Bool := decide (w ∈ lw_tbl) && goodWord w
theorem z_T_in {w : Cond} (h : z_T w = true) : w ∈ z_tbl := by
  unfold z_T at h
  simp only [Bool.and_eq_true, decide_eq_true_eq] at h
  exact List.mem_filter.mpr h
theorem z_tbl_good {w : Cond} (h : w ∈ z_tbl) : (w.onTables && w.keeps) = true ∨ ∃ ty, w = .arrayClass ty := good_of_word (List.mem_filter.mp h).2
/-- the words of a method -/
def z_ws (M : zM) : List Cond := .code M.1 M.2.1 M.2.2.1 M.2.2.2.1 :: z_tbl
def z_cn (ci : Nat) : String := match vwCl[ci]? with
  | some q => q.1
  | none => "java/lang/String"
/-- what is asked of a callee -/
def z_okc (M : zM) (n : Nat) : Bool := z_T (.code M.1 M.2.1 M.2.2.1 M.2.2.2.1) && z_T (.initialized M.1.cls) && decide (M.1.cls ≠ "java/lang/invoke/MethodHandle") && decide (M.1.cls ≠ "java/lang/invoke/VarHandle") && decide ((parseMethodDescriptor M.1.desc).map (fun d => d.parameters.length) = some n) && Nat.ble M.2.2.1 45
def z_okt (pc : Nat) (off : Int) (ts : List Nat) : Bool := match ts with
  | t :: _ => decide ((pc : Int) + off = (t : Int))
  | [] => false
def z_oks (pc : Nat) : List Int → List Nat → Bool
  | [], [] => true
  | o :: os, t :: ts => decide ((pc : Int) + o = (t : Int)) && z_oks pc os ts
  | _, _ => false
def z_okF (own : String) (idx : Nat) (ts : List Nat) : Bool := match ts with
  | [ci, fk] => match vwCl[ci]? with
    | some q => z_T (.fieldLink own idx q.1 (q.2.1 fk).2.1 (q.2.1 fk).2.2.1) && decide ((q.2.1 fk).1 = q.1) && Nat.blt fk q.2.2 && Nat.beq q.2.2 (z_nf ci) && Nat.blt ci 12
    | none => Nat.beq ci 100 && ((Nat.beq fk 0 && z_T (.fieldLink own idx "java/lang/String" "value" "[B")) || (Nat.beq fk 1 && z_T (.fieldLink own idx "java/lang/String" "coder" "B")))
  | _ => false
def z_okI0 (own : String) (idx : Nat) (mid n ci : Nat) (virt : Nat) : Bool := match z_mt mid with
    | some M => Nat.beq virt 0 && z_okc M n && z_T (.methodLink own idx M.1) && z_T (.instanceMethod M.1) && z_T (.selects M.1.cls M.1 M.1) && decide (M.1.cls = z_cn ci) && z_T (.initialized M.1.cls)
    | none => false
def z_okI1 (own : String) (idx : Nat) (mid n : Nat) (virt : Nat) : Bool := match z_mt mid with
    | some M => Nat.beq virt 1 && z_okc M n && z_T (.methodLink own idx M.1) && z_T (.static M.1)
    | none => false
def z_okI2 (own : String) (idx : Nat) (mid n : Nat) (virt : Nat) : Bool := match z_mt mid with
    | some M => Nat.beq virt 2 && z_okc M n && z_T (.methodLink own idx M.1) && z_T (.instanceMethod M.1) && decide (M.1.name = "<init>") && decide (M.2.2.2.1 = none)
    | none => false
def z_okI3 (own : String) (idx : Nat) (mid n : Nat) (virt : Nat) : Bool := match z_mt mid with
    | some M => Nat.beq virt 1 && z_okc M n && decide (Cond.methodLinkNest own idx M.1 "LampHouse" ∈ z_nst) && z_T (.static M.1)
    | none => false
def z_okI4 (own : String) (idx : Nat) (mid n : Nat) (virt : Nat) : Bool := match z_mt mid with
    | some M => Nat.beq virt 2 && z_okc M n && decide (Cond.methodLinkNest own idx M.1 "LampHouse" ∈ z_nst) && z_T (.instanceMethod M.1) && decide (M.1.name = "<init>") && decide (M.2.2.2.1 = none)
    | none => false
def z_okI5 (own : String) (idx : Nat) (virt : Nat) : Bool := Nat.beq virt 1 && z_T (.methodLink own idx arraycopyName) && z_T (.native arraycopyName) && z_T (.static arraycopyName) && z_T (.initialized "java/lang/System")
def z_okI6 (own : String) (idx : Nat) (virt : Nat) : Bool := Nat.beq virt 2 && z_T (.methodLink own idx Lib.objectInit) && z_T (.instanceMethod Lib.objectInit) && z_T (.code Lib.objectInit ⟨#[0xb1]⟩ 1 none)
def z_okI7 (own : String) (idx : Nat) (virt : Nat) : Bool := Nat.beq virt 1 && z_T (.methodLink own idx Lib.Math.max.name) && z_T (.static Lib.Math.max.name) && z_T (.initialized "java/lang/Math") && z_T (.code Lib.Math.max.name Lib.Math.max.code 2 (some .int))
def z_okI8 (own : String) (idx : Nat) (virt : Nat) : Bool := Nat.beq virt 1 && z_T (.methodLink own idx Lib.Math.min.name) && z_T (.static Lib.Math.min.name) && z_T (.initialized "java/lang/Math") && z_T (.code Lib.Math.min.name Lib.Math.min.code 2 (some .int))
def z_okI9 (own : String) (idx : Nat) (virt : Nat) : Bool := Nat.beq virt 1 && z_T (.methodLink own idx Lib.MathLoose.min_long.x) && z_T (.static Lib.MathLoose.min_long.x) && z_T (.initialized "java/lang/Math") && z_T (.code Lib.MathLoose.min_long.x Lib.MathLoose.min_long.code 4 (some .long))
def z_okI10 (own : String) (idx : Nat) (virt : Nat) : Bool := Nat.beq virt 1 && z_T (.methodLink own idx Lib.MathLoose.abs_long.x) && z_T (.static Lib.MathLoose.abs_long.x) && z_T (.initialized "java/lang/Math") && z_T (.code Lib.MathLoose.abs_long.x Lib.MathLoose.abs_long.code 2 (some .long))
def z_okI (own : String) (idx : Nat) (ts : List Nat) (virt : Nat) : Bool := match ts with
  | [0, mid, n, ci] => z_okI0 own idx mid n ci virt
  | [1, mid, n] => z_okI1 own idx mid n virt
  | [2, mid, n] => z_okI2 own idx mid n virt
  | [3, mid, n] => z_okI3 own idx mid n virt
  | [4, mid, n] => z_okI4 own idx mid n virt
  | [5, _, _] => z_okI5 own idx virt
  | [6, _, _] => z_okI6 own idx virt
  | [7, _, _] => z_okI7 own idx virt
  | [8, _, _] => z_okI8 own idx virt
  | [9, _, _] => z_okI9 own idx virt
  | [10, _, _] => z_okI10 own idx virt
  | [99] => true
  | _ => false
def z_okb (M : zM) (pc : Nat) (q : zI) : Bool := decide (decode M.2.1 pc = .ok (q.1, q.2.1)) && match q.1 with
  | .istore i => Nat.blt i M.2.2.1
  | .istore_n i => Nat.blt i.val M.2.2.1
  | .astore i => Nat.blt i M.2.2.1
  | .astore_n i => Nat.blt i.val M.2.2.1
  | .lstore i => Nat.blt (i + 1) M.2.2.1
  | .lstore_n i => Nat.blt (i.val + 1) M.2.2.1
  | .iinc i n => Nat.blt i M.2.2.1 && decide (q.2.2.2 = .int (Int32.ofInt n))
  | .iconst n => decide (q.2.2.2 = .int (Int32.ofInt n))
  | .bipush n => decide (q.2.2.2 = .int (Int8.ofInt n).toInt32)
  | .sipush n => decide (q.2.2.2 = .int (Int16.ofInt n).toInt32)
  | .lconst n => decide (q.2.2.2 = .long (Int64.ofNat n.val))
  | .ldc idx => match q.2.2.2 with
    | .int v => z_T (.constant M.1.cls idx v)
    | .ref a => (Nat.beq a 1002 && decide (M.1.cls = "LampHouse$Reader") && Nat.beq idx 96) || (Nat.beq a 1004 && decide (M.1.cls = "LampHouse$Reader") && Nat.beq idx 85)
    | _ => true
  | .ldc_w idx => match q.2.2.2 with
    | .int v => z_T (.constant M.1.cls idx v)
    | _ => true
  | .ldc2_w idx => match q.2.2.2 with
    | .long v => z_T (.constantLong M.1.cls idx v)
    | _ => true
  | .getstatic idx => match q.2.2.2 with
    | .int v => decide (v = 1) && z_T (.fieldLink M.1.cls idx "java/lang/String" "COMPACT_STRINGS" "Z")
    | .ref a => (Nat.beq a 1000 && z_T (.fieldLink M.1.cls idx "LampHouse$Rules" "FIRST" "[I")) || (Nat.beq a 1001 && z_T (.fieldLink M.1.cls idx "LampHouse$Things" "ABOVE" "[I")) || (Nat.beq a 1007 && z_T (.fieldLink M.1.cls idx "jdk/internal/util/Preconditions" "SIOOBE_FORMATTER" "Ljava/util/function/BiFunction;"))
    | _ => true
  | .getfield idx => z_okF M.1.cls idx q.2.2.1
  | .putfield idx => z_okF M.1.cls idx q.2.2.1
  | .invokevirtual idx => z_okI M.1.cls idx q.2.2.1 0
  | .invokestatic idx => z_okI M.1.cls idx q.2.2.1 1
  | .invokespecial idx => z_okI M.1.cls idx q.2.2.1 2
  | .new idx => match q.2.2.1 with
    | ci :: _ => match vwCl[ci]? with
      | some c => z_T (.classLink M.1.cls idx c.1) && z_T (.instantiable c.1 c.2.2) && z_T (.initialized c.1) && Nat.beq c.2.2 (z_nf ci)
      | none => Nat.beq ci 99
    | _ => true
  | .newarray t => z_T (.arrayClass (Op.newarray.typeOf t))
  | .multianewarray idx d => z_T (.classLink M.1.cls idx "[[I") && z_T (.arrayClass .int) && Nat.beq d 2
  | .lreturn => decide (M.2.2.2.1 = some .long)
  | .areturn => decide (M.2.2.2.1 = some (.array .int))
  | .return_ => decide (M.2.2.2.1 = none)
  | .ifCond _ o => z_okt pc o q.2.2.1
  | .if_icmp _ o => z_okt pc o q.2.2.1
  | .goto o => z_okt pc o q.2.2.1
  | .tableswitch d lo hi os => z_oks pc (d :: os.toList) q.2.2.1 && decide ((os.size : Int) = hi - lo + 1)
  | .lookupswitch d ps => z_oks pc (d :: ps.toList.map (fun p => p.2)) q.2.2.1 && (ps.toList.zip (ps.toList.drop 1)).all (fun (a, next) => a.1 < next.1)
  | _ => true
def z_ln : Instr → Nat
  | .aload _ | .iload _ | .lload _ | .istore _ | .astore _ | .lstore _ | .bipush _ | .ldc _ | .newarray _ => 2
  | .iinc _ _ | .sipush _ | .ldc_w _ | .ldc2_w _ | .getstatic _ | .getfield _ | .putfield _ | .invokevirtual _ | .invokestatic _ | .invokespecial _ | .new _ | .ifCond _ _ | .if_icmp _ _ | .goto _ => 3
  | .multianewarray _ _ => 4
  | _ => 1
def z_okl (q : zI) : Bool := match q.1 with
  | .tableswitch _ _ _ _ => true
  | .lookupswitch _ _ => true
  | i => Nat.beq q.2.1 (z_ln i)
def z_okC (M : zM) : Bool := M.2.2.2.2.2.2.all (fun c => c.2.all (fun q => z_okb M q.1 q.2 && z_okl q.2))
