-- THE PURE MACHINE: cells by numbers, contents as functions; a step, a run, a call
abbrev zS : Type := (Nat → Nat → Int32) × (Nat → Nat → Int64) × (Nat → Nat → Option Nat)
abbrev zG : Type := Nat × zS
abbrev zR : Type := Option Value × zG
abbrev zL : Type := List (Option Value)
abbrev zP : Type := Nat × zL × List Value × zG
abbrev zY : Type := Option (zP ⊕ zR)
abbrev zE : Type := Nat × (Nat → Int32)
def z_u2 {α : Type} (f : Nat → Nat → α) (a i : Nat) (x : α) : Nat → Nat → α := fun b j => if b = a then (if j = i then x else f b j) else f b j
def z_ur {α : Type} (f : Nat → Nat → α) (a : Nat) (h : Nat → α) : Nat → Nat → α := fun b => if b = a then h else f b
/-- nothing from a on -/
def z_zr {α : Type} (f : Nat → Nat → α) (a : Nat) (x : α) : Nat → Nat → α := fun b j => if a ≤ b then x else f b j
def z_ck (b : Bool) (x : zY) : zY := match b with
  | true => x
  | false => none
def z_in (i : Int32) (n : Nat) : Bool := decide (0 ≤ i) && Nat.blt i.toNatClampNeg n
def z_pI (st : List Value) (k : Int32 → List Value → zY) : zY := match st with
  | .int x :: r => k x r
  | _ => none
def z_pJ (st : List Value) (k : Int64 → List Value → zY) : zY := match st with
  | .long x :: r => k x r
  | _ => none
def z_pA (st : List Value) (k : Nat → List Value → zY) : zY := match st with
  | .ref x :: r => k x r
  | _ => none
/-- a value of one place: an int or a reference -/
def z_p1 (st : List Value) (k : Value → List Value → zY) : zY := match st with
  | .int x :: r => k (.int x) r
  | .ref x :: r => k (.ref x) r
  | _ => none
/-- a reference to a cell of ours, or null -/
def z_pR (st : List Value) (k : Option Nat → List Value → zY) : zY := match st with
  | .ref x :: r => z_ck (Nat.blt x 1000) (k (some x) r)
  | .null :: r => k none r
  | _ => none
def z_pops : Nat → List Value → List Value → (List Value → List Value → zY) → zY
  | 0, as, st, k => k as st
  | n + 1, as, v :: st, k => z_pops n (v :: as) st k
  | _ + 1, _, [], _ => none
def z_go (pc : Nat) (ls : zL) (st : List Value) (g : zG) : zY := some (.inl (pc, ls, st, g))
def z_gl : zL → Nat → Option Value
  | [], _ => none
  | v :: _, 0 => v
  | _ :: t, i + 1 => z_gl t i
def z_isJ : Option Value → Bool
  | some (.long _) => true
  | some (.double _) => true
  | _ => false
def z_clr : zL → zL
  | [] => []
  | _ :: t => none :: t
/-- a value of one place is stored -/
def z_s1 : zL → Nat → Value → zL
  | [], _, _ => []
  | _ :: t, 0, v => some v :: t
  | a :: t, 1, v => (bif z_isJ a then none else a) :: z_s1 t 0 v
  | a :: t, i + 2, v => a :: z_s1 t (i + 1) v
/-- a long is stored -/
def z_s2 : zL → Nat → Value → zL
  | [], _, _ => []
  | _ :: t, 0, v => some v :: z_clr t
  | a :: t, 1, v => (bif z_isJ a then none else a) :: z_s2 t 0 v
  | a :: t, i + 2, v => a :: z_s2 t (i + 1) v
def z_lI (ls : zL) (i : Nat) (k : Int32 → zY) : zY := match z_gl ls i with
  | some (.int x) => k x
  | _ => none
def z_lJ (ls : zL) (i : Nat) (k : Int64 → zY) : zY := match z_gl ls i with
  | some (.long x) => k x
  | _ => none
def z_lA (ls : zL) (i : Nat) (k : Nat → zY) : zY := match z_gl ls i with
  | some (.ref x) => k x
  | _ => none
def z_roI (E : zE) (a : Nat) : Option (Nat × (Nat → Int32)) := bif Nat.beq a 1000 then some (6, z_first) else bif Nat.beq a 1001 then some (6, z_above) else bif Nat.beq a 1006 then some E else none
def z_roB (a : Nat) : Option (Nat × (Nat → Int32)) := bif Nat.beq a 1003 then some (55, fun j => z_wordsL.getD j 0) else bif Nat.beq a 1005 then some (8, fun j => z_signsL.getD j 0) else none
/-- an array of ints: its size, what it holds -/
def z_ia (E : zE) (g : zG) (a : Nat) : Option (Nat × (Nat → Int32)) := bif Nat.blt a 1000 then (bif Nat.blt a g.1 && Nat.beq (z_SH a).1 0 then some ((z_SH a).2, g.2.1 a) else none) else z_roI E a
def z_ba (g : zG) (a : Nat) : Option (Nat × (Nat → Int32)) := bif Nat.blt a 1000 then (bif Nat.blt a g.1 && Nat.beq (z_SH a).1 2 then some ((z_SH a).2, g.2.1 a) else none) else z_roB a
def z_al (E : zE) (g : zG) (a : Nat) : Option Nat := bif Nat.blt a 1000 then (bif Nat.blt a g.1 && Nat.ble (z_SH a).1 3 then some (z_SH a).2 else none) else match z_roI E a with
  | some q => some q.1
  | none => match z_roB a with
    | some q => some q.1
    | none => none
def z_ild (o : Option (Nat × (Nat → Int32))) (i : Int32) (k : Int32 → zY) : zY := match o with
  | some q => z_ck (z_in i q.1) (k (q.2 i.toNatClampNeg))
  | none => none
/-- is a cell an array of ours of a kind -/
def z_isA (g : zG) (a k : Nat) : Bool := Nat.blt a 1000 && Nat.blt a g.1 && Nat.beq (z_SH a).1 k
def z_isO (g : zG) (a ci : Nat) : Bool := Nat.blt a 1000 && Nat.blt a g.1 && Nat.beq (z_SH a).1 (ci + 4) && Nat.beq (z_SH a).2 (z_nf ci) && Nat.blt ci 12
def z_rv (r : Option Nat) : Value := match r with
  | some a => .ref a
  | none => .null
def z_fv (ci fk : Nat) (g : zG) (a : Nat) : Value := match z_ft ci fk with
  | 0 => .int (g.2.1 a fk)
  | 1 => .int (g.2.1 a fk)
  | 2 => .long (g.2.2.1 a fk)
  | _ => z_rv (g.2.2.2 a fk)
def z_cat (v : Value) : Nat := match v with
  | .long _ => 2
  | .double _ => 2
  | _ => 1
def z_cs : List Value → Nat
  | [] => 0
  | v :: t => z_cat v + z_cs t
def z_ret (o : Option zR) (pc : Nat) (ls : zL) (st : List Value) : zY := match o with
  | some r => match r.1 with
    | some v => z_go pc ls (v :: st) r.2
    | none => z_go pc ls st r.2
  | none => none
def z_fin (ci fk : Nat) : Bool := match vwCl[ci]? with
  | some q => (q.2.1 fk).2.2.2
  | none => true
/-- may a field be written here -/
def z_may (M : zM) (ci fk : Nat) : Bool := !(z_fin ci fk) || (M.2.2.2.2.1 && Nat.beq M.2.2.2.2.2.1 ci)
def z_b01 (x : Int32) : Bool := decide (x = 0) || decide (x = 1)
def z_rok (M : zM) (x : Int32) : Bool := match M.2.2.2.1 with
  | some .int => true
  | some .boolean => z_b01 x
  | some .char => decide (narrow .char (.int x) = .int x)
  | some .byte => decide (narrow .byte (.int x) = .int x)
  | _ => false
def z_sI (g : zG) (a i : Nat) (x : Int32) : zG := (g.1, z_u2 g.2.1 a i x, g.2.2.1, g.2.2.2)
def z_sJ (g : zG) (a i : Nat) (x : Int64) : zG := (g.1, g.2.1, z_u2 g.2.2.1 a i x, g.2.2.2)
def z_sR (g : zG) (a i : Nat) (x : Option Nat) : zG := (g.1, g.2.1, g.2.2.1, z_u2 g.2.2.2 a i x)
def z_put (M : zM) (ci fk : Nat) (st : List Value) (g : zG) (k : List Value → zG → zY) : zY := match z_ft ci fk with
  | 0 => z_pI st fun x st => z_pA st fun a st => z_ck (z_isO g a ci && z_may M ci fk) (k st (z_sI g a fk x))
  | 1 => z_pI st fun x st => z_pA st fun a st => z_ck (z_isO g a ci && z_may M ci fk && z_b01 x) (k st (z_sI g a fk x))
  | 2 => z_pJ st fun x st => z_pA st fun a st => z_ck (z_isO g a ci && z_may M ci fk) (k st (z_sJ g a fk x))
  | _ => z_pR st fun x st => z_pA st fun a st => z_ck (z_isO g a ci && z_may M ci fk) (k st (z_sR g a fk x))
def z_new1 (g : zG) : zG := (g.1 + 1, z_zr g.2.1 g.1 0, z_zr g.2.2.1 g.1 0, z_zr g.2.2.2 g.1 none)
def z_newM (g : zG) (n : Nat) : zG := (g.1 + 1 + n, z_zr g.2.1 g.1 0, z_zr g.2.2.1 g.1 0, z_ur (z_zr g.2.2.2 g.1 none) g.1 (fun j => if j < n then some (g.1 + 1 + j) else none))
def z_akind : ArrayType → Nat
  | .int => 0
  | .long => 1
  | .boolean => 2
  | _ => 99
def z_copy (E : zE) (g : zG) (s d : Nat) (sp dp n : Int32) (k : zG → zY) : zY := match z_ia E g s with
  | some q => z_ck (z_isA g d 0 && decide (0 ≤ sp) && decide (0 ≤ dp) && decide (0 ≤ n) && Nat.ble (sp.toNatClampNeg + n.toNatClampNeg) q.1 && Nat.ble (dp.toNatClampNeg + n.toNatClampNeg) (z_SH d).2) (k (g.1, z_ur g.2.1 d (va_cpy q.2 (g.2.1 d) sp.toNatClampNeg dp.toNatClampNeg n.toNatClampNeg), g.2.2.1, g.2.2.2))
  | none => none
def z_invk (cal : Nat → List Value → zG → Option zR) (E : zE) (ts : List Nat) (pc : Nat) (ls : zL) (st : List Value) (g : zG) : zY := match ts with
  | [0, mid, n, ci] => z_pops n [] st fun as st => z_pA st fun a st => z_ck ((z_isO g a ci || (Nat.beq ci 100 && (Nat.beq a 1002 || Nat.beq a 1004))) && Nat.ble (z_cs st) 8) (z_ret (cal mid (.ref a :: as) g) (pc + 3) ls st)
  | [1, mid, n] => z_pops n [] st fun as st => z_ck (Nat.ble (z_cs st) 8) (z_ret (cal mid as g) (pc + 3) ls st)
  | [2, mid, n] => z_pops n [] st fun as st => z_pA st fun a st => z_ck (Nat.ble (z_cs st) 8) (z_ret (cal mid (.ref a :: as) g) (pc + 3) ls st)
  | [3, mid, n] => z_pops n [] st fun as st => z_ck (Nat.ble (z_cs st) 8) (z_ret (cal mid as g) (pc + 3) ls st)
  | [4, mid, n] => z_pops n [] st fun as st => z_pA st fun a st => z_ck (Nat.ble (z_cs st) 8) (z_ret (cal mid (.ref a :: as) g) (pc + 3) ls st)
  | [5, _, _] => z_pI st fun n st => z_pI st fun dp st => z_pA st fun d st => z_pI st fun sp st => z_pA st fun s st => z_ck (Nat.ble (z_cs st) 8) (z_copy E g s d sp dp n fun g => z_go (pc + 3) ls st g)
  | [6, _, _] => z_pA st fun _ st => z_ck (Nat.ble (z_cs st) 8) (z_go (pc + 3) ls st g)
  | _ => none
def z_icc (c : Jvm.ClassFile.Cond) (x y : Int32) : Prop := match c with
  | .eq => x = y
  | .ne => x ≠ y
  | .lt => x < y
  | .ge => y ≤ x
  | .gt => y < x
  | .le => x ≤ y
def z_br (c : Jvm.ClassFile.Cond) (x y : Int32) (t n : Nat) (ls : zL) (st : List Value) (g : zG) : zY := match c with
  | .eq => if x = y then z_go t ls st g else z_go n ls st g
  | .ne => if x = y then z_go n ls st g else z_go t ls st g
  | .lt => if x < y then z_go t ls st g else z_go n ls st g
  | .ge => if x < y then z_go n ls st g else z_go t ls st g
  | .gt => if y < x then z_go t ls st g else z_go n ls st g
  | .le => if y < x then z_go n ls st g else z_go t ls st g
def z_t0 (ts : List Nat) (k : Nat → zY) : zY := match ts with
  | t :: _ => k t
  | [] => none
def z_t2 (ts : List Nat) (k : Nat → Nat → zY) : zY := match ts with
  | [a, b] => k a b
  | _ => none
def z_sw (o : Option Nat) (ls : zL) (st : List Value) (g : zG) : zY := match o with
  | some t => z_go t ls st g
  | none => none
def z_psw : List (Int × Int) → List Nat → Nat → Int → Nat
  | (k, _) :: ps, t :: ts, d, x => if k = x then t else z_psw ps ts d x
  | _, _, d, _ => d
def z_str (fk a : Nat) (k : Value → zY) : zY := bif Nat.beq a 1002 || Nat.beq a 1004 then (bif Nat.beq fk 0 then k (.ref (a + 1)) else k (.int 0)) else none
/-- one instruction -/
def z_x1 (cal : Nat → List Value → zG → Option zR) (E : zE) (M : zM) (q : zI) (pc : Nat) (ls : zL) (st : List Value) (g : zG) : zY := match q.1 with
  | .aload i => z_lA ls i fun x => z_go (pc + 2) ls (.ref x :: st) g
  | .aload_n i => z_lA ls i.val fun x => z_go (pc + 1) ls (.ref x :: st) g
  | .iload i => z_lI ls i fun x => z_go (pc + 2) ls (.int x :: st) g
  | .iload_n i => z_lI ls i.val fun x => z_go (pc + 1) ls (.int x :: st) g
  | .lload i => z_lJ ls i fun x => z_go (pc + 2) ls (.long x :: st) g
  | .lload_n i => z_lJ ls i.val fun x => z_go (pc + 1) ls (.long x :: st) g
  | .istore i => z_pI st fun x st => z_go (pc + 2) (z_s1 ls i (.int x)) st g
  | .istore_n i => z_pI st fun x st => z_go (pc + 1) (z_s1 ls i.val (.int x)) st g
  | .astore i => z_pA st fun x st => z_go (pc + 2) (z_s1 ls i (.ref x)) st g
  | .astore_n i => z_pA st fun x st => z_go (pc + 1) (z_s1 ls i.val (.ref x)) st g
  | .lstore i => z_pJ st fun x st => z_go (pc + 2) (z_s2 ls i (.long x)) st g
  | .lstore_n i => z_pJ st fun x st => z_go (pc + 1) (z_s2 ls i.val (.long x)) st g
  | .iinc i _ => z_lI ls i fun x => z_pI [q.2.2.2] fun y _ => z_go (pc + 3) (z_s1 ls i (.int (x + y))) st g
  | .iconst _ => z_pI [q.2.2.2] fun y _ => z_go (pc + 1) ls (.int y :: st) g
  | .bipush _ => z_pI [q.2.2.2] fun y _ => z_go (pc + 2) ls (.int y :: st) g
  | .sipush _ => z_pI [q.2.2.2] fun y _ => z_go (pc + 3) ls (.int y :: st) g
  | .lconst _ => z_pJ [q.2.2.2] fun y _ => z_go (pc + 1) ls (.long y :: st) g
  | .ldc _ => z_p1 [q.2.2.2] fun v _ => z_go (pc + 2) ls (v :: st) g
  | .ldc_w _ => z_pI [q.2.2.2] fun y _ => z_go (pc + 3) ls (.int y :: st) g
  | .ldc2_w _ => z_pJ [q.2.2.2] fun y _ => z_go (pc + 3) ls (.long y :: st) g
  | .getstatic _ => z_p1 [q.2.2.2] fun v _ => z_go (pc + 3) ls (v :: st) g
  | .getfield _ => z_t2 q.2.2.1 fun ci fk => z_pA st fun a st => bif Nat.blt ci 12 then z_ck (z_isO g a ci) (z_go (pc + 3) ls (z_fv ci fk g a :: st) g) else z_str fk a fun v => z_go (pc + 3) ls (v :: st) g
  | .putfield _ => z_t2 q.2.2.1 fun ci fk => z_put M ci fk st g fun st g => z_go (pc + 3) ls st g
  | .invokevirtual _ => z_invk cal E q.2.2.1 pc ls st g
  | .invokestatic _ => z_invk cal E q.2.2.1 pc ls st g
  | .invokespecial _ => z_invk cal E q.2.2.1 pc ls st g
  | .iaload => z_pI st fun i st => z_pA st fun a st => z_ild (z_ia E g a) i fun x => z_go (pc + 1) ls (.int x :: st) g
  | .baload => z_pI st fun i st => z_pA st fun a st => z_ild (z_ba g a) i fun x => z_go (pc + 1) ls (.int x :: st) g
  | .laload => z_pI st fun i st => z_pA st fun a st => z_ck (z_isA g a 1 && z_in i (z_SH a).2) (z_go (pc + 1) ls (.long (g.2.2.1 a i.toNatClampNeg) :: st) g)
  | .aaload => z_pI st fun i st => z_pA st fun a st => z_ck (z_isA g a 3 && z_in i (z_SH a).2) (z_go (pc + 1) ls (z_rv (g.2.2.2 a i.toNatClampNeg) :: st) g)
  | .iastore => z_pI st fun x st => z_pI st fun i st => z_pA st fun a st => z_ck (z_isA g a 0 && z_in i (z_SH a).2) (z_go (pc + 1) ls st (z_sI g a i.toNatClampNeg x))
  | .bastore => z_pI st fun x st => z_pI st fun i st => z_pA st fun a st => z_ck (z_isA g a 2 && z_in i (z_SH a).2 && z_b01 x) (z_go (pc + 1) ls st (z_sI g a i.toNatClampNeg x))
  | .lastore => z_pJ st fun x st => z_pI st fun i st => z_pA st fun a st => z_ck (z_isA g a 1 && z_in i (z_SH a).2) (z_go (pc + 1) ls st (z_sJ g a i.toNatClampNeg x))
  | .arraylength => z_pA st fun a st => match z_al E g a with
    | some n => z_go (pc + 1) ls (.int (Int32.ofNat n) :: st) g
    | none => none
  | .new _ => z_t0 q.2.2.1 fun ci => z_ck (Nat.beq (z_SH g.1).1 (ci + 4) && Nat.beq (z_SH g.1).2 (z_nf ci) && Nat.blt ci 12 && Nat.blt g.1 1000) (z_go (pc + 3) ls (.ref g.1 :: st) (z_new1 g))
  | .newarray t => z_pI st fun n st => z_ck (decide (0 ≤ n) && Nat.beq (z_SH g.1).1 (z_akind t) && Nat.beq (z_SH g.1).2 n.toNatClampNeg && Nat.blt g.1 1000 && Nat.ble n.toNatClampNeg 1000) (z_go (pc + 2) ls (.ref g.1 :: st) (z_new1 g))
  | .multianewarray _ d => z_pI st fun k st => z_pI st fun n st => z_ck (Nat.beq d 2 && decide (0 ≤ n) && decide (0 ≤ k) && Nat.ble n.toNatClampNeg 1000 && Nat.ble k.toNatClampNeg 1000 && Nat.beq (z_SH g.1).1 3 && Nat.beq (z_SH g.1).2 n.toNatClampNeg && (List.range n.toNatClampNeg).all (fun j => Nat.beq (z_SH (g.1 + 1 + j)).1 0 && Nat.beq (z_SH (g.1 + 1 + j)).2 k.toNatClampNeg) && Nat.blt (g.1 + n.toNatClampNeg) 1000) (z_go (pc + 4) ls (.ref g.1 :: st) (z_newM g n.toNatClampNeg))
  | .iadd => z_pI st fun y st => z_pI st fun x st => z_go (pc + 1) ls (.int (x + y) :: st) g
  | .isub => z_pI st fun y st => z_pI st fun x st => z_go (pc + 1) ls (.int (x - y) :: st) g
  | .imul => z_pI st fun y st => z_pI st fun x st => z_go (pc + 1) ls (.int (x * y) :: st) g
  | .idiv => z_pI st fun y st => z_pI st fun x st => z_ck (!decide (y = 0)) (z_go (pc + 1) ls (.int (x / y) :: st) g)
  | .irem => z_pI st fun y st => z_pI st fun x st => z_ck (!decide (y = 0)) (z_go (pc + 1) ls (.int (x - x / y * y) :: st) g)
  | .ineg => z_pI st fun x st => z_go (pc + 1) ls (.int (-x) :: st) g
  | .iand => z_pI st fun y st => z_pI st fun x st => z_go (pc + 1) ls (.int (x &&& y) :: st) g
  | .ior => z_pI st fun y st => z_pI st fun x st => z_go (pc + 1) ls (.int (x ||| y) :: st) g
  | .ixor => z_pI st fun y st => z_pI st fun x st => z_go (pc + 1) ls (.int (x ^^^ y) :: st) g
  | .ishl => z_pI st fun y st => z_pI st fun x st => z_go (pc + 1) ls (.int (x <<< (y &&& 31)) :: st) g
  | .ishr => z_pI st fun y st => z_pI st fun x st => z_go (pc + 1) ls (.int (x >>> (y &&& 31)) :: st) g
  | .iushr => z_pI st fun y st => z_pI st fun x st => z_go (pc + 1) ls (.int (x.toUInt32 >>> (y.toUInt32 &&& Int32.toUInt32 31)).toInt32 :: st) g
  | .ladd => z_pJ st fun y st => z_pJ st fun x st => z_go (pc + 1) ls (.long (x + y) :: st) g
  | .lsub => z_pJ st fun y st => z_pJ st fun x st => z_go (pc + 1) ls (.long (x - y) :: st) g
  | .lmul => z_pJ st fun y st => z_pJ st fun x st => z_go (pc + 1) ls (.long (x * y) :: st) g
  | .ldiv => z_pJ st fun y st => z_pJ st fun x st => z_ck (!decide (y = 0)) (z_go (pc + 1) ls (.long (x / y) :: st) g)
  | .lrem => z_pJ st fun y st => z_pJ st fun x st => z_ck (!decide (y = 0)) (z_go (pc + 1) ls (.long (x - x / y * y) :: st) g)
  | .lneg => z_pJ st fun x st => z_go (pc + 1) ls (.long (-x) :: st) g
  | .land => z_pJ st fun y st => z_pJ st fun x st => z_go (pc + 1) ls (.long (x &&& y) :: st) g
  | .lor => z_pJ st fun y st => z_pJ st fun x st => z_go (pc + 1) ls (.long (x ||| y) :: st) g
  | .lshl => z_pI st fun y st => z_pJ st fun x st => z_go (pc + 1) ls (.long (x <<< (y.toInt64 &&& 63)) :: st) g
  | .lshr => z_pI st fun y st => z_pJ st fun x st => z_go (pc + 1) ls (.long (x >>> (y.toInt64 &&& 63)) :: st) g
  | .lcmp => z_pJ st fun y st => z_pJ st fun x st => z_go (pc + 1) ls (.int (lg_cmp x y) :: st) g
  | .i2l => z_pI st fun x st => z_go (pc + 1) ls (.long x.toInt64 :: st) g
  | .l2i => z_pJ st fun x st => z_go (pc + 1) ls (.int x.toInt32 :: st) g
  | .i2b => z_pI st fun x st => z_go (pc + 1) ls (.int x.toInt8.toInt32 :: st) g
  | .i2s => z_pI st fun x st => z_go (pc + 1) ls (.int x.toInt16.toInt32 :: st) g
  | .i2c => z_pI st fun x st => z_go (pc + 1) ls (.int (x.toUInt32 % 65536).toInt32 :: st) g
  | .ifCond c _ => z_t0 q.2.2.1 fun t => z_pI st fun x st => z_br c x 0 t (pc + 3) ls st g
  | .if_icmp c _ => z_t0 q.2.2.1 fun t => z_pI st fun y st => z_pI st fun x st => z_br c x y t (pc + 3) ls st g
  | .goto _ => z_t0 q.2.2.1 fun t => z_go t ls st g
  | .tableswitch _ lo hi _ => z_pI st fun x st => if x.toInt < lo ∨ hi < x.toInt then z_sw q.2.2.1[0]? ls st g else z_sw q.2.2.1[(x.toInt - lo).toNat + 1]? ls st g
  | .lookupswitch _ ps => z_t0 q.2.2.1 fun t => z_pI st fun x st => z_go (z_psw ps.toList q.2.2.1.tail t x.toInt) ls st g
  | .dup => z_p1 st fun v st => z_go (pc + 1) ls (v :: v :: st) g
  | .dup_x1 => z_p1 st fun v st => z_p1 st fun w st => z_go (pc + 1) ls (v :: w :: v :: st) g
  | .dup2 => z_p1 st fun v st => z_p1 st fun w st => z_go (pc + 1) ls (v :: w :: v :: w :: st) g
  | .pop => z_p1 st fun _ st => z_go (pc + 1) ls st g
  | .ireturn => z_pI st fun x st => match st with
    | [] => z_ck (z_rok M x) (some (.inr (some (.int x), g)))
    | _ => none
  | .lreturn => z_pJ st fun x st => match st with
    | [] => some (.inr (some (.long x), g))
    | _ => none
  | .areturn => z_pA st fun x st => match st with
    | [] => some (.inr (some (.ref x), g))
    | _ => none
  | .return_ => match st with
    | [] => some (.inr (none, g))
    | _ => none
  | _ => none
def z_at (M : zM) (pc : Nat) : Option zI := match z_look (pc / 32) M.2.2.2.2.2.2 with
  | some c => z_look pc c
  | none => none
def z_st (cal : Nat → List Value → zG → Option zR) (E : zE) (M : zM) (s : zP) : zY := match z_at M s.1 with
  | some q => z_x1 cal E M q s.1 s.2.1 s.2.2.1 s.2.2.2
  | none => none
def z_run (cal : Nat → List Value → zG → Option zR) (E : zE) (M : zM) : Nat → zP → Option zR
  | 0, _ => none
  | n + 1, s => match z_st cal E M s with
    | some (.inl t) => z_run cal E M n t
    | some (.inr r) => some r
    | none => none
def z_pad : Nat → zL → zL
  | 0, _ => []
  | n + 1, [] => none :: z_pad n []
  | n + 1, v :: t => v :: z_pad n t
def z_argl : List Value → zL
  | [] => []
  | v :: t => bif z_isJ (some v) then some v :: none :: z_argl t else some v :: z_argl t
noncomputable def z_lim (f : Nat → Option zR) : Option zR := @dite (Option zR) (∃ n r, f n = some r) (Classical.propDecidable _) (fun h => f (Classical.choose h)) (fun _ => none)
noncomputable def z_cl (E : zE) : Nat → Nat → List Value → zG → Option zR
  | 0, _, _, _ => none
  | d + 1, mid, as, g => match z_mt mid with
    | some M => z_lim (fun n => z_run (z_cl E d) E M n (0, z_pad M.2.2.1 (z_argl as), [], g))
    | none => none
theorem z_run_mono {cal : Nat → List Value → zG → Option zR} {E : zE} {M : zM} : ∀ (n : Nat) (s : zP) (r : zR), z_run cal E M n s = some r → ∀ m, n ≤ m → z_run cal E M m s = some r := by
  intro n
  induction n with
  | zero => intro s r h; cases h
  | succ n ih =>
    intro s r h m hm
    obtain ⟨m, rfl⟩ : ∃ k, m = k + 1 := ⟨m - 1, by omega⟩
    simp only [z_run] at h ⊢
    split at h
    · exact ih _ _ h m (by omega)
    · exact h
    · cases h
theorem z_lim_eq {cal : Nat → List Value → zG → Option zR} {E : zE} {M : zM} {s : zP} {n : Nat} {r : zR} (h : z_run cal E M n s = some r) : z_lim (fun n => z_run cal E M n s) = some r := by
  have hx : ∃ n r, z_run cal E M n s = some r := ⟨n, r, h⟩
  unfold z_lim
  rw [dif_pos hx]
  obtain ⟨r', h'⟩ := Classical.choose_spec hx
  rw [h']
  rcases Nat.le_total n (Classical.choose hx) with q | q
  · rw [← h', z_run_mono _ _ _ h _ q]
  · rw [← h, z_run_mono _ _ _ h' _ q]
theorem z_lim_inv {f : Nat → Option zR} {r : zR} (h : z_lim f = some r) : ∃ n, f n = some r := by
  unfold z_lim at h
  split at h
  · exact ⟨_, h⟩
  · cases h
