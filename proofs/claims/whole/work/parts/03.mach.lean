-- THE PURE MACHINE: cells by numbers, contents as functions; a step, a run, a call
abbrev zS : Type := (Nat → Nat → Int32) × (Nat → Nat → Int64) × (Nat → Nat → Option Nat)
abbrev zG : Type := Nat × zS
abbrev zR : Type := Option Value × zG
abbrev zL : Type := List (Option Value)
abbrev zP : Type := Nat × zL × List Value × zG
abbrev zY : Type := Option (zP ⊕ zR)
abbrev zE : Type := Nat × (Nat → Int32)
def z_u2 {α : Type} (f : Nat → Nat → α) (a i : Nat) (x : α) : Nat → Nat → α := fun b j => if b = a then (if j = i then x else f b j) else f b j
def z_ur {α : Type} (f : Nat → Nat → α) (a : Nat) (h : Nat → α) : Nat → Nat → α := fun b => if b = a then h else f b
/-- nothing from a on -/
def z_zr {α : Type} (f : Nat → Nat → α) (a : Nat) (x : α) : Nat → Nat → α := fun b j => if a ≤ b then x else f b j
def z_ck (b : Bool) (x : zY) : zY := match b with
  | true => x
  | false => none
def z_in (i : Int32) (n : Nat) : Bool := decide (0 ≤ i) && Nat.blt i.toNatClampNeg n
def z_pI (st : List Value) (k : Int32 → List Value → zY) : zY := match st with
  | .int x :: r => k x r
  | _ => none
def z_pJ (st : List Value) (k : Int64 → List Value → zY) : zY := match st with
  | .long x :: r => k x r
  | _ => none
def z_pA (st : List Value) (k : Nat → List Value → zY) : zY := match st with
  | .ref x :: r => k x r
  | _ => none
/-- a value of one place: an int or a reference -/
def z_p1 (st : List Value) (k : Value → List Value → zY) : zY := match st with
  | .int x :: r => k (.int x) r
  | .ref x :: r => k (.ref x) r
  | _ => none
/-- a reference to a cell of ours, or null -/
def z_pR (st : List Value) (k : Option Nat → List Value → zY) : zY := match st with
  | .ref x :: r => z_ck (Nat.blt x 1000) (k (some x) r)
  | .null :: r => k none r
  | _ => none
def z_pops : Nat → List Value → List Value → (List Value → List Value → zY) → zY
  | 0, as, st, k => k as st
  | n + 1, as, v :: st, k => z_pops n (v :: as) st k
  | _ + 1, _, [], _ => none
def z_go (pc : Nat) (ls : zL) (st : List Value) (z : Nat) (σ : zS) : zY := some (.inl (pc, ls, st, z, σ))
def z_gl : zL → Nat → Option Value
  | [], _ => none
  | v :: _, 0 => v
  | _ :: t, i + 1 => z_gl t i
def z_isJ : Option Value → Bool
  | some (.long _) => true
  | some (.double _) => true
  | _ => false
def z_clr : zL → zL
  | [] => []
  | _ :: t => none :: t
/-- a value of one place is stored -/
def z_s1 : zL → Nat → Value → zL
  | [], _, _ => []
  | _ :: t, 0, v => some v :: t
  | a :: t, 1, v => (bif z_isJ a then none else a) :: z_s1 t 0 v
  | a :: t, i + 2, v => a :: z_s1 t (i + 1) v
/-- a long is stored -/
def z_s2 : zL → Nat → Value → zL
  | [], _, _ => []
  | _ :: t, 0, v => some v :: z_clr t
  | a :: t, 1, v => (bif z_isJ a then none else a) :: z_s2 t 0 v
  | a :: t, i + 2, v => a :: z_s2 t (i + 1) v
def z_lI (ls : zL) (i : Nat) (k : Int32 → zY) : zY := match z_gl ls i with
  | some (.int x) => k x
  | _ => none
def z_lJ (ls : zL) (i : Nat) (k : Int64 → zY) : zY := match z_gl ls i with
  | some (.long x) => k x
  | _ => none
def z_lA (ls : zL) (i : Nat) (k : Nat → zY) : zY := match z_gl ls i with
  | some (.ref x) => k x
  | _ => none
def z_roI (E : zE) (a : Nat) : Option (Nat × (Nat → Int32)) := bif Nat.beq a 1000 then some (6, z_first) else bif Nat.beq a 1001 then some (6, z_above) else bif Nat.beq a 1006 then some E else none
def z_roB (a : Nat) : Option (Nat × (Nat → Int32)) := bif Nat.beq a 1003 then some (55, fun j => z_wordsL.getD j 0) else bif Nat.beq a 1005 then some (8, fun j => z_signsL.getD j 0) else none
/-- an array of ints: its size, what it holds -/
def z_ia (E : zE) (z : Nat) (σ : zS) (a : Nat) : Option (Nat × (Nat → Int32)) := bif Nat.blt a 1000 then (bif Nat.blt a z && Nat.beq (z_SH a).1 0 then some ((z_SH a).2, σ.1 a) else none) else z_roI E a
def z_ba (z : Nat) (σ : zS) (a : Nat) : Option (Nat × (Nat → Int32)) := bif Nat.blt a 1000 then (bif Nat.blt a z && Nat.beq (z_SH a).1 2 then some ((z_SH a).2, σ.1 a) else none) else z_roB a
def z_al (E : zE) (z : Nat) (σ : zS) (a : Nat) : Option Nat := bif Nat.blt a 1000 then (bif Nat.blt a z && Nat.ble (z_SH a).1 3 then some (z_SH a).2 else none) else match z_roI E a with
  | some (n, _) => some n
  | none => match z_roB a with
    | some (n, _) => some n
    | none => none
def z_ild (o : Option (Nat × (Nat → Int32))) (i : Int32) (k : Int32 → zY) : zY := match o with
  | some (N, f) => z_ck (z_in i N) (k (f i.toNatClampNeg))
  | none => none
/-- is a cell an array of ours of a kind -/
def z_isA (z : Nat) (σ : zS) (a k : Nat) : Bool := Nat.blt a 1000 && Nat.blt a z && Nat.beq (z_SH a).1 k
def z_isO (z : Nat) (σ : zS) (a ci : Nat) : Bool := Nat.blt a 1000 && Nat.blt a z && Nat.beq (z_SH a).1 (ci + 4) && Nat.beq (z_SH a).2 (z_nf ci) && Nat.blt ci 12
def z_rv (r : Option Nat) : Value := match r with
  | some a => .ref a
  | none => .null
def z_fv (ci fk : Nat) (z : Nat) (σ : zS) (a : Nat) : Value := match z_ft ci fk with
  | 0 => .int (σ.1 a fk)
  | 1 => .int (σ.1 a fk)
  | 2 => .long (σ.2.1 a fk)
  | _ => z_rv (σ.2.2 a fk)
def z_cat (v : Value) : Nat := match v with
  | .long _ => 2
  | .double _ => 2
  | _ => 1
def z_cs : List Value → Nat
  | [] => 0
  | v :: t => z_cat v + z_cs t
def z_ret (o : Option zR) (pc : Nat) (ls : zL) (st : List Value) : zY := match o with
  | some (some v, z, σ) => z_go pc ls (v :: st) z σ
  | some (none, z, σ) => z_go pc ls st z σ
  | none => none
def z_fin (ci fk : Nat) : Bool := match vwCl[ci]? with
  | some q => (q.2.1 fk).2.2.2
  | none => true
/-- may a field be written here -/
def z_may (M : zM) (ci fk : Nat) : Bool := !(z_fin ci fk) || (M.2.2.2.2.1 && Nat.beq M.2.2.2.2.2.1 ci)
def z_b01 (x : Int32) : Bool := decide (x = 0) || decide (x = 1)
def z_rok (M : zM) (x : Int32) : Bool := match M.2.2.2.1 with
  | some .int => true
  | some .boolean => z_b01 x
  | some .char => decide (narrow .char (.int x) = .int x)
  | some .byte => decide (narrow .byte (.int x) = .int x)
  | _ => false
def z_sI (σ : zS) (a i : Nat) (x : Int32) : zS := (z_u2 σ.1 a i x, σ.2.1, σ.2.2)
def z_sJ (σ : zS) (a i : Nat) (x : Int64) : zS := (σ.1, z_u2 σ.2.1 a i x, σ.2.2)
def z_sR (σ : zS) (a i : Nat) (x : Option Nat) : zS := (σ.1, σ.2.1, z_u2 σ.2.2 a i x)
def z_put (M : zM) (ci fk : Nat) (st : List Value) (z : Nat) (σ : zS) (k : List Value → Nat → zS → zY) : zY := match z_ft ci fk with
  | 0 => z_pI st fun x st => z_pA st fun a st => z_ck (z_isO z σ a ci && z_may M ci fk) (k st z (z_sI σ a fk x))
  | 1 => z_pI st fun x st => z_pA st fun a st => z_ck (z_isO z σ a ci && z_may M ci fk && z_b01 x) (k st z (z_sI σ a fk x))
  | 2 => z_pJ st fun x st => z_pA st fun a st => z_ck (z_isO z σ a ci && z_may M ci fk) (k st z (z_sJ σ a fk x))
  | _ => z_pR st fun x st => z_pA st fun a st => z_ck (z_isO z σ a ci && z_may M ci fk) (k st z (z_sR σ a fk x))
def z_new1 (z : Nat) (σ : zS) : zS := (z_zr σ.1 z 0, z_zr σ.2.1 z 0, z_zr σ.2.2 z none)
def z_newM (z : Nat) (σ : zS) (n : Nat) : zS := (z_zr σ.1 z 0, z_zr σ.2.1 z 0, z_ur (z_zr σ.2.2 z none) z (fun j => some (z + 1 + j)))
def z_akind : ArrayType → Nat
  | .int => 0
  | .long => 1
  | .boolean => 2
  | _ => 99
def z_copy (E : zE) (z : Nat) (σ : zS) (s d : Nat) (sp dp n : Int32) (k : Nat → zS → zY) : zY := match z_ia E z σ s with
  | some (N, f) => z_ck (z_isA z σ d 0 && decide (0 ≤ sp) && decide (0 ≤ dp) && decide (0 ≤ n) && Nat.ble (sp.toNatClampNeg + n.toNatClampNeg) N && Nat.ble (dp.toNatClampNeg + n.toNatClampNeg) (z_SH d).2) (k z (z_ur σ.1 d (va_cpy f (σ.1 d) sp.toNatClampNeg dp.toNatClampNeg n.toNatClampNeg), σ.2.1, σ.2.2))
  | none => none
def z_invk (cal : Nat → List Value → zG → Option zR) (E : zE) (ts : List Nat) (pc : Nat) (ls : zL) (st : List Value) (z : Nat) (σ : zS) : zY := match ts with
  | [0, mid, n, ci] => z_pops n [] st fun as st => z_pA st fun a st => z_ck ((z_isO z σ a ci || (Nat.beq ci 100 && (Nat.beq a 1002 || Nat.beq a 1004))) && Nat.ble (z_cs st) 8) (z_ret (cal mid (.ref a :: as) (z, σ)) (pc + 3) ls st)
  | [1, mid, n] => z_pops n [] st fun as st => z_ck (Nat.ble (z_cs st) 8) (z_ret (cal mid as (z, σ)) (pc + 3) ls st)
  | [2, mid, n] => z_pops n [] st fun as st => z_pA st fun a st => z_ck (Nat.blt a 1000 && Nat.ble (z_cs st) 8) (z_ret (cal mid (.ref a :: as) (z, σ)) (pc + 3) ls st)
  | [3, mid, n] => z_pops n [] st fun as st => z_ck (Nat.ble (z_cs st) 8) (z_ret (cal mid as (z, σ)) (pc + 3) ls st)
  | [4, mid, n] => z_pops n [] st fun as st => z_pA st fun a st => z_ck (Nat.blt a 1000 && Nat.ble (z_cs st) 8) (z_ret (cal mid (.ref a :: as) (z, σ)) (pc + 3) ls st)
  | [5, _, _] => z_pI st fun n st => z_pI st fun dp st => z_pA st fun d st => z_pI st fun sp st => z_pA st fun s st => z_ck (Nat.ble (z_cs st) 8) (z_copy E z σ s d sp dp n fun z σ => z_go (pc + 3) ls st z σ)
  | [6, _, _] => z_pA st fun a st => z_ck (Nat.blt a 1000 && Nat.ble (z_cs st) 8) (z_go (pc + 3) ls st z σ)
  | [7, _, _] => z_pI st fun y st => z_pI st fun x st => z_ck (Nat.ble (z_cs st) 8) (z_go (pc + 3) ls (.int (if x < y then y else x) :: st) z σ)
  | [8, _, _] => z_pI st fun y st => z_pI st fun x st => z_ck (Nat.ble (z_cs st) 8) (z_go (pc + 3) ls (.int (if y < x then y else x) :: st) z σ)
  | [9, _, _] => z_pJ st fun y st => z_pJ st fun x st => z_ck (Nat.ble (z_cs st) 8) (z_go (pc + 3) ls (.long (if y < x then y else x) :: st) z σ)
  | [10, _, _] => z_pJ st fun x st => z_ck (Nat.ble (z_cs st) 8) (z_go (pc + 3) ls (.long (if 0 < x then x else -x) :: st) z σ)
  | _ => none
def z_icc (c : Jvm.ClassFile.Cond) (x y : Int32) : Prop := match c with
  | .eq => x = y
  | .ne => x ≠ y
  | .lt => x < y
  | .ge => y ≤ x
  | .gt => y < x
  | .le => x ≤ y
def z_br (c : Jvm.ClassFile.Cond) (x y : Int32) (t n : Nat) (ls : zL) (st : List Value) (z : Nat) (σ : zS) : zY := match c with
  | .eq => if x = y then z_go t ls st z σ else z_go n ls st z σ
  | .ne => if x = y then z_go n ls st z σ else z_go t ls st z σ
  | .lt => if x < y then z_go t ls st z σ else z_go n ls st z σ
  | .ge => if x < y then z_go n ls st z σ else z_go t ls st z σ
  | .gt => if y < x then z_go t ls st z σ else z_go n ls st z σ
  | .le => if y < x then z_go n ls st z σ else z_go t ls st z σ
def z_t0 (ts : List Nat) (k : Nat → zY) : zY := match ts with
  | t :: _ => k t
  | [] => none
def z_t2 (ts : List Nat) (k : Nat → Nat → zY) : zY := match ts with
  | [a, b] => k a b
  | _ => none
def z_sw (o : Option Nat) (ls : zL) (st : List Value) (z : Nat) (σ : zS) : zY := match o with
  | some t => z_go t ls st z σ
  | none => none
def z_psw : List (Int × Int) → List Nat → Nat → Int → Nat
  | (k, _) :: ps, t :: ts, d, x => if k = x then t else z_psw ps ts d x
  | _, _, d, _ => d
def z_str (fk a : Nat) (k : Value → zY) : zY := bif Nat.beq a 1002 || Nat.beq a 1004 then (bif Nat.beq fk 0 then k (.ref (a + 1)) else k (.int 0)) else none
/-- one instruction -/
def z_x1 (cal : Nat → List Value → zG → Option zR) (E : zE) (M : zM) (q : zI) (pc : Nat) (ls : zL) (st : List Value) (z : Nat) (σ : zS) : zY := match q.1 with
  | .aload i => z_lA ls i fun x => z_go (pc + 2) ls (.ref x :: st) z σ
  | .aload_n i => z_lA ls i.val fun x => z_go (pc + 1) ls (.ref x :: st) z σ
  | .iload i => z_lI ls i fun x => z_go (pc + 2) ls (.int x :: st) z σ
  | .iload_n i => z_lI ls i.val fun x => z_go (pc + 1) ls (.int x :: st) z σ
  | .lload i => z_lJ ls i fun x => z_go (pc + 2) ls (.long x :: st) z σ
  | .lload_n i => z_lJ ls i.val fun x => z_go (pc + 1) ls (.long x :: st) z σ
  | .istore i => z_pI st fun x st => z_go (pc + 2) (z_s1 ls i (.int x)) st z σ
  | .istore_n i => z_pI st fun x st => z_go (pc + 1) (z_s1 ls i.val (.int x)) st z σ
  | .astore i => z_pA st fun x st => z_go (pc + 2) (z_s1 ls i (.ref x)) st z σ
  | .astore_n i => z_pA st fun x st => z_go (pc + 1) (z_s1 ls i.val (.ref x)) st z σ
  | .lstore i => z_pJ st fun x st => z_go (pc + 2) (z_s2 ls i (.long x)) st z σ
  | .lstore_n i => z_pJ st fun x st => z_go (pc + 1) (z_s2 ls i.val (.long x)) st z σ
  | .iinc i _ => z_lI ls i fun x => z_pI [q.2.2.2] fun y _ => z_go (pc + 3) (z_s1 ls i (.int (x + y))) st z σ
  | .iconst _ => z_pI [q.2.2.2] fun y _ => z_go (pc + 1) ls (.int y :: st) z σ
  | .bipush _ => z_pI [q.2.2.2] fun y _ => z_go (pc + 2) ls (.int y :: st) z σ
  | .sipush _ => z_pI [q.2.2.2] fun y _ => z_go (pc + 3) ls (.int y :: st) z σ
  | .lconst _ => z_pJ [q.2.2.2] fun y _ => z_go (pc + 1) ls (.long y :: st) z σ
  | .ldc _ => z_p1 [q.2.2.2] fun v _ => z_go (pc + 2) ls (v :: st) z σ
  | .ldc_w _ => z_pI [q.2.2.2] fun y _ => z_go (pc + 3) ls (.int y :: st) z σ
  | .ldc2_w _ => z_pJ [q.2.2.2] fun y _ => z_go (pc + 3) ls (.long y :: st) z σ
  | .getstatic _ => z_p1 [q.2.2.2] fun v _ => z_go (pc + 3) ls (v :: st) z σ
  | .getfield _ => z_t2 q.2.2.1 fun ci fk => z_pA st fun a st => bif Nat.blt ci 12 then z_ck (z_isO z σ a ci) (z_go (pc + 3) ls (z_fv ci fk z σ a :: st) z σ) else z_str fk a fun v => z_go (pc + 3) ls (v :: st) z σ
  | .putfield _ => z_t2 q.2.2.1 fun ci fk => z_put M ci fk st z σ fun st z σ => z_go (pc + 3) ls st z σ
  | .invokevirtual _ => z_invk cal E q.2.2.1 pc ls st z σ
  | .invokestatic _ => z_invk cal E q.2.2.1 pc ls st z σ
  | .invokespecial _ => z_invk cal E q.2.2.1 pc ls st z σ
  | .iaload => z_pI st fun i st => z_pA st fun a st => z_ild (z_ia E z σ a) i fun x => z_go (pc + 1) ls (.int x :: st) z σ
  | .baload => z_pI st fun i st => z_pA st fun a st => z_ild (z_ba z σ a) i fun x => z_go (pc + 1) ls (.int x :: st) z σ
  | .laload => z_pI st fun i st => z_pA st fun a st => z_ck (z_isA z σ a 1 && z_in i (z_SH a).2) (z_go (pc + 1) ls (.long (σ.2.1 a i.toNatClampNeg) :: st) z σ)
  | .aaload => z_pI st fun i st => z_pA st fun a st => z_ck (z_isA z σ a 3 && z_in i (z_SH a).2) (z_go (pc + 1) ls (z_rv (σ.2.2 a i.toNatClampNeg) :: st) z σ)
  | .iastore => z_pI st fun x st => z_pI st fun i st => z_pA st fun a st => z_ck (z_isA z σ a 0 && z_in i (z_SH a).2) (z_go (pc + 1) ls st z (z_sI σ a i.toNatClampNeg x))
  | .bastore => z_pI st fun x st => z_pI st fun i st => z_pA st fun a st => z_ck (z_isA z σ a 2 && z_in i (z_SH a).2 && z_b01 x) (z_go (pc + 1) ls st z (z_sI σ a i.toNatClampNeg x))
  | .lastore => z_pJ st fun x st => z_pI st fun i st => z_pA st fun a st => z_ck (z_isA z σ a 1 && z_in i (z_SH a).2) (z_go (pc + 1) ls st z (z_sJ σ a i.toNatClampNeg x))
  | .arraylength => z_pA st fun a st => match z_al E z σ a with
    | some n => z_go (pc + 1) ls (.int (Int32.ofNat n) :: st) z σ
    | none => none
  | .new _ => z_t0 q.2.2.1 fun ci => z_ck (Nat.beq (z_SH z).1 (ci + 4) && Nat.beq (z_SH z).2 (z_nf ci) && Nat.blt ci 12 && Nat.blt z 1000) (z_go (pc + 3) ls (.ref z :: st) (z + 1) (z_new1 z σ))
  | .newarray t => z_pI st fun n st => z_ck (decide (0 ≤ n) && Nat.beq (z_SH z).1 (z_akind t) && Nat.beq (z_SH z).2 n.toNatClampNeg && Nat.blt z 1000 && Nat.ble n.toNatClampNeg 1000) (z_go (pc + 2) ls (.ref z :: st) (z + 1) (z_new1 z σ))
  | .multianewarray _ d => z_pI st fun k st => z_pI st fun n st => z_ck (Nat.beq d 2 && decide (0 ≤ n) && decide (0 ≤ k) && Nat.ble n.toNatClampNeg 1000 && Nat.ble k.toNatClampNeg 1000 && Nat.beq (z_SH z).1 3 && Nat.beq (z_SH z).2 n.toNatClampNeg && (List.range n.toNatClampNeg).all (fun j => Nat.beq (z_SH (z + 1 + j)).1 0 && Nat.beq (z_SH (z + 1 + j)).2 k.toNatClampNeg) && Nat.blt (z + n.toNatClampNeg) 1000) (z_go (pc + 4) ls (.ref z :: st) (z + 1 + n.toNatClampNeg) (z_newM z σ n.toNatClampNeg))
  | .iadd => z_pI st fun y st => z_pI st fun x st => z_go (pc + 1) ls (.int (x + y) :: st) z σ
  | .isub => z_pI st fun y st => z_pI st fun x st => z_go (pc + 1) ls (.int (x - y) :: st) z σ
  | .imul => z_pI st fun y st => z_pI st fun x st => z_go (pc + 1) ls (.int (x * y) :: st) z σ
  | .idiv => z_pI st fun y st => z_pI st fun x st => z_ck (!decide (y = 0)) (z_go (pc + 1) ls (.int (x / y) :: st) z σ)
  | .irem => z_pI st fun y st => z_pI st fun x st => z_ck (!decide (y = 0)) (z_go (pc + 1) ls (.int (x - x / y * y) :: st) z σ)
  | .ineg => z_pI st fun x st => z_go (pc + 1) ls (.int (-x) :: st) z σ
  | .iand => z_pI st fun y st => z_pI st fun x st => z_go (pc + 1) ls (.int (x &&& y) :: st) z σ
  | .ior => z_pI st fun y st => z_pI st fun x st => z_go (pc + 1) ls (.int (x ||| y) :: st) z σ
  | .ixor => z_pI st fun y st => z_pI st fun x st => z_go (pc + 1) ls (.int (x ^^^ y) :: st) z σ
  | .ishl => z_pI st fun y st => z_pI st fun x st => z_go (pc + 1) ls (.int (x <<< (y &&& 31)) :: st) z σ
  | .ishr => z_pI st fun y st => z_pI st fun x st => z_go (pc + 1) ls (.int (x >>> (y &&& 31)) :: st) z σ
  | .iushr => z_pI st fun y st => z_pI st fun x st => z_go (pc + 1) ls (.int (x.toUInt32 >>> (y.toUInt32 &&& Int32.toUInt32 31)).toInt32 :: st) z σ
  | .ladd => z_pJ st fun y st => z_pJ st fun x st => z_go (pc + 1) ls (.long (x + y) :: st) z σ
  | .lsub => z_pJ st fun y st => z_pJ st fun x st => z_go (pc + 1) ls (.long (x - y) :: st) z σ
  | .lmul => z_pJ st fun y st => z_pJ st fun x st => z_go (pc + 1) ls (.long (x * y) :: st) z σ
  | .ldiv => z_pJ st fun y st => z_pJ st fun x st => z_ck (!decide (y = 0)) (z_go (pc + 1) ls (.long (x / y) :: st) z σ)
  | .lrem => z_pJ st fun y st => z_pJ st fun x st => z_ck (!decide (y = 0)) (z_go (pc + 1) ls (.long (x - x / y * y) :: st) z σ)
  | .lneg => z_pJ st fun x st => z_go (pc + 1) ls (.long (-x) :: st) z σ
  | .land => z_pJ st fun y st => z_pJ st fun x st => z_go (pc + 1) ls (.long (x &&& y) :: st) z σ
  | .lor => z_pJ st fun y st => z_pJ st fun x st => z_go (pc + 1) ls (.long (x ||| y) :: st) z σ
  | .lshl => z_pI st fun y st => z_pJ st fun x st => z_go (pc + 1) ls (.long (x <<< (y.toInt64 &&& 63)) :: st) z σ
  | .lshr => z_pI st fun y st => z_pJ st fun x st => z_go (pc + 1) ls (.long (x >>> (y.toInt64 &&& 63)) :: st) z σ
  | .lcmp => z_pJ st fun y st => z_pJ st fun x st => z_go (pc + 1) ls (.int (lg_cmp x y) :: st) z σ
  | .i2l => z_pI st fun x st => z_go (pc + 1) ls (.long x.toInt64 :: st) z σ
  | .l2i => z_pJ st fun x st => z_go (pc + 1) ls (.int x.toInt32 :: st) z σ
  | .i2b => z_pI st fun x st => z_go (pc + 1) ls (.int x.toInt8.toInt32 :: st) z σ
  | .i2s => z_pI st fun x st => z_go (pc + 1) ls (.int x.toInt16.toInt32 :: st) z σ
  | .i2c => z_pI st fun x st => z_go (pc + 1) ls (.int (x.toUInt32 % 65536).toInt32 :: st) z σ
  | .ifCond c _ => z_t0 q.2.2.1 fun t => z_pI st fun x st => z_br c x 0 t (pc + 3) ls st z σ
  | .if_icmp c _ => z_t0 q.2.2.1 fun t => z_pI st fun y st => z_pI st fun x st => z_br c x y t (pc + 3) ls st z σ
  | .goto _ => z_t0 q.2.2.1 fun t => z_go t ls st z σ
  | .tableswitch _ lo hi _ => z_pI st fun x st => if x.toInt < lo ∨ hi < x.toInt then z_sw q.2.2.1[0]? ls st z σ else z_sw q.2.2.1[(x.toInt - lo).toNat + 1]? ls st z σ
  | .lookupswitch _ ps => z_t0 q.2.2.1 fun t => z_pI st fun x st => z_go (z_psw ps.toList q.2.2.1.tail t x.toInt) ls st z σ
  | .dup => z_p1 st fun v st => z_go (pc + 1) ls (v :: v :: st) z σ
  | .dup_x1 => z_p1 st fun v st => z_p1 st fun w st => z_go (pc + 1) ls (v :: w :: v :: st) z σ
  | .dup2 => z_p1 st fun v st => z_p1 st fun w st => z_go (pc + 1) ls (v :: w :: v :: w :: st) z σ
  | .pop => z_p1 st fun _ st => z_go (pc + 1) ls st z σ
  | .ireturn => z_pI st fun x st => match st with
    | [] => z_ck (z_rok M x) (some (.inr (some (.int x), z, σ)))
    | _ => none
  | .lreturn => z_pJ st fun x st => match st with
    | [] => some (.inr (some (.long x), z, σ))
    | _ => none
  | .areturn => z_pA st fun x st => match st with
    | [] => some (.inr (some (.ref x), z, σ))
    | _ => none
  | .return_ => match st with
    | [] => some (.inr (none, z, σ))
    | _ => none
  | _ => none
def z_at (M : zM) (pc : Nat) : Option zI := match z_look (pc / 32) M.2.2.2.2.2.2 with
  | some c => z_look pc c
  | none => none
def z_st (cal : Nat → List Value → zG → Option zR) (E : zE) (M : zM) (pc : Nat) (ls : zL) (st : List Value) (z : Nat) (σ : zS) : zY := match z_at M pc with
  | some q => z_x1 cal E M q pc ls st z σ
  | none => none
def z_run (cal : Nat → List Value → zG → Option zR) (E : zE) (M : zM) : Nat → Nat → zL → List Value → Nat → zS → Option zR
  | 0, _, _, _, _, _ => none
  | n + 1, pc, ls, st, z, σ => match z_st cal E M pc ls st z σ with
    | some (.inl (pc, ls, st, z, σ)) => z_run cal E M n pc ls st z σ
    | some (.inr r) => some r
    | none => none
def z_pad : Nat → zL → zL
  | 0, _ => []
  | n + 1, [] => none :: z_pad n []
  | n + 1, v :: t => v :: z_pad n t
def z_argl : List Value → zL
  | [] => []
  | v :: t => bif z_isJ (some v) then some v :: none :: z_argl t else some v :: z_argl t
noncomputable def z_lim (f : Nat → Option zR) : Option zR := @dite (Option zR) (∃ n r, f n = some r) (Classical.propDecidable _) (fun h => f (Classical.choose h)) (fun _ => none)
noncomputable def z_cl (E : zE) : Nat → Nat → List Value → zG → Option zR
  | 0, _, _, _ => none
  | d + 1, mid, as, g => match z_mt mid with
    | some M => bif Nat.ble (z_argl as).length M.2.2.1 then z_lim (fun n => z_run (z_cl E d) E M n 0 (z_pad M.2.2.1 (z_argl as)) [] g.1 g.2) else none
    | none => none
theorem z_run_mono {cal : Nat → List Value → zG → Option zR} {E : zE} {M : zM} : ∀ (n : Nat) (pc : Nat) (ls : zL) (st : List Value) (z : Nat) (σ : zS) (r : zR), z_run cal E M n pc ls st z σ = some r → ∀ m, n ≤ m → z_run cal E M m pc ls st z σ = some r := by
  intro n
  induction n with
  | zero => intro _ _ _ _ _ r h; cases h
  | succ n ih =>
    intro pc ls st z σ r h m hm
    obtain ⟨m, rfl⟩ : ∃ k, m = k + 1 := ⟨m - 1, by omega⟩
    simp only [z_run] at h ⊢
    split at h
    · exact ih _ _ _ _ _ _ h m (by omega)
    · exact h
    · cases h
theorem z_lim_eq {cal : Nat → List Value → zG → Option zR} {E : zE} {M : zM} {pc : Nat} {ls : zL} {st : List Value} {z : Nat} {σ : zS} {n : Nat} {r : zR} (h : z_run cal E M n pc ls st z σ = some r) : z_lim (fun n => z_run cal E M n pc ls st z σ) = some r := by
  have hx : ∃ n r, z_run cal E M n pc ls st z σ = some r := ⟨n, r, h⟩
  unfold z_lim
  rw [dif_pos hx]
  obtain ⟨r', h'⟩ := Classical.choose_spec hx
  show z_run cal E M (Classical.choose hx) pc ls st z σ = some r
  rw [h']
  rcases Nat.le_total n (Classical.choose hx) with q | q
  · rw [← h', z_run_mono _ _ _ _ _ _ _ h _ q]
  · rw [← h, z_run_mono _ _ _ _ _ _ _ h' _ q]
theorem z_lim_inv {f : Nat → Option zR} {r : zR} (h : z_lim f = some r) : ∃ n, f n = some r := by
  unfold z_lim at h
  split at h
  · exact ⟨_, h⟩
  · cases h
