-- THE TABLES ARE RIGHT: the same checks, each word looked up by its place
def z_okcT (T : Cond → Bool) (M : zM) (n : Nat) : Bool := T (.code M.1 M.2.1 M.2.2.1 M.2.2.2.1) && T (.initialized M.1.cls) && decide (M.1.cls ≠ "java/lang/invoke/MethodHandle") && decide (M.1.cls ≠ "java/lang/invoke/VarHandle") && decide ((parseMethodDescriptor M.1.desc).map (fun d => d.parameters.length) = some n) && Nat.ble M.2.2.1 45
def z_okFT (T : Cond → Bool) (own : String) (idx : Nat) (ts : List Nat) : Bool := match ts with
  | [ci, fk] => match vwCl[ci]? with
    | some q => T (.fieldLink own idx q.1 (q.2.1 fk).2.1 (q.2.1 fk).2.2.1) && decide ((q.2.1 fk).1 = q.1) && Nat.blt fk q.2.2 && Nat.beq q.2.2 (z_nf ci) && Nat.blt ci 12
    | none => Nat.beq ci 100 && ((Nat.beq fk 0 && T (.fieldLink own idx "java/lang/String" "value" "[B")) || (Nat.beq fk 1 && T (.fieldLink own idx "java/lang/String" "coder" "B")))
  | _ => false
def z_okI0T (T : Cond → Bool) (own : String) (idx : Nat) (mid n ci : Nat) (virt : Nat) : Bool := match z_mt mid with
    | some M => Nat.beq virt 0 && z_okcT T M n && T (.methodLink own idx M.1) && T (.instanceMethod M.1) && T (.selects M.1.cls M.1 M.1) && decide (M.1.cls = z_cn ci) && T (.initialized M.1.cls)
    | none => false
def z_okI1T (T : Cond → Bool) (own : String) (idx : Nat) (mid n : Nat) (virt : Nat) : Bool := match z_mt mid with
    | some M => Nat.beq virt 1 && z_okcT T M n && T (.methodLink own idx M.1) && T (.static M.1)
    | none => false
def z_okI2T (T : Cond → Bool) (own : String) (idx : Nat) (mid n : Nat) (virt : Nat) : Bool := match z_mt mid with
    | some M => Nat.beq virt 2 && z_okcT T M n && T (.methodLink own idx M.1) && T (.instanceMethod M.1) && decide (M.1.name = "<init>") && decide (M.2.2.2.1 = none)
    | none => false
def z_okI3T (T : Cond → Bool) (own : String) (idx : Nat) (mid n : Nat) (virt : Nat) : Bool := match z_mt mid with
    | some M => Nat.beq virt 1 && z_okcT T M n && decide (Cond.methodLinkNest own idx M.1 "LampHouse" ∈ z_nst) && T (.static M.1)
    | none => false
def z_okI4T (T : Cond → Bool) (own : String) (idx : Nat) (mid n : Nat) (virt : Nat) : Bool := match z_mt mid with
    | some M => Nat.beq virt 2 && z_okcT T M n && decide (Cond.methodLinkNest own idx M.1 "LampHouse" ∈ z_nst) && T (.instanceMethod M.1) && decide (M.1.name = "<init>") && decide (M.2.2.2.1 = none)
    | none => false
def z_okI5T (T : Cond → Bool) (own : String) (idx : Nat) (virt : Nat) : Bool := Nat.beq virt 1 && T (.methodLink own idx arraycopyName) && T (.native arraycopyName) && T (.static arraycopyName) && T (.initialized "java/lang/System")
def z_okI6T (T : Cond → Bool) (own : String) (idx : Nat) (virt : Nat) : Bool := Nat.beq virt 2 && T (.methodLink own idx Lib.objectInit) && T (.instanceMethod Lib.objectInit) && T (.code Lib.objectInit ⟨#[0xb1]⟩ 1 none)
def z_okI7T (T : Cond → Bool) (own : String) (idx : Nat) (virt : Nat) : Bool := Nat.beq virt 1 && T (.methodLink own idx Lib.Math.max.name) && T (.static Lib.Math.max.name) && T (.initialized "java/lang/Math") && T (.code Lib.Math.max.name Lib.Math.max.code 2 (some .int))
def z_okI8T (T : Cond → Bool) (own : String) (idx : Nat) (virt : Nat) : Bool := Nat.beq virt 1 && T (.methodLink own idx Lib.Math.min.name) && T (.static Lib.Math.min.name) && T (.initialized "java/lang/Math") && T (.code Lib.Math.min.name Lib.Math.min.code 2 (some .int))
def z_okI9T (T : Cond → Bool) (own : String) (idx : Nat) (virt : Nat) : Bool := Nat.beq virt 1 && T (.methodLink own idx Lib.MathLoose.min_long.x) && T (.static Lib.MathLoose.min_long.x) && T (.initialized "java/lang/Math") && T (.code Lib.MathLoose.min_long.x Lib.MathLoose.min_long.code 4 (some .long))
def z_okI10T (T : Cond → Bool) (own : String) (idx : Nat) (virt : Nat) : Bool := Nat.beq virt 1 && T (.methodLink own idx Lib.MathLoose.abs_long.x) && T (.static Lib.MathLoose.abs_long.x) && T (.initialized "java/lang/Math") && T (.code Lib.MathLoose.abs_long.x Lib.MathLoose.abs_long.code 2 (some .long))
def z_okIT (T : Cond → Bool) (own : String) (idx : Nat) (ts : List Nat) (virt : Nat) : Bool := match ts with
  | [0, mid, n, ci] => z_okI0T T own idx mid n ci virt
  | [1, mid, n] => z_okI1T T own idx mid n virt
  | [2, mid, n] => z_okI2T T own idx mid n virt
  | [3, mid, n] => z_okI3T T own idx mid n virt
  | [4, mid, n] => z_okI4T T own idx mid n virt
  | [5, _, _] => z_okI5T T own idx virt
  | [6, _, _] => z_okI6T T own idx virt
  | [7, _, _] => z_okI7T T own idx virt
  | [8, _, _] => z_okI8T T own idx virt
  | [9, _, _] => z_okI9T T own idx virt
  | [10, _, _] => z_okI10T T own idx virt
  | [99] => true
  | _ => false
def z_okbT (T : Cond → Bool) (M : zM) (pc : Nat) (q : zI) : Bool := decide (decode M.2.1 pc = .ok (q.1, q.2.1)) && match q.1 with
  | .istore i => Nat.blt i M.2.2.1
  | .istore_n i => Nat.blt i.val M.2.2.1
  | .astore i => Nat.blt i M.2.2.1
  | .astore_n i => Nat.blt i.val M.2.2.1
  | .lstore i => Nat.blt (i + 1) M.2.2.1
  | .lstore_n i => Nat.blt (i.val + 1) M.2.2.1
  | .iinc i n => Nat.blt i M.2.2.1 && decide (q.2.2.2 = .int (Int32.ofInt n))
  | .iconst n => decide (q.2.2.2 = .int (Int32.ofInt n))
  | .bipush n => decide (q.2.2.2 = .int (Int8.ofInt n).toInt32)
  | .sipush n => decide (q.2.2.2 = .int (Int16.ofInt n).toInt32)
  | .lconst n => decide (q.2.2.2 = .long (Int64.ofNat n.val))
  | .ldc idx => match q.2.2.2 with
    | .int v => T (.constant M.1.cls idx v)
    | .ref a => (Nat.beq a 1002 && decide (M.1.cls = "LampHouse$Reader") && Nat.beq idx 96) || (Nat.beq a 1004 && decide (M.1.cls = "LampHouse$Reader") && Nat.beq idx 85)
    | _ => true
  | .ldc_w idx => match q.2.2.2 with
    | .int v => T (.constant M.1.cls idx v)
    | _ => true
  | .ldc2_w idx => match q.2.2.2 with
    | .long v => T (.constantLong M.1.cls idx v)
    | _ => true
  | .getstatic idx => match q.2.2.2 with
    | .int v => decide (v = 1) && T (.fieldLink M.1.cls idx "java/lang/String" "COMPACT_STRINGS" "Z")
    | .ref a => (Nat.beq a 1000 && T (.fieldLink M.1.cls idx "LampHouse$Rules" "FIRST" "[I")) || (Nat.beq a 1001 && T (.fieldLink M.1.cls idx "LampHouse$Things" "ABOVE" "[I")) || (Nat.beq a 1007 && T (.fieldLink M.1.cls idx "jdk/internal/util/Preconditions" "SIOOBE_FORMATTER" "Ljava/util/function/BiFunction;"))
    | _ => true
  | .getfield idx => z_okFT T M.1.cls idx q.2.2.1
  | .putfield idx => z_okFT T M.1.cls idx q.2.2.1
  | .invokevirtual idx => z_okIT T M.1.cls idx q.2.2.1 0
  | .invokestatic idx => z_okIT T M.1.cls idx q.2.2.1 1
  | .invokespecial idx => z_okIT T M.1.cls idx q.2.2.1 2
  | .new idx => match q.2.2.1 with
    | ci :: _ => match vwCl[ci]? with
      | some c => T (.classLink M.1.cls idx c.1) && T (.instantiable c.1 c.2.2) && T (.initialized c.1) && Nat.beq c.2.2 (z_nf ci)
      | none => Nat.beq ci 99
    | _ => true
  | .newarray t => T (.arrayClass (Op.newarray.typeOf t))
  | .multianewarray idx d => T (.classLink M.1.cls idx "[[I") && T (.arrayClass .int) && Nat.beq d 2
  | .lreturn => decide (M.2.2.2.1 = some .long)
  | .areturn => decide (M.2.2.2.1 = some (.array .int))
  | .return_ => decide (M.2.2.2.1 = none)
  | .ifCond _ o => z_okt pc o q.2.2.1
  | .if_icmp _ o => z_okt pc o q.2.2.1
  | .goto o => z_okt pc o q.2.2.1
  | .tableswitch d lo hi os => z_oks pc (d :: os.toList) q.2.2.1 && decide ((os.size : Int) = hi - lo + 1)
  | .lookupswitch d ps => z_oks pc (d :: ps.toList.map (fun p => p.2)) q.2.2.1 && (ps.toList.zip (ps.toList.drop 1)).all (fun (a, next) => a.1 < next.1)
  | _ => true

section OKT
variable {T : Cond → Bool}
theorem z_okcT_ok (hT : ∀ w, T w = true → z_T w = true) {M : zM} {n : Nat} (h : z_okcT T M n = true) : z_okc M n = true := by
  unfold z_okcT at h
  unfold z_okc
  simp only [Bool.and_eq_true] at h ⊢
  obtain ⟨⟨⟨⟨⟨h1, h2⟩, h3⟩, h4⟩, h5⟩, h6⟩ := h
  exact ⟨⟨⟨⟨⟨hT _ h1, hT _ h2⟩, h3⟩, h4⟩, h5⟩, h6⟩
theorem z_okFT_ok (hT : ∀ w, T w = true → z_T w = true) {own : String} {idx : Nat} {ts : List Nat} (h : z_okFT T own idx ts = true) : z_okF own idx ts = true := by
  unfold z_okFT at h
  unfold z_okF
  split at h
  · dsimp only
    split at h
    · rename_i q hq
      rw [hq]
      simp only [Bool.and_eq_true] at h ⊢
      obtain ⟨⟨⟨⟨h1, h2⟩, h3⟩, h4⟩, h5⟩ := h
      exact ⟨⟨⟨⟨hT _ h1, h2⟩, h3⟩, h4⟩, h5⟩
    · rename_i hq
      rw [hq]
      simp only [Bool.and_eq_true, Bool.or_eq_true] at h ⊢
      exact ⟨h.1, h.2.imp (fun q => ⟨q.1, hT _ q.2⟩) (fun q => ⟨q.1, hT _ q.2⟩)⟩
  · cases h
theorem z_okIT_ok (hT : ∀ w, T w = true → z_T w = true) {own : String} {idx : Nat} {ts : List Nat} {virt : Nat} (h : z_okIT T own idx ts virt = true) : z_okI own idx ts virt = true := by
  unfold z_okIT at h
  split at h
  · rename_i mid n ci
    show z_okI0 own idx mid n ci virt = true
    unfold z_okI0T at h
    unfold z_okI0
    split at h
    · rename_i M hM
      rw [hM]
      simp only [Bool.and_eq_true] at h ⊢
      obtain ⟨⟨⟨⟨⟨⟨h0, h1⟩, h2⟩, h3⟩, h4⟩, h5⟩, h6⟩ := h
      exact ⟨⟨⟨⟨⟨⟨h0, z_okcT_ok hT h1⟩, hT _ h2⟩, hT _ h3⟩, hT _ h4⟩, h5⟩, hT _ h6⟩
    · cases h
  · rename_i mid n
    show z_okI1 own idx mid n virt = true
    unfold z_okI1T at h
    unfold z_okI1
    split at h
    · rename_i M hM
      rw [hM]
      simp only [Bool.and_eq_true] at h ⊢
      obtain ⟨⟨⟨h0, h1⟩, h2⟩, h3⟩ := h
      exact ⟨⟨⟨h0, z_okcT_ok hT h1⟩, hT _ h2⟩, hT _ h3⟩
    · cases h
  · rename_i mid n
    show z_okI2 own idx mid n virt = true
    unfold z_okI2T at h
    unfold z_okI2
    split at h
    · rename_i M hM
      rw [hM]
      simp only [Bool.and_eq_true] at h ⊢
      obtain ⟨⟨⟨⟨⟨h0, h1⟩, h2⟩, h3⟩, h4⟩, h5⟩ := h
      exact ⟨⟨⟨⟨⟨h0, z_okcT_ok hT h1⟩, hT _ h2⟩, hT _ h3⟩, h4⟩, h5⟩
    · cases h
  · rename_i mid n
    show z_okI3 own idx mid n virt = true
    unfold z_okI3T at h
    unfold z_okI3
    split at h
    · rename_i M hM
      rw [hM]
      simp only [Bool.and_eq_true] at h ⊢
      obtain ⟨⟨⟨h0, h1⟩, h2⟩, h3⟩ := h
      exact ⟨⟨⟨h0, z_okcT_ok hT h1⟩, h2⟩, hT _ h3⟩
    · cases h
  · rename_i mid n
    show z_okI4 own idx mid n virt = true
    unfold z_okI4T at h
    unfold z_okI4
    split at h
    · rename_i M hM
      rw [hM]
      simp only [Bool.and_eq_true] at h ⊢
      obtain ⟨⟨⟨⟨⟨h0, h1⟩, h2⟩, h3⟩, h4⟩, h5⟩ := h
      exact ⟨⟨⟨⟨⟨h0, z_okcT_ok hT h1⟩, h2⟩, hT _ h3⟩, h4⟩, h5⟩
    · cases h
  · show z_okI5 own idx virt = true
    unfold z_okI5T at h
    unfold z_okI5
    simp only [Bool.and_eq_true] at h ⊢
    obtain ⟨⟨⟨⟨h0, h1⟩, h2⟩, h3⟩, h4⟩ := h
    exact ⟨⟨⟨⟨h0, hT _ h1⟩, hT _ h2⟩, hT _ h3⟩, hT _ h4⟩
  · show z_okI6 own idx virt = true
    unfold z_okI6T at h
    unfold z_okI6
    simp only [Bool.and_eq_true] at h ⊢
    obtain ⟨⟨⟨h0, h1⟩, h2⟩, h3⟩ := h
    exact ⟨⟨⟨h0, hT _ h1⟩, hT _ h2⟩, hT _ h3⟩
  · show z_okI7 own idx virt = true
    unfold z_okI7T at h
    unfold z_okI7
    simp only [Bool.and_eq_true] at h ⊢
    obtain ⟨⟨⟨⟨h0, h1⟩, h2⟩, h3⟩, h4⟩ := h
    exact ⟨⟨⟨⟨h0, hT _ h1⟩, hT _ h2⟩, hT _ h3⟩, hT _ h4⟩
  · show z_okI8 own idx virt = true
    unfold z_okI8T at h
    unfold z_okI8
    simp only [Bool.and_eq_true] at h ⊢
    obtain ⟨⟨⟨⟨h0, h1⟩, h2⟩, h3⟩, h4⟩ := h
    exact ⟨⟨⟨⟨h0, hT _ h1⟩, hT _ h2⟩, hT _ h3⟩, hT _ h4⟩
  · show z_okI9 own idx virt = true
    unfold z_okI9T at h
    unfold z_okI9
    simp only [Bool.and_eq_true] at h ⊢
    obtain ⟨⟨⟨⟨h0, h1⟩, h2⟩, h3⟩, h4⟩ := h
    exact ⟨⟨⟨⟨h0, hT _ h1⟩, hT _ h2⟩, hT _ h3⟩, hT _ h4⟩
  · show z_okI10 own idx virt = true
    unfold z_okI10T at h
    unfold z_okI10
    simp only [Bool.and_eq_true] at h ⊢
    obtain ⟨⟨⟨⟨h0, h1⟩, h2⟩, h3⟩, h4⟩ := h
    exact ⟨⟨⟨⟨h0, hT _ h1⟩, hT _ h2⟩, hT _ h3⟩, hT _ h4⟩
  · rfl
  · cases h
theorem z_okbT_ok (hT : ∀ w, T w = true → z_T w = true) {M : zM} {pc : Nat} {q : zI} (h : z_okbT T M pc q = true) : z_okb M pc q = true := by
  obtain ⟨ins, len, ts, cv⟩ := q
  unfold z_okbT at h
  unfold z_okb
  rw [Bool.and_eq_true] at h ⊢
  refine ⟨h.1, ?_⟩
  have h := h.2
  cases ins with
  | getfield idx => exact z_okFT_ok hT h
  | putfield idx => exact z_okFT_ok hT h
  | invokevirtual idx => exact z_okIT_ok hT h
  | invokestatic idx => exact z_okIT_ok hT h
  | invokespecial idx => exact z_okIT_ok hT h
  | ldc idx =>
    cases cv with
    | int v => exact hT _ h
    | _ => exact h
  | ldc_w idx =>
    cases cv with
    | int v => exact hT _ h
    | _ => exact h
  | ldc2_w idx =>
    cases cv with
    | long v => exact hT _ h
    | _ => exact h
  | getstatic idx =>
    cases cv with
    | int v =>
      have h : (decide (v = 1) && T (.fieldLink M.1.cls idx "java/lang/String" "COMPACT_STRINGS" "Z")) = true := h
      show (decide (v = 1) && z_T (.fieldLink M.1.cls idx "java/lang/String" "COMPACT_STRINGS" "Z")) = true
      simp only [Bool.and_eq_true] at h ⊢
      exact ⟨h.1, hT _ h.2⟩
    | ref a =>
      have h : ((Nat.beq a 1000 && T (.fieldLink M.1.cls idx "LampHouse$Rules" "FIRST" "[I")) || (Nat.beq a 1001 && T (.fieldLink M.1.cls idx "LampHouse$Things" "ABOVE" "[I")) || (Nat.beq a 1007 && T (.fieldLink M.1.cls idx "jdk/internal/util/Preconditions" "SIOOBE_FORMATTER" "Ljava/util/function/BiFunction;"))) = true := h
      show ((Nat.beq a 1000 && z_T (.fieldLink M.1.cls idx "LampHouse$Rules" "FIRST" "[I")) || (Nat.beq a 1001 && z_T (.fieldLink M.1.cls idx "LampHouse$Things" "ABOVE" "[I")) || (Nat.beq a 1007 && z_T (.fieldLink M.1.cls idx "jdk/internal/util/Preconditions" "SIOOBE_FORMATTER" "Ljava/util/function/BiFunction;"))) = true
      simp only [Bool.and_eq_true, Bool.or_eq_true] at h ⊢
      exact h.imp (fun q => q.imp (fun q => ⟨q.1, hT _ q.2⟩) (fun q => ⟨q.1, hT _ q.2⟩)) (fun q => ⟨q.1, hT _ q.2⟩)
    | _ => exact h
  | new idx =>
    cases ts with
    | nil => exact h
    | cons ci r =>
      have h : (match vwCl[ci]? with
        | some c => T (.classLink M.1.cls idx c.1) && T (.instantiable c.1 c.2.2) && T (.initialized c.1) && Nat.beq c.2.2 (z_nf ci)
        | none => Nat.beq ci 99) = true := h
      show (match vwCl[ci]? with
        | some c => z_T (.classLink M.1.cls idx c.1) && z_T (.instantiable c.1 c.2.2) && z_T (.initialized c.1) && Nat.beq c.2.2 (z_nf ci)
        | none => Nat.beq ci 99) = true
      split at h
      · simp only [Bool.and_eq_true] at h ⊢
        obtain ⟨⟨⟨h1, h2⟩, h3⟩, h4⟩ := h
        exact ⟨⟨⟨hT _ h1, hT _ h2⟩, hT _ h3⟩, h4⟩
      · exact h
  | newarray t => exact hT _ h
  | multianewarray idx dm =>
    have h : (T (.classLink M.1.cls idx "[[I") && T (.arrayClass .int) && Nat.beq dm 2) = true := h
    show (z_T (.classLink M.1.cls idx "[[I") && z_T (.arrayClass .int) && Nat.beq dm 2) = true
    simp only [Bool.and_eq_true] at h ⊢
    obtain ⟨⟨h1, h2⟩, h3⟩ := h
    exact ⟨⟨hT _ h1, hT _ h2⟩, h3⟩
  | _ => exact h
end OKT
/-- a word at one of some places of the tables -/
def z_Tx (ix : List Nat) (w : Cond) : Bool := ix.any (fun i => decide (lw_tbl[i]? = some w)) && goodWord w
theorem z_Tx_ok {ix : List Nat} {w : Cond} (h : z_Tx ix w = true) : z_T w = true := by
  unfold z_Tx at h
  unfold z_T
  simp only [Bool.and_eq_true, List.any_eq_true, decide_eq_true_eq] at h ⊢
  obtain ⟨⟨i, -, hi⟩, hg⟩ := h
  exact ⟨List.mem_of_getElem? hi, hg⟩
def z_ck2 (M : zM) : List (Nat × zI) → List (List Nat) → Bool
  | [], [] => true
  | q :: qs, i :: is => z_okbT (z_Tx i) M q.1 q.2 && z_okl q.2 && z_ck2 M qs is
  | _, _ => false
def z_ck3 (M : zM) : zC → List (List (List Nat)) → Bool
  | [], [] => true
  | c :: cs, i :: is => z_ck2 M c.2 i && z_ck3 M cs is
  | _, _ => false
theorem z_ck2_ok {M : zM} : ∀ {qs : List (Nat × zI)} {is : List (List Nat)}, z_ck2 M qs is = true → qs.all (fun q => z_okb M q.1 q.2 && z_okl q.2) = true
  | [], [], _ => rfl
  | q :: qs, i :: is, h => by
    unfold z_ck2 at h
    simp only [Bool.and_eq_true] at h
    simp only [List.all_cons, Bool.and_eq_true]
    exact ⟨⟨z_okbT_ok (fun w hw => z_Tx_ok hw) h.1.1, h.1.2⟩, z_ck2_ok h.2⟩
  | [], _ :: _, h => by cases h
  | _ :: _, [], h => by cases h
theorem z_ck3_ok {M : zM} : ∀ {cs : zC} {is : List (List (List Nat))}, z_ck3 M cs is = true → cs.all (fun c => c.2.all (fun q => z_okb M q.1 q.2 && z_okl q.2)) = true
  | [], [], _ => rfl
  | c :: cs, i :: is, h => by
    unfold z_ck3 at h
    simp only [Bool.and_eq_true] at h
    simp only [List.all_cons, Bool.and_eq_true]
    exact ⟨z_ck2_ok h.1, z_ck3_ok h.2⟩
  | [], _ :: _, h => by cases h
  | _ :: _, [], h => by cases h
theorem z_okM_of {M : zM} (is : List (List (List Nat))) (h : z_ck3 M M.2.2.2.2.2.2 is = true) (h2 : ((!(M.2.2.2.2.1) || (decide (M.1.cls = z_cn M.2.2.2.2.2.1) && decide (M.1.name = "<init>"))) && plainName M.1.cls) = true) : z_okM M = true := by
  unfold z_okM z_okC
  rw [Bool.and_eq_true] at h2
  rw [Bool.and_eq_true, Bool.and_eq_true]
  exact ⟨⟨z_ck3_ok h, h2.1⟩, h2.2⟩
