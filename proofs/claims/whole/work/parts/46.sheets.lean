-- SHEETS
set_option maxRecDepth 20000 in
/-- java/util/Arrays.fill -/
theorem x_fill40 (E : zE) (d : Nat) (I : Nat → Nat → Int32) (J : Nat → Nat → Int64) (w : Nat) (a : Nat) (v : Int32) (ha : z_A a 40) : z_cl E (d + 1) 282 [.ref a, .int v] (161, I, J, RF w) = some (none, 161, (z_ur I a (z_fil (I a) 0 40 (fun _ => v))), J, RF w) := by
  refine z_call (d := d + 0) (M := z_m282) rfl rfl ?_
  refine z_evG 4 (y := match z_al E 161 (I, J, RF w) a with | some nn => z_go 4 [some (.ref a), some (.int v), some (.int 0), none] [.int (Int32.ofNat nn)] 161 (I, J, RF w) | none => none) (fun _ => rfl) ?_
  rw [z_alA ha]
  refine z_evL ?_
  refine z_evG 1 (y := z_go 5 [some (.ref a), some (.int v), some (.int 0), some (.int (nI 40))] [] 161 (I, J, RF w)) (fun _ => rfl) ?_
  refine z_evL ?_
  have st0 : ∀ m0, m0 = 0 → ∀ q, z_Ev E d z_m282 5 [some (.ref a), some (.int v), some (.int (nI m0)), some (.int (nI 40))] [] 161 ((z_ur I a (z_fil (I a) 0 m0 (fun _ => v))), J, RF w) q → z_Ev E d z_m282 5 [some (.ref a), some (.int v), some (.int 0), some (.int (nI 40))] [] 161 (I, J, RF w) q := by intro m0 hm0 q h; rw [hm0, z_fil_0] at h; subst hm0; exact h
  refine st0 0 rfl _ ?_
  refine z_loop (F := fun k => ([some (.ref a), some (.int v), some (.int (nI k)), some (.int (nI 40))], ((z_ur I a (z_fil (I a) 0 k (fun _ => v))), J, RF w))) (P := fun k => True) 40 trivial (fun hP => ?_) (fun k hk hP next => ?_)
  · show z_Ev E d z_m282 5 [some (.ref a), some (.int v), some (.int (nI 40)), some (.int (nI 40))] [] 161 ((z_ur I a (z_fil (I a) 0 40 (fun _ => v))), J, RF w) _
    refine z_evG 3 (y := if (nI 40) < (nI 40) then z_go 10 [some (.ref a), some (.int v), some (.int (nI 40)), some (.int (nI 40))] [] 161 ((z_ur I a (z_fil (I a) 0 40 (fun _ => v))), J, RF w) else z_go 20 [some (.ref a), some (.int v), some (.int (nI 40)), some (.int (nI 40))] [] 161 ((z_ur I a (z_fil (I a) 0 40 (fun _ => v))), J, RF w)) (fun _ => rfl) ?_
    refine z_evF (mt (show _ ↔ 40 < 40 from z_ltN rfl rfl (by omega) (by omega)).mp (by omega)) ?_
    refine z_evL ?_
    refine z_evG 1 (y := some (.inr (none, 161, (z_ur I a (z_fil (I a) 0 40 (fun _ => v))), J, RF w))) (fun _ => rfl) ?_
    exact z_evR rfl
  · show z_Ev E d z_m282 5 [some (.ref a), some (.int v), some (.int (nI k)), some (.int (nI 40))] [] 161 ((z_ur I a (z_fil (I a) 0 k (fun _ => v))), J, RF w) _
    have nx : (True) → z_Ev E d z_m282 5 [some (.ref a), some (.int v), some (.int (nI (k + 1))), some (.int (nI 40))] [] 161 ((z_ur I a (z_fil (I a) 0 (k + 1) (fun _ => v))), J, RF w) _ := next
    refine z_evG 3 (y := if (nI k) < (nI 40) then z_go 10 [some (.ref a), some (.int v), some (.int (nI k)), some (.int (nI 40))] [] 161 ((z_ur I a (z_fil (I a) 0 k (fun _ => v))), J, RF w) else z_go 20 [some (.ref a), some (.int v), some (.int (nI k)), some (.int (nI 40))] [] 161 ((z_ur I a (z_fil (I a) 0 k (fun _ => v))), J, RF w)) (fun _ => rfl) ?_
    refine z_evT ((show _ ↔ k < 40 from z_ltN rfl rfl (by omega) (by omega)).mpr (by omega)) ?_
    refine z_evL ?_
    refine z_evG 4 (y := z_ck (z_isA 161 ((z_ur I a (z_fil (I a) 0 k (fun _ => v))), J, RF w) a 0 && z_in (nI k) (z_SH a).2) (z_go 14 [some (.ref a), some (.int v), some (.int (nI k)), some (.int (nI 40))] [] 161 ((z_u2 (z_ur I a (z_fil (I a) 0 k (fun _ => v))) a ((nI k).toNatClampNeg) v), J, RF w))) (fun _ => rfl) ?_
    refine z_evC (z_stA ha (z_inN (k := k) rfl (by omega) (by decide))) ?_
    refine z_evL ?_
    rw [show ((nI k : Int32)).toNatClampNeg = k from z_natE rfl (by omega)]
    refine z_evG 2 (y := z_go 5 [some (.ref a), some (.int v), some (.int ((nI k) + 1)), some (.int (nI 40))] [] 161 ((z_u2 (z_ur I a (z_fil (I a) 0 k (fun _ => v))) a k v), J, RF w)) (fun _ => rfl) ?_
    refine z_evL ?_
    have e := z_fil_s I a 0 k (fun _ => v)
    rw [Nat.zero_add] at e
    rw [nI_1 k, e]
    exact nx trivial
set_option maxRecDepth 20000 in
/-- LampHouse$Sheets.isMissing -/
theorem x_sheets_isMissingN (E : zE) (d : Nat) (I : Nat → Nat → Int32) (J : Nat → Nat → Int64) (w : Nat) (i : Nat) (hk : i < 4) : z_cl E (d + 1) 97 [.ref 117, .int (nI i)] (161, I, J, RF w) = some (some (.int (z_bo (I 123 i = (-1)))), 161, I, J, RF w) := by
  refine z_call (d := d + 0) (M := z_m97) rfl rfl ?_
  refine z_evG 4 (y := z_ild (z_ia E 161 (I, J, RF w) 123) (nI i) fun vv => z_go 6 [some (.ref 117), some (.int (nI i))] [.int vv] 161 (I, J, RF w)) (fun _ => rfl) ?_
  refine z_evBn (N := 4) (f := (I 123)) (k := i) rfl rfl (by omega) ?_
  refine z_evL ?_
  refine z_evG 2 (y := if (I 123 i) = (-1) then z_go 10 [some (.ref 117), some (.int (nI i))] [] 161 (I, J, RF w) else z_go 14 [some (.ref 117), some (.int (nI i))] [] 161 (I, J, RF w)) (fun _ => rfl) ?_
  refine z_evI (fun h1 => ?_) (fun h1 => ?_)
  · refine z_evL ?_
    refine z_evG 3 (y := some (.inr (some (.int 1), 161, I, J, RF w))) (fun _ => rfl) ?_
    exact z_evR (by simp [z_bo, h1])
  · refine z_evL ?_
    refine z_evG 2 (y := some (.inr (some (.int 0), 161, I, J, RF w))) (fun _ => rfl) ?_
    exact z_evR (by simp [z_bo, h1])
set_option maxRecDepth 20000 in
/-- LampHouse$Sheets.holds -/
theorem x_sheets_holdsN (E : zE) (d : Nat) (I : Nat → Nat → Int32) (J : Nat → Nat → Int64) (w : Nat) (i : Nat) (f n : Int32) (hk : i < 4) : z_cl E (d + 1) 100 [.ref 117, .int (nI i), .int f, .int n] (161, I, J, RF w) = some (some (.int (z_bo (¬ f < 0 ∧ ¬ n < 0 ∧ ¬ I 124 i < f ∧ ¬ I 124 i - f < n))), 161, I, J, RF w) := by
  refine z_call (d := d + 0) (M := z_m100) rfl rfl ?_
  refine z_evG 2 (y := if f < 0 then z_go 34 [some (.ref 117), some (.int (nI i)), some (.int f), some (.int n)] [] 161 (I, J, RF w) else z_go 4 [some (.ref 117), some (.int (nI i)), some (.int f), some (.int n)] [] 161 (I, J, RF w)) (fun _ => rfl) ?_
  refine z_evI (fun h1 => ?_) (fun h1 => ?_)
  · refine z_evL ?_
    refine z_evG 2 (y := some (.inr (some (.int 0), 161, I, J, RF w))) (fun _ => rfl) ?_
    exact z_evR (by simp [z_bo, h1])
  · refine z_evL ?_
    refine z_evG 2 (y := if n < 0 then z_go 34 [some (.ref 117), some (.int (nI i)), some (.int f), some (.int n)] [] 161 (I, J, RF w) else z_go 8 [some (.ref 117), some (.int (nI i)), some (.int f), some (.int n)] [] 161 (I, J, RF w)) (fun _ => rfl) ?_
    refine z_evI (fun h2 => ?_) (fun h2 => ?_)
    · refine z_evL ?_
      refine z_evG 2 (y := some (.inr (some (.int 0), 161, I, J, RF w))) (fun _ => rfl) ?_
      exact z_evR (by simp [z_bo, h1, h2])
    · refine z_evL ?_
      refine z_evG 5 (y := z_ild (z_ia E 161 (I, J, RF w) 124) (nI i) fun vv => z_go 15 [some (.ref 117), some (.int (nI i)), some (.int f), some (.int n)] [.int vv, .int f] 161 (I, J, RF w)) (fun _ => rfl) ?_
      refine z_evBn (N := 4) (f := (I 124)) (k := i) rfl rfl (by omega) ?_
      refine z_evL ?_
      refine z_evG 1 (y := if (I 124 i) < f then z_go 34 [some (.ref 117), some (.int (nI i)), some (.int f), some (.int n)] [] 161 (I, J, RF w) else z_go 18 [some (.ref 117), some (.int (nI i)), some (.int f), some (.int n)] [] 161 (I, J, RF w)) (fun _ => rfl) ?_
      refine z_evI (fun h3 => ?_) (fun h3 => ?_)
      · refine z_evL ?_
        refine z_evG 2 (y := some (.inr (some (.int 0), 161, I, J, RF w))) (fun _ => rfl) ?_
        exact z_evR (by simp [z_bo, h1, h2, h3])
      · refine z_evL ?_
        refine z_evG 5 (y := z_ild (z_ia E 161 (I, J, RF w) 124) (nI i) fun vv => z_go 25 [some (.ref 117), some (.int (nI i)), some (.int f), some (.int n)] [.int vv, .int n] 161 (I, J, RF w)) (fun _ => rfl) ?_
        refine z_evBn (N := 4) (f := (I 124)) (k := i) rfl rfl (by omega) ?_
        refine z_evL ?_
        refine z_evG 3 (y := if ((I 124 i) - f) < n then z_go 34 [some (.ref 117), some (.int (nI i)), some (.int f), some (.int n)] [] 161 (I, J, RF w) else z_go 30 [some (.ref 117), some (.int (nI i)), some (.int f), some (.int n)] [] 161 (I, J, RF w)) (fun _ => rfl) ?_
        refine z_evI (fun h4 => ?_) (fun h4 => ?_)
        · refine z_evL ?_
          refine z_evG 2 (y := some (.inr (some (.int 0), 161, I, J, RF w))) (fun _ => rfl) ?_
          exact z_evR (by simp [z_bo, h1, h2, h3, h4])
        · refine z_evL ?_
          refine z_evG 3 (y := some (.inr (some (.int 1), 161, I, J, RF w))) (fun _ => rfl) ?_
          exact z_evR (by simp [z_bo, h1, h2, h3, h4])
set_option maxRecDepth 20000 in
/-- LampHouse$Sheets.put -/
theorem x_put_0 (E : zE) (d : Nat) (I : Nat → Nat → Int32) (J : Nat → Nat → Int64) (w : Nat) (s i : Nat) (v : Int32) (hs : s < 4) (hi : i < 40) (hK : I 123 s = 0) : z_cl E (d + 1) 103 [.ref 117, .int (nI s), .int (nI i), .int v] (161, I, J, RF w) = some (some (.int 1), 161, (z_u2 I (119 + s) i v.toInt8.toInt32), J, RF w) := by
  refine z_call (d := d + 0) (M := z_m103) rfl rfl ?_
  refine z_evG 4 (y := z_ck (z_in (nI s) 4) (z_go 6 [some (.ref 117), some (.int (nI s)), some (.int (nI i)), some (.int v)] [.ref (119 + (nI s).toNatClampNeg)] 161 (I, J, RF w))) (fun _ => rfl) ?_
  refine z_evC (z_inN (k := s) rfl (by omega) (by decide)) ?_
  refine z_evL ?_
  rw [show ((nI s : Int32)).toNatClampNeg = s from z_natE rfl (by omega)]
  refine z_evG 5 (y := z_ild (z_ia E 161 (I, J, RF w) 123) (nI s) fun vv => z_go 13 [some (.ref 117), some (.int (nI s)), some (.int (nI i)), some (.int v)] [.int vv, .int (nI i), .ref (119 + s)] 161 (I, J, RF w)) (fun _ => rfl) ?_
  refine z_evBn (N := 4) (f := (I 123)) (k := s) rfl rfl (by omega) ?_
  refine z_evL ?_
  rw [show I 123 s = 0 from hK]
  refine z_evG 1 (y := if 0 = 0 then z_go 16 [some (.ref 117), some (.int (nI s)), some (.int (nI i)), some (.int v)] [.int (nI i), .ref (119 + s)] 161 (I, J, RF w) else z_go 21 [some (.ref 117), some (.int (nI s)), some (.int (nI i)), some (.int v)] [.int (nI i), .ref (119 + s)] 161 (I, J, RF w)) (fun _ => rfl) ?_
  refine z_evI (fun _ => ?_) (fun q => absurd (by decide) q)
  refine z_evL ?_
  refine z_evG 4 (y := z_ck (z_isA 161 (I, J, RF w) (119 + s) 0 && z_in (nI i) (z_SH (119 + s)).2) (z_go 38 [some (.ref 117), some (.int (nI s)), some (.int (nI i)), some (.int v)] [] 161 ((z_u2 I (119 + s) ((nI i).toNatClampNeg) v.toInt8.toInt32), J, RF w))) (fun _ => rfl) ?_
  refine z_evC (z_stA (z_A_sheets s (by omega)) (z_inN (k := i) rfl (by omega) (by decide))) ?_
  refine z_evL ?_
  rw [show ((nI i : Int32)).toNatClampNeg = i from z_natE rfl (by omega)]
  refine z_evG 2 (y := some (.inr (some (.int 1), 161, (z_u2 I (119 + s) i v.toInt8.toInt32), J, RF w))) (fun _ => rfl) ?_
  exact z_evR rfl
set_option maxRecDepth 20000 in
/-- LampHouse$Sheets.put -/
theorem x_put_1 (E : zE) (d : Nat) (I : Nat → Nat → Int32) (J : Nat → Nat → Int64) (w : Nat) (s i : Nat) (v : Int32) (hs : s < 4) (hi : i < 40) (hK : I 123 s = 1) : z_cl E (d + 1) 103 [.ref 117, .int (nI s), .int (nI i), .int v] (161, I, J, RF w) = some (some (.int 1), 161, (z_u2 I (119 + s) i v.toInt16.toInt32), J, RF w) := by
  refine z_call (d := d + 0) (M := z_m103) rfl rfl ?_
  refine z_evG 4 (y := z_ck (z_in (nI s) 4) (z_go 6 [some (.ref 117), some (.int (nI s)), some (.int (nI i)), some (.int v)] [.ref (119 + (nI s).toNatClampNeg)] 161 (I, J, RF w))) (fun _ => rfl) ?_
  refine z_evC (z_inN (k := s) rfl (by omega) (by decide)) ?_
  refine z_evL ?_
  rw [show ((nI s : Int32)).toNatClampNeg = s from z_natE rfl (by omega)]
  refine z_evG 5 (y := z_ild (z_ia E 161 (I, J, RF w) 123) (nI s) fun vv => z_go 13 [some (.ref 117), some (.int (nI s)), some (.int (nI i)), some (.int v)] [.int vv, .int (nI i), .ref (119 + s)] 161 (I, J, RF w)) (fun _ => rfl) ?_
  refine z_evBn (N := 4) (f := (I 123)) (k := s) rfl rfl (by omega) ?_
  refine z_evL ?_
  rw [show I 123 s = 1 from hK]
  refine z_evG 1 (y := if 1 = 0 then z_go 16 [some (.ref 117), some (.int (nI s)), some (.int (nI i)), some (.int v)] [.int (nI i), .ref (119 + s)] 161 (I, J, RF w) else z_go 21 [some (.ref 117), some (.int (nI s)), some (.int (nI i)), some (.int v)] [.int (nI i), .ref (119 + s)] 161 (I, J, RF w)) (fun _ => rfl) ?_
  refine z_evI (fun q => absurd q (by decide)) (fun _ => ?_)
  refine z_evL ?_
  refine z_evG 4 (y := z_ild (z_ia E 161 (I, J, RF w) 123) (nI s) fun vv => z_go 27 [some (.ref 117), some (.int (nI s)), some (.int (nI i)), some (.int v)] [.int vv, .int (nI i), .ref (119 + s)] 161 (I, J, RF w)) (fun _ => rfl) ?_
  refine z_evBn (N := 4) (f := (I 123)) (k := s) rfl rfl (by omega) ?_
  refine z_evL ?_
  rw [show I 123 s = 1 from hK]
  refine z_evG 2 (y := if 1 = 1 then z_go 31 [some (.ref 117), some (.int (nI s)), some (.int (nI i)), some (.int v)] [.int (nI i), .ref (119 + s)] 161 (I, J, RF w) else z_go 36 [some (.ref 117), some (.int (nI s)), some (.int (nI i)), some (.int v)] [.int (nI i), .ref (119 + s)] 161 (I, J, RF w)) (fun _ => rfl) ?_
  refine z_evI (fun _ => ?_) (fun q => absurd (by decide) q)
  refine z_evL ?_
  refine z_evG 4 (y := z_ck (z_isA 161 (I, J, RF w) (119 + s) 0 && z_in (nI i) (z_SH (119 + s)).2) (z_go 38 [some (.ref 117), some (.int (nI s)), some (.int (nI i)), some (.int v)] [] 161 ((z_u2 I (119 + s) ((nI i).toNatClampNeg) v.toInt16.toInt32), J, RF w))) (fun _ => rfl) ?_
  refine z_evC (z_stA (z_A_sheets s (by omega)) (z_inN (k := i) rfl (by omega) (by decide))) ?_
  refine z_evL ?_
  rw [show ((nI i : Int32)).toNatClampNeg = i from z_natE rfl (by omega)]
  refine z_evG 2 (y := some (.inr (some (.int 1), 161, (z_u2 I (119 + s) i v.toInt16.toInt32), J, RF w))) (fun _ => rfl) ?_
  exact z_evR rfl
set_option maxRecDepth 20000 in
/-- LampHouse$Sheets.put -/
theorem x_put_2 (E : zE) (d : Nat) (I : Nat → Nat → Int32) (J : Nat → Nat → Int64) (w : Nat) (s i : Nat) (v : Int32) (hs : s < 4) (hi : i < 40) (hK : I 123 s = 2) : z_cl E (d + 1) 103 [.ref 117, .int (nI s), .int (nI i), .int v] (161, I, J, RF w) = some (some (.int 1), 161, (z_u2 I (119 + s) i v), J, RF w) := by
  refine z_call (d := d + 0) (M := z_m103) rfl rfl ?_
  refine z_evG 4 (y := z_ck (z_in (nI s) 4) (z_go 6 [some (.ref 117), some (.int (nI s)), some (.int (nI i)), some (.int v)] [.ref (119 + (nI s).toNatClampNeg)] 161 (I, J, RF w))) (fun _ => rfl) ?_
  refine z_evC (z_inN (k := s) rfl (by omega) (by decide)) ?_
  refine z_evL ?_
  rw [show ((nI s : Int32)).toNatClampNeg = s from z_natE rfl (by omega)]
  refine z_evG 5 (y := z_ild (z_ia E 161 (I, J, RF w) 123) (nI s) fun vv => z_go 13 [some (.ref 117), some (.int (nI s)), some (.int (nI i)), some (.int v)] [.int vv, .int (nI i), .ref (119 + s)] 161 (I, J, RF w)) (fun _ => rfl) ?_
  refine z_evBn (N := 4) (f := (I 123)) (k := s) rfl rfl (by omega) ?_
  refine z_evL ?_
  rw [show I 123 s = 2 from hK]
  refine z_evG 1 (y := if 2 = 0 then z_go 16 [some (.ref 117), some (.int (nI s)), some (.int (nI i)), some (.int v)] [.int (nI i), .ref (119 + s)] 161 (I, J, RF w) else z_go 21 [some (.ref 117), some (.int (nI s)), some (.int (nI i)), some (.int v)] [.int (nI i), .ref (119 + s)] 161 (I, J, RF w)) (fun _ => rfl) ?_
  refine z_evI (fun q => absurd q (by decide)) (fun _ => ?_)
  refine z_evL ?_
  refine z_evG 4 (y := z_ild (z_ia E 161 (I, J, RF w) 123) (nI s) fun vv => z_go 27 [some (.ref 117), some (.int (nI s)), some (.int (nI i)), some (.int v)] [.int vv, .int (nI i), .ref (119 + s)] 161 (I, J, RF w)) (fun _ => rfl) ?_
  refine z_evBn (N := 4) (f := (I 123)) (k := s) rfl rfl (by omega) ?_
  refine z_evL ?_
  rw [show I 123 s = 2 from hK]
  refine z_evG 2 (y := if 2 = 1 then z_go 31 [some (.ref 117), some (.int (nI s)), some (.int (nI i)), some (.int v)] [.int (nI i), .ref (119 + s)] 161 (I, J, RF w) else z_go 36 [some (.ref 117), some (.int (nI s)), some (.int (nI i)), some (.int v)] [.int (nI i), .ref (119 + s)] 161 (I, J, RF w)) (fun _ => rfl) ?_
  refine z_evI (fun q => absurd q (by decide)) (fun _ => ?_)
  refine z_evL ?_
  refine z_evG 2 (y := z_ck (z_isA 161 (I, J, RF w) (119 + s) 0 && z_in (nI i) (z_SH (119 + s)).2) (z_go 38 [some (.ref 117), some (.int (nI s)), some (.int (nI i)), some (.int v)] [] 161 ((z_u2 I (119 + s) ((nI i).toNatClampNeg) v), J, RF w))) (fun _ => rfl) ?_
  refine z_evC (z_stA (z_A_sheets s (by omega)) (z_inN (k := i) rfl (by omega) (by decide))) ?_
  refine z_evL ?_
  rw [show ((nI i : Int32)).toNatClampNeg = i from z_natE rfl (by omega)]
  refine z_evG 2 (y := some (.inr (some (.int 1), 161, (z_u2 I (119 + s) i v), J, RF w))) (fun _ => rfl) ?_
  exact z_evR rfl
set_option maxRecDepth 20000 in
/-- LampHouse$Sheets.make -/
theorem x_make (E : zE) (d : Nat) (I : Nat → Nat → Int32) (J : Nat → Nat → Int64) (w : Nat) (s : Nat) (o n : Int32) (hs : s < 4) : z_cl E (d + 2) 102 [.ref 117, .int (nI s), .int o, .int n] (161, I, J, RF w) = some (some (.int 1), 161, (z_u2 (z_u2 (z_ur I (119 + s) (z_fil (I (119 + s)) 0 40 (fun _ => 0))) 123 s o) 124 s n), J, RF w) := by
  refine z_call (d := d + 1) (M := z_m102) rfl rfl ?_
  refine z_evG 4 (y := z_ck (z_in (nI s) 4) (z_go 6 [some (.ref 117), some (.int (nI s)), some (.int o), some (.int n)] [.ref (119 + (nI s).toNatClampNeg)] 161 (I, J, RF w))) (fun _ => rfl) ?_
  refine z_evC (z_inN (k := s) rfl (by omega) (by decide)) ?_
  refine z_evL ?_
  rw [show ((nI s : Int32)).toNatClampNeg = s from z_natE rfl (by omega)]
  refine z_evG 2 (y := z_ret (z_cl E (d + 1) 282 [.ref (119 + s), .int 0] (161, (I, J, RF w))) 10 [some (.ref 117), some (.int (nI s)), some (.int o), some (.int n)] []) (fun _ => rfl) ?_
  refine z_evV (z' := 161) (σ' := ((z_ur I (119 + s) (z_fil (I (119 + s)) 0 40 (fun _ => 0))), J, RF w)) (x_fill40 E d I J w (119 + s) 0 (z_A_sheets s (by omega))) ?_
  refine z_evG 5 (y := z_ck (z_in (nI s) 4) (z_go 17 [some (.ref 117), some (.int (nI s)), some (.int o), some (.int n)] [] 161 ((z_u2 (z_ur I (119 + s) (z_fil (I (119 + s)) 0 40 (fun _ => 0))) 123 ((nI s).toNatClampNeg) o), J, RF w))) (fun _ => rfl) ?_
  refine z_evC (z_inN (k := s) rfl (by omega) (by decide)) ?_
  refine z_evL ?_
  rw [show ((nI s : Int32)).toNatClampNeg = s from z_natE rfl (by omega)]
  refine z_evG 5 (y := z_ck (z_in (nI s) 4) (z_go 24 [some (.ref 117), some (.int (nI s)), some (.int o), some (.int n)] [] 161 ((z_u2 (z_u2 (z_ur I (119 + s) (z_fil (I (119 + s)) 0 40 (fun _ => 0))) 123 s o) 124 ((nI s).toNatClampNeg) n), J, RF w))) (fun _ => rfl) ?_
  refine z_evC (z_inN (k := s) rfl (by omega) (by decide)) ?_
  refine z_evL ?_
  rw [show ((nI s : Int32)).toNatClampNeg = s from z_natE rfl (by omega)]
  refine z_evG 2 (y := some (.inr (some (.int 1), 161, (z_u2 (z_u2 (z_ur I (119 + s) (z_fil (I (119 + s)) 0 40 (fun _ => 0))) 123 s o) 124 s n), J, RF w))) (fun _ => rfl) ?_
  exact z_evR rfl
set_option maxRecDepth 20000 in
/-- LampHouse.cell -/
theorem x_cell_badA (E : zE) (d : Nat) (I : Nat → Nat → Int32) (J : Nat → Nat → Int64) (w : Nat) (k i v : Int32) (hbad : ¬ (¬ k < 0 ∧ k < 4)) : z_cl E (d + 2) 162 [.ref 0, .int k, .int i, .int v] (161, I, J, RF w) = some (some (.int (-2)), 161, I, J, RF w) := by
  refine z_call (d := d + 1) (M := z_m162) rfl rfl ?_
  refine z_evG 2 (y := z_ret (z_cl E (d + 1) 95 [.int k] (161, (I, J, RF w))) 4 [some (.ref 0), some (.int k), some (.int i), some (.int v)] []) (fun _ => rfl) ?_
  refine z_evK (v := .int (z_bo (¬ k < 0 ∧ k < 4))) (z' := 161) (σ' := (I, J, RF w)) (x_isPlace E d I J w k) ?_
  refine z_evG 1 (y := if (z_bo (¬ k < 0 ∧ k < 4)) = 0 then z_go 7 [some (.ref 0), some (.int k), some (.int i), some (.int v)] [] 161 (I, J, RF w) else z_go 10 [some (.ref 0), some (.int k), some (.int i), some (.int v)] [] 161 (I, J, RF w)) (fun _ => rfl) ?_
  refine z_evO (fun h1 => ?_) (fun h1 => ?_)
  · refine z_evL ?_
    refine z_evG 2 (y := some (.inr (some (.int (-2)), 161, I, J, RF w))) (fun _ => rfl) ?_
    exact z_evR rfl
  · refine z_evL ?_
    exact absurd h1 hbad
set_option maxRecDepth 20000 in
/-- LampHouseModel.cell -/
theorem m_cell_badA (E : zE) (d : Nat) (I : Nat → Nat → Int32) (J : Nat → Nat → Int64) (w : Nat) (k i v : Int32) (hbad : ¬ (¬ k < 0 ∧ ¬ 3 < k)) : z_cl E (d + 3) 249 [.ref 127, .int k, .int i, .int v] (161, I, J, RF w) = some (some (.int (-2)), 161, I, J, RF w) := by
  refine z_call (d := d + 2) (M := z_m249) rfl rfl ?_
  refine z_evG 2 (y := z_ret (z_cl E (d + 2) 247 [.int k] (161, (I, J, RF w))) 4 [some (.ref 127), some (.int k), some (.int i), some (.int v)] []) (fun _ => rfl) ?_
  refine z_evK (v := .int (z_bo (¬ k < 0 ∧ ¬ 3 < k))) (z' := 161) (σ' := (I, J, RF w)) (m_isSheet E d I J w k) ?_
  refine z_evG 1 (y := if (z_bo (¬ k < 0 ∧ ¬ 3 < k)) = 0 then z_go 7 [some (.ref 127), some (.int k), some (.int i), some (.int v)] [] 161 (I, J, RF w) else z_go 10 [some (.ref 127), some (.int k), some (.int i), some (.int v)] [] 161 (I, J, RF w)) (fun _ => rfl) ?_
  refine z_evO (fun h1 => ?_) (fun h1 => ?_)
  · refine z_evL ?_
    refine z_evG 2 (y := some (.inr (some (.int (-2)), 161, I, J, RF w))) (fun _ => rfl) ?_
    exact z_evR rfl
  · refine z_evL ?_
    exact absurd h1 hbad
