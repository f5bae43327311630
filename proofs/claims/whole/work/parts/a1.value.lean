-- VALUE by the class
theorem z_decE {x : Int32} {n : Nat} (hx : x = nI (n + 1)) : x + (-1) = nI n := by rw [hx, ← nI_1]; grind
set_option maxRecDepth 20000 in
/-- LampHouse$Rules.truth -/
theorem x_truth0 (E : zE) (d : Nat) (I : Nat → Nat → Int32) (J : Nat → Nat → Int64) (w : Nat) : z_cl E (d + 1) 93 [.int 0] (161, I, J, RF w) = some (some (.int 0), 161, I, J, RF w) := by
  refine z_call (d := d + 0) (M := z_m93) rfl rfl ?_
  refine z_evG 2 (y := if 0 = 0 then z_go 8 [some (.int 0)] [] 161 (I, J, RF w) else z_go 4 [some (.int 0)] [] 161 (I, J, RF w)) (fun _ => rfl) ?_
  refine z_evI (fun _ => ?_) (fun q => absurd (by decide) q)
  refine z_evL ?_
  refine z_evG 2 (y := some (.inr (some (.int 0), 161, I, J, RF w))) (fun _ => rfl) ?_
  exact z_evR rfl
set_option maxRecDepth 20000 in
/-- LampHouse$Rules.truth -/
theorem x_truth1 (E : zE) (d : Nat) (I : Nat → Nat → Int32) (J : Nat → Nat → Int64) (w : Nat) : z_cl E (d + 1) 93 [.int 1] (161, I, J, RF w) = some (some (.int 1), 161, I, J, RF w) := by
  refine z_call (d := d + 0) (M := z_m93) rfl rfl ?_
  refine z_evG 2 (y := if 1 = 0 then z_go 8 [some (.int 1)] [] 161 (I, J, RF w) else z_go 4 [some (.int 1)] [] 161 (I, J, RF w)) (fun _ => rfl) ?_
  refine z_evI (fun q => absurd q (by decide)) (fun _ => ?_)
  refine z_evL ?_
  refine z_evG 3 (y := some (.inr (some (.int 1), 161, I, J, RF w))) (fun _ => rfl) ?_
  exact z_evR rfl
set_option maxRecDepth 20000 in
/-- LampHouse$Rules.joined -/
theorem x_joined_5 (E : zE) (d : Nat) (I : Nat → Nat → Int32) (J : Nat → Nat → Int64) (w : Nat) (x y : Int32) : z_cl E (d + 2) 92 [.int 5, .int x, .int y] (161, I, J, RF w) = some (some (.int (if ¬ x = 0 ∨ ¬ y = 0 then 1 else 0)), 161, I, J, RF w) := by
  refine z_call (d := d + 1) (M := z_m92) rfl rfl ?_
  refine z_evG 4 (y := if x = 0 then z_go 64 [some (.int 5), some (.int x), some (.int y)] [] 161 (I, J, RF w) else z_go 68 [some (.int 5), some (.int x), some (.int y)] [] 161 (I, J, RF w)) (fun _ => rfl) ?_
  refine z_evI (fun h1 => ?_) (fun h1 => ?_)
  · refine z_evL ?_
    refine z_evG 2 (y := if y = 0 then z_go 72 [some (.int 5), some (.int x), some (.int y)] [] 161 (I, J, RF w) else z_go 68 [some (.int 5), some (.int x), some (.int y)] [] 161 (I, J, RF w)) (fun _ => rfl) ?_
    refine z_evI (fun h2 => ?_) (fun h2 => ?_)
    · refine z_evL ?_
      refine z_evG 2 (y := z_ret (z_cl E (d + 1) 93 [.int 0] (161, (I, J, RF w))) 76 [some (.int 5), some (.int x), some (.int y)] []) (fun _ => rfl) ?_
      refine z_evK (v := .int 0) (z' := 161) (σ' := (I, J, RF w)) (x_truth0 E d I J w) ?_
      refine z_evG 1 (y := some (.inr (some (.int 0), 161, I, J, RF w))) (fun _ => rfl) ?_
      exact z_evR (by rw [if_neg (fun q => q.elim (fun r => r h1) (fun r => r h2))])
    · refine z_evL ?_
      refine z_evG 3 (y := z_ret (z_cl E (d + 1) 93 [.int 1] (161, (I, J, RF w))) 76 [some (.int 5), some (.int x), some (.int y)] []) (fun _ => rfl) ?_
      refine z_evK (v := .int 1) (z' := 161) (σ' := (I, J, RF w)) (x_truth1 E d I J w) ?_
      refine z_evG 1 (y := some (.inr (some (.int 1), 161, I, J, RF w))) (fun _ => rfl) ?_
      exact z_evR (by rw [if_pos (.inr h2)])
  · refine z_evL ?_
    refine z_evG 3 (y := z_ret (z_cl E (d + 1) 93 [.int 1] (161, (I, J, RF w))) 76 [some (.int 5), some (.int x), some (.int y)] []) (fun _ => rfl) ?_
    refine z_evK (v := .int 1) (z' := 161) (σ' := (I, J, RF w)) (x_truth1 E d I J w) ?_
    refine z_evG 1 (y := some (.inr (some (.int 1), 161, I, J, RF w))) (fun _ => rfl) ?_
    exact z_evR (by rw [if_pos (.inl h1)])
set_option maxRecDepth 20000 in
/-- LampHouse$Rules.joined -/
theorem x_joined_6 (E : zE) (d : Nat) (I : Nat → Nat → Int32) (J : Nat → Nat → Int64) (w : Nat) (x y : Int32) : z_cl E (d + 2) 92 [.int 6, .int x, .int y] (161, I, J, RF w) = some (some (.int (if ¬ x = 0 ∧ ¬ y = 0 then 1 else 0)), 161, I, J, RF w) := by
  refine z_call (d := d + 1) (M := z_m92) rfl rfl ?_
  refine z_evG 4 (y := if x = 0 then z_go 89 [some (.int 6), some (.int x), some (.int y)] [] 161 (I, J, RF w) else z_go 81 [some (.int 6), some (.int x), some (.int y)] [] 161 (I, J, RF w)) (fun _ => rfl) ?_
  refine z_evI (fun h1 => ?_) (fun h1 => ?_)
  · refine z_evL ?_
    refine z_evG 2 (y := z_ret (z_cl E (d + 1) 93 [.int 0] (161, (I, J, RF w))) 93 [some (.int 6), some (.int x), some (.int y)] []) (fun _ => rfl) ?_
    refine z_evK (v := .int 0) (z' := 161) (σ' := (I, J, RF w)) (x_truth0 E d I J w) ?_
    refine z_evG 1 (y := some (.inr (some (.int 0), 161, I, J, RF w))) (fun _ => rfl) ?_
    exact z_evR (by rw [if_neg (fun q => q.1 h1)])
  · refine z_evL ?_
    refine z_evG 2 (y := if y = 0 then z_go 89 [some (.int 6), some (.int x), some (.int y)] [] 161 (I, J, RF w) else z_go 85 [some (.int 6), some (.int x), some (.int y)] [] 161 (I, J, RF w)) (fun _ => rfl) ?_
    refine z_evI (fun h2 => ?_) (fun h2 => ?_)
    · refine z_evL ?_
      refine z_evG 2 (y := z_ret (z_cl E (d + 1) 93 [.int 0] (161, (I, J, RF w))) 93 [some (.int 6), some (.int x), some (.int y)] []) (fun _ => rfl) ?_
      refine z_evK (v := .int 0) (z' := 161) (σ' := (I, J, RF w)) (x_truth0 E d I J w) ?_
      refine z_evG 1 (y := some (.inr (some (.int 0), 161, I, J, RF w))) (fun _ => rfl) ?_
      exact z_evR (by rw [if_neg (fun q => q.2 h2)])
    · refine z_evL ?_
      refine z_evG 3 (y := z_ret (z_cl E (d + 1) 93 [.int 1] (161, (I, J, RF w))) 93 [some (.int 6), some (.int x), some (.int y)] []) (fun _ => rfl) ?_
      refine z_evK (v := .int 1) (z' := 161) (σ' := (I, J, RF w)) (x_truth1 E d I J w) ?_
      refine z_evG 1 (y := some (.inr (some (.int 1), 161, I, J, RF w))) (fun _ => rfl) ?_
      exact z_evR (by rw [if_pos ⟨h1, h2⟩])
set_option maxRecDepth 20000 in
/-- LampHouse$Rules.joined -/
theorem x_joined_60 (E : zE) (d : Nat) (I : Nat → Nat → Int32) (J : Nat → Nat → Int64) (w : Nat) (x y : Int32) : z_cl E (d + 2) 92 [.int 60, .int x, .int y] (161, I, J, RF w) = some (some (.int (if x < y then 1 else 0)), 161, I, J, RF w) := by
  refine z_call (d := d + 1) (M := z_m92) rfl rfl ?_
  refine z_evG 5 (y := if x < y then z_go 99 [some (.int 60), some (.int x), some (.int y)] [] 161 (I, J, RF w) else z_go 103 [some (.int 60), some (.int x), some (.int y)] [] 161 (I, J, RF w)) (fun _ => rfl) ?_
  refine z_evI (fun h1 => ?_) (fun h1 => ?_)
  · refine z_evL ?_
    refine z_evG 3 (y := z_ret (z_cl E (d + 1) 93 [.int 1] (161, (I, J, RF w))) 107 [some (.int 60), some (.int x), some (.int y)] []) (fun _ => rfl) ?_
    refine z_evK (v := .int 1) (z' := 161) (σ' := (I, J, RF w)) (x_truth1 E d I J w) ?_
    refine z_evG 1 (y := some (.inr (some (.int 1), 161, I, J, RF w))) (fun _ => rfl) ?_
    exact z_evR (by rw [if_pos h1])
  · refine z_evL ?_
    refine z_evG 2 (y := z_ret (z_cl E (d + 1) 93 [.int 0] (161, (I, J, RF w))) 107 [some (.int 60), some (.int x), some (.int y)] []) (fun _ => rfl) ?_
    refine z_evK (v := .int 0) (z' := 161) (σ' := (I, J, RF w)) (x_truth0 E d I J w) ?_
    refine z_evG 1 (y := some (.inr (some (.int 0), 161, I, J, RF w))) (fun _ => rfl) ?_
    exact z_evR (by rw [if_neg h1])
set_option maxRecDepth 20000 in
/-- LampHouse$Rules.joined -/
theorem x_joined_61 (E : zE) (d : Nat) (I : Nat → Nat → Int32) (J : Nat → Nat → Int64) (w : Nat) (x y : Int32) : z_cl E (d + 2) 92 [.int 61, .int x, .int y] (161, I, J, RF w) = some (some (.int (if x = y then 1 else 0)), 161, I, J, RF w) := by
  refine z_call (d := d + 1) (M := z_m92) rfl rfl ?_
  refine z_evG 5 (y := if x = y then z_go 113 [some (.int 61), some (.int x), some (.int y)] [] 161 (I, J, RF w) else z_go 117 [some (.int 61), some (.int x), some (.int y)] [] 161 (I, J, RF w)) (fun _ => rfl) ?_
  refine z_evI (fun h1 => ?_) (fun h1 => ?_)
  · refine z_evL ?_
    refine z_evG 3 (y := z_ret (z_cl E (d + 1) 93 [.int 1] (161, (I, J, RF w))) 121 [some (.int 61), some (.int x), some (.int y)] []) (fun _ => rfl) ?_
    refine z_evK (v := .int 1) (z' := 161) (σ' := (I, J, RF w)) (x_truth1 E d I J w) ?_
    refine z_evG 1 (y := some (.inr (some (.int 1), 161, I, J, RF w))) (fun _ => rfl) ?_
    exact z_evR (by rw [if_pos h1])
  · refine z_evL ?_
    refine z_evG 2 (y := z_ret (z_cl E (d + 1) 93 [.int 0] (161, (I, J, RF w))) 121 [some (.int 61), some (.int x), some (.int y)] []) (fun _ => rfl) ?_
    refine z_evK (v := .int 0) (z' := 161) (σ' := (I, J, RF w)) (x_truth0 E d I J w) ?_
    refine z_evG 1 (y := some (.inr (some (.int 0), 161, I, J, RF w))) (fun _ => rfl) ?_
    exact z_evR (by rw [if_neg h1])
set_option maxRecDepth 20000 in
/-- LampHouse$Rules.joined -/
theorem x_joined_43 (E : zE) (d : Nat) (I : Nat → Nat → Int32) (J : Nat → Nat → Int64) (w : Nat) (x y : Int32) : z_cl E (d + 2) 92 [.int 43, .int x, .int y] (161, I, J, RF w) = some (some (.int (x + y)), 161, I, J, RF w) := by
  refine z_call (d := d + 1) (M := z_m92) rfl rfl ?_
  refine z_evG 6 (y := some (.inr (some (.int (x + y)), 161, I, J, RF w))) (fun _ => rfl) ?_
  exact z_evR rfl
set_option maxRecDepth 20000 in
/-- LampHouse$Rules.joined -/
theorem x_joined_45 (E : zE) (d : Nat) (I : Nat → Nat → Int32) (J : Nat → Nat → Int64) (w : Nat) (x y : Int32) : z_cl E (d + 2) 92 [.int 45, .int x, .int y] (161, I, J, RF w) = some (some (.int (x - y)), 161, I, J, RF w) := by
  refine z_call (d := d + 1) (M := z_m92) rfl rfl ?_
  refine z_evG 6 (y := some (.inr (some (.int (x - y)), 161, I, J, RF w))) (fun _ => rfl) ?_
  exact z_evR rfl
set_option maxRecDepth 20000 in
/-- LampHouse$Rules.joined -/
theorem x_joined_d (E : zE) (d : Nat) (I : Nat → Nat → Int32) (J : Nat → Nat → Int64) (w : Nat) (k x y : Int32) (h_5 : ¬ (5 : Int) = k.toInt) (h_6 : ¬ (6 : Int) = k.toInt) (h_43 : ¬ (43 : Int) = k.toInt) (h_45 : ¬ (45 : Int) = k.toInt) (h_60 : ¬ (60 : Int) = k.toInt) (h_61 : ¬ (61 : Int) = k.toInt) : z_cl E (d + 2) 92 [.int k, .int x, .int y] (161, I, J, RF w) = some (some (.int (x * y)), 161, I, J, RF w) := by
  refine z_call (d := d + 1) (M := z_m92) rfl rfl ?_
  refine z_evG 2 (y := z_go (z_psw [(5, 59), (6, 76), (43, 121), (45, 125), (60, 93), (61, 107)] [60, 77, 122, 126, 94, 108] 130 k.toInt) [some (.int k), some (.int x), some (.int y)] [] 161 (I, J, RF w)) (fun _ => rfl) ?_
  rw [show z_psw [(5, 59), (6, 76), (43, 121), (45, 125), (60, 93), (61, 107)] [60, 77, 122, 126, 94, 108] 130 k.toInt = 130 from ((if_neg h_5).trans ((if_neg h_6).trans ((if_neg h_43).trans ((if_neg h_45).trans ((if_neg h_60).trans (if_neg h_61))))))]
  refine z_evL ?_
  refine z_evG 4 (y := some (.inr (some (.int (x * y)), 161, I, J, RF w))) (fun _ => rfl) ?_
  exact z_evR rfl
theorem z_toI {k : Int32} {c : Int32} (h : ¬ k = c) : ¬ c.toInt = k.toInt := fun q => h (Int32.toInt_inj.mp q.symm)
theorem x_joined (E : zE) (d : Nat) (I : Nat → Nat → Int32) (J : Nat → Nat → Int64) (w : Nat) (k x y : Int32) : z_cl E (d + 2) 92 [.int k, .int x, .int y] (161, I, J, RF w) = some (some (.int (s_jc k x y)), 161, I, J, RF w) := by
  unfold s_jc
  by_cases h5 : k = 5
  · subst h5; exact x_joined_5 E d I J w x y
  · rw [if_neg h5]
    by_cases h6 : k = 6
    · subst h6; exact x_joined_6 E d I J w x y
    · rw [if_neg h6]
      by_cases h60 : k = 60
      · subst h60; exact x_joined_60 E d I J w x y
      · rw [if_neg h60]
        by_cases h61 : k = 61
        · subst h61; exact x_joined_61 E d I J w x y
        · rw [if_neg h61]
          by_cases h43 : k = 43
          · subst h43; exact x_joined_43 E d I J w x y
          · rw [if_neg h43]
            by_cases h45 : k = 45
            · subst h45; exact x_joined_45 E d I J w x y
            · rw [if_neg h45]
              exact x_joined_d E d I J w k x y (z_toI h5) (z_toI h6) (z_toI h43) (z_toI h45) (z_toI h60) (z_toI h61)
set_option maxRecDepth 20000 in
theorem x_va_num (E : zE) (d : Nat) (I : Nat → Nat → Int32) (J : Nat → Nat → Int64) (w : Nat) {r : zR} (a e k i : Nat) (f o : Int32) (x6 : Option Value) (ha : z_A a 160) (hie : i < e) (he : e ≤ 160) (ho : I a i = o) (hk : k < 160) (h0 : ¬ o < 0) (hz : z_Ev E (d + 2) z_m91 6 [some (.ref 79), some (.ref a), some (.int f), some (.int (nI e)), some (.int (nI (k + 1))), some (.int (nI (i + 1))), some (.int o)] [] 161 ((z_u2 I 90 k o), J, RF w) r) : z_Ev E (d + 2) z_m91 6 [some (.ref 79), some (.ref a), some (.int f), some (.int (nI e)), some (.int (nI k)), some (.int (nI i)), x6] [] 161 (I, J, RF w) r := by
  refine z_evG 3 (y := if (nI i) < (nI e) then z_go 12 [some (.ref 79), some (.ref a), some (.int f), some (.int (nI e)), some (.int (nI k)), some (.int (nI i)), x6] [] 161 (I, J, RF w) else z_go 207 [some (.ref 79), some (.ref a), some (.int f), some (.int (nI e)), some (.int (nI k)), some (.int (nI i)), x6] [] 161 (I, J, RF w)) (fun _ => rfl) ?_
  refine z_evT ((show _ ↔ i < e from z_ltN rfl rfl (by omega) (by omega)).mpr hie) ?_
  refine z_evL ?_
  refine z_evG 3 (y := match z_al E 161 (I, J, RF w) a with | some nn => z_go 16 [some (.ref 79), some (.ref a), some (.int f), some (.int (nI e)), some (.int (nI k)), some (.int (nI i)), x6] [.int (Int32.ofNat nn), .int (nI i)] 161 (I, J, RF w) | none => none) (fun _ => rfl) ?_
  rw [z_alA ha]
  refine z_evL ?_
  refine z_evG 1 (y := if (nI i) < (nI 160) then z_go 19 [some (.ref 79), some (.ref a), some (.int f), some (.int (nI e)), some (.int (nI k)), some (.int (nI i)), x6] [] 161 (I, J, RF w) else z_go 207 [some (.ref 79), some (.ref a), some (.int f), some (.int (nI e)), some (.int (nI k)), some (.int (nI i)), x6] [] 161 (I, J, RF w)) (fun _ => rfl) ?_
  refine z_evT ((show _ ↔ i < 160 from z_ltN rfl rfl (by omega) (by decide)).mpr (by omega)) ?_
  refine z_evL ?_
  refine z_evG 3 (y := z_ild (z_ia E 161 (I, J, RF w) a) (nI i) fun vv => z_go 23 [some (.ref 79), some (.ref a), some (.int f), some (.int (nI e)), some (.int (nI k)), some (.int (nI i)), x6] [.int vv] 161 (I, J, RF w)) (fun _ => rfl) ?_
  refine z_evBn (N := 160) (f := (I a)) (k := i) (z_iaA ha) rfl (by omega) ?_
  refine z_evL ?_
  rw [show I a i = o from ho]
  refine z_evG 3 (y := if o < 0 then z_go 30 [some (.ref 79), some (.ref a), some (.int f), some (.int (nI e)), some (.int (nI k)), some (.int (nI i)), some (.int o)] [] 161 (I, J, RF w) else z_go 39 [some (.ref 79), some (.ref a), some (.int f), some (.int (nI e)), some (.int (nI k)), some (.int (nI i)), some (.int o)] [] 161 (I, J, RF w)) (fun _ => rfl) ?_
  refine z_evF h0 ?_
  refine z_evL ?_
  refine z_evG 5 (y := if (nI k) < 160 then z_go 51 [some (.ref 79), some (.ref a), some (.int f), some (.int (nI e)), some (.int (nI k)), some (.int (nI i)), some (.int o)] [] 161 (I, J, RF w) else z_go 49 [some (.ref 79), some (.ref a), some (.int f), some (.int (nI e)), some (.int (nI k)), some (.int (nI i)), some (.int o)] [] 161 (I, J, RF w)) (fun _ => rfl) ?_
  refine z_evT ((show _ ↔ k < 160 from z_ltN rfl rfl (by omega) (by decide)).mpr hk) ?_
  refine z_evL ?_
  refine z_evG 5 (y := if o < 0 then z_go 67 [some (.ref 79), some (.ref a), some (.int f), some (.int (nI e)), some (.int (nI k)), some (.int (nI i)), some (.int o)] [.int (nI k), .ref 90] 161 (I, J, RF w) else z_go 62 [some (.ref 79), some (.ref a), some (.int f), some (.int (nI e)), some (.int (nI k)), some (.int (nI i)), some (.int o)] [.int (nI k), .ref 90] 161 (I, J, RF w)) (fun _ => rfl) ?_
  refine z_evF h0 ?_
  refine z_evL ?_
  refine z_evG 3 (y := z_ck (z_in (nI k) 160) (z_go 79 [some (.ref 79), some (.ref a), some (.int f), some (.int (nI e)), some (.int (nI k)), some (.int (nI i)), some (.int o)] [] 161 ((z_u2 I 90 ((nI k).toNatClampNeg) o), J, RF w))) (fun _ => rfl) ?_
  refine z_evC (z_inN (k := k) rfl (by omega) (by decide)) ?_
  refine z_evL ?_
  rw [show ((nI k : Int32)).toNatClampNeg = k from z_natE rfl (by omega)]
  refine z_evG 4 (y := z_go 6 [some (.ref 79), some (.ref a), some (.int f), some (.int (nI e)), some (.int ((nI k) + 1)), some (.int ((nI i) + 1)), some (.int o)] [] 161 ((z_u2 I 90 k o), J, RF w)) (fun _ => rfl) ?_
  refine z_evL ?_
  rw [nI_1 i]
  rw [nI_1 k]
  exact hz
set_option maxRecDepth 20000 in
theorem x_va_fact (E : zE) (d : Nat) (I : Nat → Nat → Int32) (J : Nat → Nat → Int64) (w : Nat) {r : zR} (a e k i m : Nat) (f o : Int32) (x6 : Option Value) (ha : z_A a 160) (hie : i < e) (he : e ≤ 160) (ho : I a i = o) (hk : k < 160) (h0 : o < 0) (hN : ¬ -o < 8 ∧ ¬ 13 < -o) (h_m : -o - 8 = nI m) (hm : m < 6) (hz : z_Ev E (d + 2) z_m91 6 [some (.ref 79), some (.ref a), some (.int f), some (.int (nI e)), some (.int (nI (k + 1))), some (.int (nI (i + 1))), some (.int o)] [] 161 ((z_u2 I 90 k (I 89 m)), J, RF w) r) : z_Ev E (d + 2) z_m91 6 [some (.ref 79), some (.ref a), some (.int f), some (.int (nI e)), some (.int (nI k)), some (.int (nI i)), x6] [] 161 (I, J, RF w) r := by
  refine z_evG 3 (y := if (nI i) < (nI e) then z_go 12 [some (.ref 79), some (.ref a), some (.int f), some (.int (nI e)), some (.int (nI k)), some (.int (nI i)), x6] [] 161 (I, J, RF w) else z_go 207 [some (.ref 79), some (.ref a), some (.int f), some (.int (nI e)), some (.int (nI k)), some (.int (nI i)), x6] [] 161 (I, J, RF w)) (fun _ => rfl) ?_
  refine z_evT ((show _ ↔ i < e from z_ltN rfl rfl (by omega) (by omega)).mpr hie) ?_
  refine z_evL ?_
  refine z_evG 3 (y := match z_al E 161 (I, J, RF w) a with | some nn => z_go 16 [some (.ref 79), some (.ref a), some (.int f), some (.int (nI e)), some (.int (nI k)), some (.int (nI i)), x6] [.int (Int32.ofNat nn), .int (nI i)] 161 (I, J, RF w) | none => none) (fun _ => rfl) ?_
  rw [z_alA ha]
  refine z_evL ?_
  refine z_evG 1 (y := if (nI i) < (nI 160) then z_go 19 [some (.ref 79), some (.ref a), some (.int f), some (.int (nI e)), some (.int (nI k)), some (.int (nI i)), x6] [] 161 (I, J, RF w) else z_go 207 [some (.ref 79), some (.ref a), some (.int f), some (.int (nI e)), some (.int (nI k)), some (.int (nI i)), x6] [] 161 (I, J, RF w)) (fun _ => rfl) ?_
  refine z_evT ((show _ ↔ i < 160 from z_ltN rfl rfl (by omega) (by decide)).mpr (by omega)) ?_
  refine z_evL ?_
  refine z_evG 3 (y := z_ild (z_ia E 161 (I, J, RF w) a) (nI i) fun vv => z_go 23 [some (.ref 79), some (.ref a), some (.int f), some (.int (nI e)), some (.int (nI k)), some (.int (nI i)), x6] [.int vv] 161 (I, J, RF w)) (fun _ => rfl) ?_
  refine z_evBn (N := 160) (f := (I a)) (k := i) (z_iaA ha) rfl (by omega) ?_
  refine z_evL ?_
  rw [show I a i = o from ho]
  refine z_evG 3 (y := if o < 0 then z_go 30 [some (.ref 79), some (.ref a), some (.int f), some (.int (nI e)), some (.int (nI k)), some (.int (nI i)), some (.int o)] [] 161 (I, J, RF w) else z_go 39 [some (.ref 79), some (.ref a), some (.int f), some (.int (nI e)), some (.int (nI k)), some (.int (nI i)), some (.int o)] [] 161 (I, J, RF w)) (fun _ => rfl) ?_
  refine z_evT h0 ?_
  refine z_evL ?_
  refine z_evG 3 (y := z_ret (z_cl E (d + 2) 55 [.int (-o)] (161, (I, J, RF w))) 36 [some (.ref 79), some (.ref a), some (.int f), some (.int (nI e)), some (.int (nI k)), some (.int (nI i)), some (.int o)] []) (fun _ => rfl) ?_
  refine z_evK (v := .int (z_bo (¬ (-o) < 8 ∧ ¬ 13 < (-o)))) (z' := 161) (σ' := (I, J, RF w)) (x_isName E (d + 1) I J w (-o)) ?_
  refine z_evG 1 (y := if (z_bo (¬ (-o) < 8 ∧ ¬ 13 < (-o))) = 0 then z_go 85 [some (.ref 79), some (.ref a), some (.int f), some (.int (nI e)), some (.int (nI k)), some (.int (nI i)), some (.int o)] [] 161 (I, J, RF w) else z_go 39 [some (.ref 79), some (.ref a), some (.int f), some (.int (nI e)), some (.int (nI k)), some (.int (nI i)), some (.int o)] [] 161 (I, J, RF w)) (fun _ => rfl) ?_
  refine z_evF (fun q0 => z_bo_0.mp q0 hN) ?_
  refine z_evL ?_
  refine z_evG 5 (y := if (nI k) < 160 then z_go 51 [some (.ref 79), some (.ref a), some (.int f), some (.int (nI e)), some (.int (nI k)), some (.int (nI i)), some (.int o)] [] 161 (I, J, RF w) else z_go 49 [some (.ref 79), some (.ref a), some (.int f), some (.int (nI e)), some (.int (nI k)), some (.int (nI i)), some (.int o)] [] 161 (I, J, RF w)) (fun _ => rfl) ?_
  refine z_evT ((show _ ↔ k < 160 from z_ltN rfl rfl (by omega) (by decide)).mpr hk) ?_
  refine z_evL ?_
  refine z_evG 5 (y := if o < 0 then z_go 67 [some (.ref 79), some (.ref a), some (.int f), some (.int (nI e)), some (.int (nI k)), some (.int (nI i)), some (.int o)] [.int (nI k), .ref 90] 161 (I, J, RF w) else z_go 62 [some (.ref 79), some (.ref a), some (.int f), some (.int (nI e)), some (.int (nI k)), some (.int (nI i)), some (.int o)] [.int (nI k), .ref 90] 161 (I, J, RF w)) (fun _ => rfl) ?_
  refine z_evT h0 ?_
  refine z_evL ?_
  refine z_evG 7 (y := z_ild (z_ia E 161 (I, J, RF w) 89) ((-o) - 8) fun vv => z_go 78 [some (.ref 79), some (.ref a), some (.int f), some (.int (nI e)), some (.int (nI k)), some (.int (nI i)), some (.int o)] [.int vv, .int (nI k), .ref 90] 161 (I, J, RF w)) (fun _ => rfl) ?_
  refine z_evBn (N := 6) (f := (I 89)) (k := m) rfl h_m (by omega) ?_
  refine z_evL ?_
  refine z_evG 1 (y := z_ck (z_in (nI k) 160) (z_go 79 [some (.ref 79), some (.ref a), some (.int f), some (.int (nI e)), some (.int (nI k)), some (.int (nI i)), some (.int o)] [] 161 ((z_u2 I 90 ((nI k).toNatClampNeg) (I 89 m)), J, RF w))) (fun _ => rfl) ?_
  refine z_evC (z_inN (k := k) rfl (by omega) (by decide)) ?_
  refine z_evL ?_
  rw [show ((nI k : Int32)).toNatClampNeg = k from z_natE rfl (by omega)]
  refine z_evG 4 (y := z_go 6 [some (.ref 79), some (.ref a), some (.int f), some (.int (nI e)), some (.int ((nI k) + 1)), some (.int ((nI i) + 1)), some (.int o)] [] 161 ((z_u2 I 90 k (I 89 m)), J, RF w)) (fun _ => rfl) ?_
  refine z_evL ?_
  rw [nI_1 i]
  rw [nI_1 k]
  exact hz
set_option maxRecDepth 20000 in
theorem x_va_not1 (E : zE) (d : Nat) (I : Nat → Nat → Int32) (J : Nat → Nat → Int64) (w : Nat) {r : zR} (a e k i : Nat) (f o : Int32) (x6 : Option Value) (ha : z_A a 160) (hie : i < e) (he : e ≤ 160) (ho : I a i = o) (hk : k < 160) (h0 : o < 0) (hN : ¬ (¬ -o < 8 ∧ ¬ 13 < -o)) (h7 : o = -7) (hy : I 90 k = 0) (hz : z_Ev E (d + 2) z_m91 6 [some (.ref 79), some (.ref a), some (.int f), some (.int (nI e)), some (.int (nI (k + 1))), some (.int (nI (i + 1))), some (.int o)] [] 161 ((z_u2 I 90 k 1), J, RF w) r) : z_Ev E (d + 2) z_m91 6 [some (.ref 79), some (.ref a), some (.int f), some (.int (nI e)), some (.int (nI (k + 1))), some (.int (nI i)), x6] [] 161 (I, J, RF w) r := by
  refine z_evG 3 (y := if (nI i) < (nI e) then z_go 12 [some (.ref 79), some (.ref a), some (.int f), some (.int (nI e)), some (.int (nI (k + 1))), some (.int (nI i)), x6] [] 161 (I, J, RF w) else z_go 207 [some (.ref 79), some (.ref a), some (.int f), some (.int (nI e)), some (.int (nI (k + 1))), some (.int (nI i)), x6] [] 161 (I, J, RF w)) (fun _ => rfl) ?_
  refine z_evT ((show _ ↔ i < e from z_ltN rfl rfl (by omega) (by omega)).mpr hie) ?_
  refine z_evL ?_
  refine z_evG 3 (y := match z_al E 161 (I, J, RF w) a with | some nn => z_go 16 [some (.ref 79), some (.ref a), some (.int f), some (.int (nI e)), some (.int (nI (k + 1))), some (.int (nI i)), x6] [.int (Int32.ofNat nn), .int (nI i)] 161 (I, J, RF w) | none => none) (fun _ => rfl) ?_
  rw [z_alA ha]
  refine z_evL ?_
  refine z_evG 1 (y := if (nI i) < (nI 160) then z_go 19 [some (.ref 79), some (.ref a), some (.int f), some (.int (nI e)), some (.int (nI (k + 1))), some (.int (nI i)), x6] [] 161 (I, J, RF w) else z_go 207 [some (.ref 79), some (.ref a), some (.int f), some (.int (nI e)), some (.int (nI (k + 1))), some (.int (nI i)), x6] [] 161 (I, J, RF w)) (fun _ => rfl) ?_
  refine z_evT ((show _ ↔ i < 160 from z_ltN rfl rfl (by omega) (by decide)).mpr (by omega)) ?_
  refine z_evL ?_
  refine z_evG 3 (y := z_ild (z_ia E 161 (I, J, RF w) a) (nI i) fun vv => z_go 23 [some (.ref 79), some (.ref a), some (.int f), some (.int (nI e)), some (.int (nI (k + 1))), some (.int (nI i)), x6] [.int vv] 161 (I, J, RF w)) (fun _ => rfl) ?_
  refine z_evBn (N := 160) (f := (I a)) (k := i) (z_iaA ha) rfl (by omega) ?_
  refine z_evL ?_
  rw [show I a i = o from ho]
  refine z_evG 3 (y := if o < 0 then z_go 30 [some (.ref 79), some (.ref a), some (.int f), some (.int (nI e)), some (.int (nI (k + 1))), some (.int (nI i)), some (.int o)] [] 161 (I, J, RF w) else z_go 39 [some (.ref 79), some (.ref a), some (.int f), some (.int (nI e)), some (.int (nI (k + 1))), some (.int (nI i)), some (.int o)] [] 161 (I, J, RF w)) (fun _ => rfl) ?_
  refine z_evT h0 ?_
  refine z_evL ?_
  refine z_evG 3 (y := z_ret (z_cl E (d + 2) 55 [.int (-o)] (161, (I, J, RF w))) 36 [some (.ref 79), some (.ref a), some (.int f), some (.int (nI e)), some (.int (nI (k + 1))), some (.int (nI i)), some (.int o)] []) (fun _ => rfl) ?_
  refine z_evK (v := .int (z_bo (¬ (-o) < 8 ∧ ¬ 13 < (-o)))) (z' := 161) (σ' := (I, J, RF w)) (x_isName E (d + 1) I J w (-o)) ?_
  refine z_evG 1 (y := if (z_bo (¬ (-o) < 8 ∧ ¬ 13 < (-o))) = 0 then z_go 85 [some (.ref 79), some (.ref a), some (.int f), some (.int (nI e)), some (.int (nI (k + 1))), some (.int (nI i)), some (.int o)] [] 161 (I, J, RF w) else z_go 39 [some (.ref 79), some (.ref a), some (.int f), some (.int (nI e)), some (.int (nI (k + 1))), some (.int (nI i)), some (.int o)] [] 161 (I, J, RF w)) (fun _ => rfl) ?_
  refine z_evT (z_bo_0.mpr hN) ?_
  refine z_evL ?_
  refine z_evG 3 (y := if o = (-14) then z_go 99 [some (.ref 79), some (.ref a), some (.int f), some (.int (nI e)), some (.int (nI (k + 1))), some (.int (nI i)), some (.int o)] [] 161 (I, J, RF w) else z_go 92 [some (.ref 79), some (.ref a), some (.int f), some (.int (nI e)), some (.int (nI (k + 1))), some (.int (nI i)), some (.int o)] [] 161 (I, J, RF w)) (fun _ => rfl) ?_
  refine z_evF (by rw [h7]; decide) ?_
  refine z_evL ?_
  refine z_evG 3 (y := if o = (-7) then z_go 99 [some (.ref 79), some (.ref a), some (.int f), some (.int (nI e)), some (.int (nI (k + 1))), some (.int (nI i)), some (.int o)] [] 161 (I, J, RF w) else z_go 159 [some (.ref 79), some (.ref a), some (.int f), some (.int (nI e)), some (.int (nI (k + 1))), some (.int (nI i)), some (.int o)] [] 161 (I, J, RF w)) (fun _ => rfl) ?_
  refine z_evT h7 ?_
  refine z_evL ?_
  refine z_evG 3 (y := if (nI (k + 1)) < 1 then z_go 105 [some (.ref 79), some (.ref a), some (.int f), some (.int (nI e)), some (.int (nI (k + 1))), some (.int (nI i)), some (.int o)] [] 161 (I, J, RF w) else z_go 107 [some (.ref 79), some (.ref a), some (.int f), some (.int (nI e)), some (.int (nI (k + 1))), some (.int (nI i)), some (.int o)] [] 161 (I, J, RF w)) (fun _ => rfl) ?_
  refine z_evF (mt (show _ ↔ k + 1 < 1 from z_ltN rfl rfl (by omega) (by decide)).mp (by omega)) ?_
  refine z_evL ?_
  refine z_evG 8 (y := if o = (-7) then z_go 122 [some (.ref 79), some (.ref a), some (.int f), some (.int (nI e)), some (.int (nI (k + 1))), some (.int (nI i)), some (.int o)] [.int ((nI (k + 1)) - 1), .ref 90] 161 (I, J, RF w) else z_go 145 [some (.ref 79), some (.ref a), some (.int f), some (.int (nI e)), some (.int (nI (k + 1))), some (.int (nI i)), some (.int o)] [.int ((nI (k + 1)) - 1), .ref 90] 161 (I, J, RF w)) (fun _ => rfl) ?_
  refine z_evT h7 ?_
  refine z_evL ?_
  refine z_evG 6 (y := z_ild (z_ia E 161 (I, J, RF w) 90) ((nI (k + 1)) - 1) fun vv => z_go 131 [some (.ref 79), some (.ref a), some (.int f), some (.int (nI e)), some (.int (nI (k + 1))), some (.int (nI i)), some (.int o)] [.int vv, .int ((nI (k + 1)) - 1), .ref 90] 161 (I, J, RF w)) (fun _ => rfl) ?_
  refine z_evBn (N := 160) (f := (I 90)) (k := k) rfl (z_predE rfl) (by omega) ?_
  refine z_evL ?_
  refine z_evG 1 (y := if (I 90 k) = 0 then z_go 134 [some (.ref 79), some (.ref a), some (.int f), some (.int (nI e)), some (.int (nI (k + 1))), some (.int (nI i)), some (.int o)] [.int ((nI (k + 1)) - 1), .ref 90] 161 (I, J, RF w) else z_go 138 [some (.ref 79), some (.ref a), some (.int f), some (.int (nI e)), some (.int (nI (k + 1))), some (.int (nI i)), some (.int o)] [.int ((nI (k + 1)) - 1), .ref 90] 161 (I, J, RF w)) (fun _ => rfl) ?_
  refine z_evT hy ?_
  refine z_evL ?_
  refine z_evG 3 (y := z_ret (z_cl E (d + 2) 93 [.int 1] (161, (I, J, RF w))) 142 [some (.ref 79), some (.ref a), some (.int f), some (.int (nI e)), some (.int (nI (k + 1))), some (.int (nI i)), some (.int o)] [.int ((nI (k + 1)) - 1), .ref 90]) (fun _ => rfl) ?_
  refine z_evK (v := .int 1) (z' := 161) (σ' := (I, J, RF w)) (x_truth1 E (d + 1) I J w) ?_
  refine z_evG 2 (y := z_ck (z_in ((nI (k + 1)) - 1) 160) (z_go 156 [some (.ref 79), some (.ref a), some (.int f), some (.int (nI e)), some (.int (nI (k + 1))), some (.int (nI i)), some (.int o)] [] 161 ((z_u2 I 90 (((nI (k + 1)) - 1).toNatClampNeg) 1), J, RF w))) (fun _ => rfl) ?_
  refine z_evC (z_inN (k := k) (z_predE rfl) (by omega) (by decide)) ?_
  refine z_evL ?_
  rw [show (((nI (k + 1)) - 1 : Int32)).toNatClampNeg = k from z_natE (z_predE rfl) (by omega)]
  refine z_evG 3 (y := z_go 6 [some (.ref 79), some (.ref a), some (.int f), some (.int (nI e)), some (.int (nI (k + 1))), some (.int ((nI i) + 1)), some (.int o)] [] 161 ((z_u2 I 90 k 1), J, RF w)) (fun _ => rfl) ?_
  refine z_evL ?_
  rw [nI_1 i]
  exact hz
set_option maxRecDepth 20000 in
theorem x_va_not0 (E : zE) (d : Nat) (I : Nat → Nat → Int32) (J : Nat → Nat → Int64) (w : Nat) {r : zR} (a e k i : Nat) (f o : Int32) (x6 : Option Value) (ha : z_A a 160) (hie : i < e) (he : e ≤ 160) (ho : I a i = o) (hk : k < 160) (h0 : o < 0) (hN : ¬ (¬ -o < 8 ∧ ¬ 13 < -o)) (h7 : o = -7) (hy : ¬ I 90 k = 0) (hz : z_Ev E (d + 2) z_m91 6 [some (.ref 79), some (.ref a), some (.int f), some (.int (nI e)), some (.int (nI (k + 1))), some (.int (nI (i + 1))), some (.int o)] [] 161 ((z_u2 I 90 k 0), J, RF w) r) : z_Ev E (d + 2) z_m91 6 [some (.ref 79), some (.ref a), some (.int f), some (.int (nI e)), some (.int (nI (k + 1))), some (.int (nI i)), x6] [] 161 (I, J, RF w) r := by
  refine z_evG 3 (y := if (nI i) < (nI e) then z_go 12 [some (.ref 79), some (.ref a), some (.int f), some (.int (nI e)), some (.int (nI (k + 1))), some (.int (nI i)), x6] [] 161 (I, J, RF w) else z_go 207 [some (.ref 79), some (.ref a), some (.int f), some (.int (nI e)), some (.int (nI (k + 1))), some (.int (nI i)), x6] [] 161 (I, J, RF w)) (fun _ => rfl) ?_
  refine z_evT ((show _ ↔ i < e from z_ltN rfl rfl (by omega) (by omega)).mpr hie) ?_
  refine z_evL ?_
  refine z_evG 3 (y := match z_al E 161 (I, J, RF w) a with | some nn => z_go 16 [some (.ref 79), some (.ref a), some (.int f), some (.int (nI e)), some (.int (nI (k + 1))), some (.int (nI i)), x6] [.int (Int32.ofNat nn), .int (nI i)] 161 (I, J, RF w) | none => none) (fun _ => rfl) ?_
  rw [z_alA ha]
  refine z_evL ?_
  refine z_evG 1 (y := if (nI i) < (nI 160) then z_go 19 [some (.ref 79), some (.ref a), some (.int f), some (.int (nI e)), some (.int (nI (k + 1))), some (.int (nI i)), x6] [] 161 (I, J, RF w) else z_go 207 [some (.ref 79), some (.ref a), some (.int f), some (.int (nI e)), some (.int (nI (k + 1))), some (.int (nI i)), x6] [] 161 (I, J, RF w)) (fun _ => rfl) ?_
  refine z_evT ((show _ ↔ i < 160 from z_ltN rfl rfl (by omega) (by decide)).mpr (by omega)) ?_
  refine z_evL ?_
  refine z_evG 3 (y := z_ild (z_ia E 161 (I, J, RF w) a) (nI i) fun vv => z_go 23 [some (.ref 79), some (.ref a), some (.int f), some (.int (nI e)), some (.int (nI (k + 1))), some (.int (nI i)), x6] [.int vv] 161 (I, J, RF w)) (fun _ => rfl) ?_
  refine z_evBn (N := 160) (f := (I a)) (k := i) (z_iaA ha) rfl (by omega) ?_
  refine z_evL ?_
  rw [show I a i = o from ho]
  refine z_evG 3 (y := if o < 0 then z_go 30 [some (.ref 79), some (.ref a), some (.int f), some (.int (nI e)), some (.int (nI (k + 1))), some (.int (nI i)), some (.int o)] [] 161 (I, J, RF w) else z_go 39 [some (.ref 79), some (.ref a), some (.int f), some (.int (nI e)), some (.int (nI (k + 1))), some (.int (nI i)), some (.int o)] [] 161 (I, J, RF w)) (fun _ => rfl) ?_
  refine z_evT h0 ?_
  refine z_evL ?_
  refine z_evG 3 (y := z_ret (z_cl E (d + 2) 55 [.int (-o)] (161, (I, J, RF w))) 36 [some (.ref 79), some (.ref a), some (.int f), some (.int (nI e)), some (.int (nI (k + 1))), some (.int (nI i)), some (.int o)] []) (fun _ => rfl) ?_
  refine z_evK (v := .int (z_bo (¬ (-o) < 8 ∧ ¬ 13 < (-o)))) (z' := 161) (σ' := (I, J, RF w)) (x_isName E (d + 1) I J w (-o)) ?_
  refine z_evG 1 (y := if (z_bo (¬ (-o) < 8 ∧ ¬ 13 < (-o))) = 0 then z_go 85 [some (.ref 79), some (.ref a), some (.int f), some (.int (nI e)), some (.int (nI (k + 1))), some (.int (nI i)), some (.int o)] [] 161 (I, J, RF w) else z_go 39 [some (.ref 79), some (.ref a), some (.int f), some (.int (nI e)), some (.int (nI (k + 1))), some (.int (nI i)), some (.int o)] [] 161 (I, J, RF w)) (fun _ => rfl) ?_
  refine z_evT (z_bo_0.mpr hN) ?_
  refine z_evL ?_
  refine z_evG 3 (y := if o = (-14) then z_go 99 [some (.ref 79), some (.ref a), some (.int f), some (.int (nI e)), some (.int (nI (k + 1))), some (.int (nI i)), some (.int o)] [] 161 (I, J, RF w) else z_go 92 [some (.ref 79), some (.ref a), some (.int f), some (.int (nI e)), some (.int (nI (k + 1))), some (.int (nI i)), some (.int o)] [] 161 (I, J, RF w)) (fun _ => rfl) ?_
  refine z_evF (by rw [h7]; decide) ?_
  refine z_evL ?_
  refine z_evG 3 (y := if o = (-7) then z_go 99 [some (.ref 79), some (.ref a), some (.int f), some (.int (nI e)), some (.int (nI (k + 1))), some (.int (nI i)), some (.int o)] [] 161 (I, J, RF w) else z_go 159 [some (.ref 79), some (.ref a), some (.int f), some (.int (nI e)), some (.int (nI (k + 1))), some (.int (nI i)), some (.int o)] [] 161 (I, J, RF w)) (fun _ => rfl) ?_
  refine z_evT h7 ?_
  refine z_evL ?_
  refine z_evG 3 (y := if (nI (k + 1)) < 1 then z_go 105 [some (.ref 79), some (.ref a), some (.int f), some (.int (nI e)), some (.int (nI (k + 1))), some (.int (nI i)), some (.int o)] [] 161 (I, J, RF w) else z_go 107 [some (.ref 79), some (.ref a), some (.int f), some (.int (nI e)), some (.int (nI (k + 1))), some (.int (nI i)), some (.int o)] [] 161 (I, J, RF w)) (fun _ => rfl) ?_
  refine z_evF (mt (show _ ↔ k + 1 < 1 from z_ltN rfl rfl (by omega) (by decide)).mp (by omega)) ?_
  refine z_evL ?_
  refine z_evG 8 (y := if o = (-7) then z_go 122 [some (.ref 79), some (.ref a), some (.int f), some (.int (nI e)), some (.int (nI (k + 1))), some (.int (nI i)), some (.int o)] [.int ((nI (k + 1)) - 1), .ref 90] 161 (I, J, RF w) else z_go 145 [some (.ref 79), some (.ref a), some (.int f), some (.int (nI e)), some (.int (nI (k + 1))), some (.int (nI i)), some (.int o)] [.int ((nI (k + 1)) - 1), .ref 90] 161 (I, J, RF w)) (fun _ => rfl) ?_
  refine z_evT h7 ?_
  refine z_evL ?_
  refine z_evG 6 (y := z_ild (z_ia E 161 (I, J, RF w) 90) ((nI (k + 1)) - 1) fun vv => z_go 131 [some (.ref 79), some (.ref a), some (.int f), some (.int (nI e)), some (.int (nI (k + 1))), some (.int (nI i)), some (.int o)] [.int vv, .int ((nI (k + 1)) - 1), .ref 90] 161 (I, J, RF w)) (fun _ => rfl) ?_
  refine z_evBn (N := 160) (f := (I 90)) (k := k) rfl (z_predE rfl) (by omega) ?_
  refine z_evL ?_
  refine z_evG 1 (y := if (I 90 k) = 0 then z_go 134 [some (.ref 79), some (.ref a), some (.int f), some (.int (nI e)), some (.int (nI (k + 1))), some (.int (nI i)), some (.int o)] [.int ((nI (k + 1)) - 1), .ref 90] 161 (I, J, RF w) else z_go 138 [some (.ref 79), some (.ref a), some (.int f), some (.int (nI e)), some (.int (nI (k + 1))), some (.int (nI i)), some (.int o)] [.int ((nI (k + 1)) - 1), .ref 90] 161 (I, J, RF w)) (fun _ => rfl) ?_
  refine z_evF hy ?_
  refine z_evL ?_
  refine z_evG 2 (y := z_ret (z_cl E (d + 2) 93 [.int 0] (161, (I, J, RF w))) 142 [some (.ref 79), some (.ref a), some (.int f), some (.int (nI e)), some (.int (nI (k + 1))), some (.int (nI i)), some (.int o)] [.int ((nI (k + 1)) - 1), .ref 90]) (fun _ => rfl) ?_
  refine z_evK (v := .int 0) (z' := 161) (σ' := (I, J, RF w)) (x_truth0 E (d + 1) I J w) ?_
  refine z_evG 2 (y := z_ck (z_in ((nI (k + 1)) - 1) 160) (z_go 156 [some (.ref 79), some (.ref a), some (.int f), some (.int (nI e)), some (.int (nI (k + 1))), some (.int (nI i)), some (.int o)] [] 161 ((z_u2 I 90 (((nI (k + 1)) - 1).toNatClampNeg) 0), J, RF w))) (fun _ => rfl) ?_
  refine z_evC (z_inN (k := k) (z_predE rfl) (by omega) (by decide)) ?_
  refine z_evL ?_
  rw [show (((nI (k + 1)) - 1 : Int32)).toNatClampNeg = k from z_natE (z_predE rfl) (by omega)]
  refine z_evG 3 (y := z_go 6 [some (.ref 79), some (.ref a), some (.int f), some (.int (nI e)), some (.int (nI (k + 1))), some (.int ((nI i) + 1)), some (.int o)] [] 161 ((z_u2 I 90 k 0), J, RF w)) (fun _ => rfl) ?_
  refine z_evL ?_
  rw [nI_1 i]
  exact hz
set_option maxRecDepth 20000 in
theorem x_va_neg (E : zE) (d : Nat) (I : Nat → Nat → Int32) (J : Nat → Nat → Int64) (w : Nat) {r : zR} (a e k i : Nat) (f o : Int32) (x6 : Option Value) (ha : z_A a 160) (hie : i < e) (he : e ≤ 160) (ho : I a i = o) (hk : k < 160) (h0 : o < 0) (hN : ¬ (¬ -o < 8 ∧ ¬ 13 < -o)) (h14 : o = -14) (hz : z_Ev E (d + 2) z_m91 6 [some (.ref 79), some (.ref a), some (.int f), some (.int (nI e)), some (.int (nI (k + 1))), some (.int (nI (i + 1))), some (.int o)] [] 161 ((z_u2 I 90 k (-(I 90 k))), J, RF w) r) : z_Ev E (d + 2) z_m91 6 [some (.ref 79), some (.ref a), some (.int f), some (.int (nI e)), some (.int (nI (k + 1))), some (.int (nI i)), x6] [] 161 (I, J, RF w) r := by
  refine z_evG 3 (y := if (nI i) < (nI e) then z_go 12 [some (.ref 79), some (.ref a), some (.int f), some (.int (nI e)), some (.int (nI (k + 1))), some (.int (nI i)), x6] [] 161 (I, J, RF w) else z_go 207 [some (.ref 79), some (.ref a), some (.int f), some (.int (nI e)), some (.int (nI (k + 1))), some (.int (nI i)), x6] [] 161 (I, J, RF w)) (fun _ => rfl) ?_
  refine z_evT ((show _ ↔ i < e from z_ltN rfl rfl (by omega) (by omega)).mpr hie) ?_
  refine z_evL ?_
  refine z_evG 3 (y := match z_al E 161 (I, J, RF w) a with | some nn => z_go 16 [some (.ref 79), some (.ref a), some (.int f), some (.int (nI e)), some (.int (nI (k + 1))), some (.int (nI i)), x6] [.int (Int32.ofNat nn), .int (nI i)] 161 (I, J, RF w) | none => none) (fun _ => rfl) ?_
  rw [z_alA ha]
  refine z_evL ?_
  refine z_evG 1 (y := if (nI i) < (nI 160) then z_go 19 [some (.ref 79), some (.ref a), some (.int f), some (.int (nI e)), some (.int (nI (k + 1))), some (.int (nI i)), x6] [] 161 (I, J, RF w) else z_go 207 [some (.ref 79), some (.ref a), some (.int f), some (.int (nI e)), some (.int (nI (k + 1))), some (.int (nI i)), x6] [] 161 (I, J, RF w)) (fun _ => rfl) ?_
  refine z_evT ((show _ ↔ i < 160 from z_ltN rfl rfl (by omega) (by decide)).mpr (by omega)) ?_
  refine z_evL ?_
  refine z_evG 3 (y := z_ild (z_ia E 161 (I, J, RF w) a) (nI i) fun vv => z_go 23 [some (.ref 79), some (.ref a), some (.int f), some (.int (nI e)), some (.int (nI (k + 1))), some (.int (nI i)), x6] [.int vv] 161 (I, J, RF w)) (fun _ => rfl) ?_
  refine z_evBn (N := 160) (f := (I a)) (k := i) (z_iaA ha) rfl (by omega) ?_
  refine z_evL ?_
  rw [show I a i = o from ho]
  refine z_evG 3 (y := if o < 0 then z_go 30 [some (.ref 79), some (.ref a), some (.int f), some (.int (nI e)), some (.int (nI (k + 1))), some (.int (nI i)), some (.int o)] [] 161 (I, J, RF w) else z_go 39 [some (.ref 79), some (.ref a), some (.int f), some (.int (nI e)), some (.int (nI (k + 1))), some (.int (nI i)), some (.int o)] [] 161 (I, J, RF w)) (fun _ => rfl) ?_
  refine z_evT h0 ?_
  refine z_evL ?_
  refine z_evG 3 (y := z_ret (z_cl E (d + 2) 55 [.int (-o)] (161, (I, J, RF w))) 36 [some (.ref 79), some (.ref a), some (.int f), some (.int (nI e)), some (.int (nI (k + 1))), some (.int (nI i)), some (.int o)] []) (fun _ => rfl) ?_
  refine z_evK (v := .int (z_bo (¬ (-o) < 8 ∧ ¬ 13 < (-o)))) (z' := 161) (σ' := (I, J, RF w)) (x_isName E (d + 1) I J w (-o)) ?_
  refine z_evG 1 (y := if (z_bo (¬ (-o) < 8 ∧ ¬ 13 < (-o))) = 0 then z_go 85 [some (.ref 79), some (.ref a), some (.int f), some (.int (nI e)), some (.int (nI (k + 1))), some (.int (nI i)), some (.int o)] [] 161 (I, J, RF w) else z_go 39 [some (.ref 79), some (.ref a), some (.int f), some (.int (nI e)), some (.int (nI (k + 1))), some (.int (nI i)), some (.int o)] [] 161 (I, J, RF w)) (fun _ => rfl) ?_
  refine z_evT (z_bo_0.mpr hN) ?_
  refine z_evL ?_
  refine z_evG 3 (y := if o = (-14) then z_go 99 [some (.ref 79), some (.ref a), some (.int f), some (.int (nI e)), some (.int (nI (k + 1))), some (.int (nI i)), some (.int o)] [] 161 (I, J, RF w) else z_go 92 [some (.ref 79), some (.ref a), some (.int f), some (.int (nI e)), some (.int (nI (k + 1))), some (.int (nI i)), some (.int o)] [] 161 (I, J, RF w)) (fun _ => rfl) ?_
  refine z_evT h14 ?_
  refine z_evL ?_
  refine z_evG 3 (y := if (nI (k + 1)) < 1 then z_go 105 [some (.ref 79), some (.ref a), some (.int f), some (.int (nI e)), some (.int (nI (k + 1))), some (.int (nI i)), some (.int o)] [] 161 (I, J, RF w) else z_go 107 [some (.ref 79), some (.ref a), some (.int f), some (.int (nI e)), some (.int (nI (k + 1))), some (.int (nI i)), some (.int o)] [] 161 (I, J, RF w)) (fun _ => rfl) ?_
  refine z_evF (mt (show _ ↔ k + 1 < 1 from z_ltN rfl rfl (by omega) (by decide)).mp (by omega)) ?_
  refine z_evL ?_
  refine z_evG 8 (y := if o = (-7) then z_go 122 [some (.ref 79), some (.ref a), some (.int f), some (.int (nI e)), some (.int (nI (k + 1))), some (.int (nI i)), some (.int o)] [.int ((nI (k + 1)) - 1), .ref 90] 161 (I, J, RF w) else z_go 145 [some (.ref 79), some (.ref a), some (.int f), some (.int (nI e)), some (.int (nI (k + 1))), some (.int (nI i)), some (.int o)] [.int ((nI (k + 1)) - 1), .ref 90] 161 (I, J, RF w)) (fun _ => rfl) ?_
  refine z_evF (by rw [h14]; decide) ?_
  refine z_evL ?_
  refine z_evG 6 (y := z_ild (z_ia E 161 (I, J, RF w) 90) ((nI (k + 1)) - 1) fun vv => z_go 154 [some (.ref 79), some (.ref a), some (.int f), some (.int (nI e)), some (.int (nI (k + 1))), some (.int (nI i)), some (.int o)] [.int vv, .int ((nI (k + 1)) - 1), .ref 90] 161 (I, J, RF w)) (fun _ => rfl) ?_
  refine z_evBn (N := 160) (f := (I 90)) (k := k) rfl (z_predE rfl) (by omega) ?_
  refine z_evL ?_
  refine z_evG 2 (y := z_ck (z_in ((nI (k + 1)) - 1) 160) (z_go 156 [some (.ref 79), some (.ref a), some (.int f), some (.int (nI e)), some (.int (nI (k + 1))), some (.int (nI i)), some (.int o)] [] 161 ((z_u2 I 90 (((nI (k + 1)) - 1).toNatClampNeg) (-(I 90 k))), J, RF w))) (fun _ => rfl) ?_
  refine z_evC (z_inN (k := k) (z_predE rfl) (by omega) (by decide)) ?_
  refine z_evL ?_
  rw [show (((nI (k + 1)) - 1 : Int32)).toNatClampNeg = k from z_natE (z_predE rfl) (by omega)]
  refine z_evG 3 (y := z_go 6 [some (.ref 79), some (.ref a), some (.int f), some (.int (nI e)), some (.int (nI (k + 1))), some (.int ((nI i) + 1)), some (.int o)] [] 161 ((z_u2 I 90 k (-(I 90 k))), J, RF w)) (fun _ => rfl) ?_
  refine z_evL ?_
  rw [nI_1 i]
  exact hz
theorem z_evII {E : zE} {d : Nat} {M : zM} {pc : Nat} {a b c f : Option Value} {q1 t q2 y t' : Int32} {k : Int} {st : List Value} {z : Nat} {σ : zS} {r : zR} (hq : z_at M pc = some (.iinc 4 k, 3, [], .int y)) (e : t + y = t') (h : z_Ev E d M (pc + 3) [a, b, c, some (.int q1), some (.int t'), some (.int q2), f] st z σ r) : z_Ev E d M pc [a, b, c, some (.int q1), some (.int t), some (.int q2), f] st z σ r := by
  subst e
  refine z_evG 1 (y := z_go (pc + 3) [a, b, c, some (.int q1), some (.int (t + y)), some (.int q2), f] st z σ) (fun n => ?_) h
  have : z_st (z_cl E d) E M pc [a, b, c, some (.int q1), some (.int t), some (.int q2), f] st z σ = z_go (pc + 3) [a, b, c, some (.int q1), some (.int (t + y)), some (.int q2), f] st z σ := by
    unfold z_st
    rw [hq]
    rfl
  show (match z_st (z_cl E d) E M pc [a, b, c, some (.int q1), some (.int t), some (.int q2), f] st z σ with
    | some (.inl (pc, ls, st, z, σ)) => z_run (z_cl E d) E M n pc ls st z σ
    | some (.inr r) => some r
    | none => none) = _
  rw [this]
  rfl
theorem x_va_dec (E : zE) (d : Nat) (J : Nat → Nat → Int64) (w : Nat) (I : Nat → Nat → Int32) (r : zR) (a : Nat) (f e t i o t' : Int32) (ht : t + (-1) = t') (hz : z_Ev E (d + 2) z_m91 170 [some (.ref 79), some (.ref a), some (.int f), some (.int e), some (.int t'), some (.int i), some (.int o)] [] 161 (I, J, RF w) r) : z_Ev E (d + 2) z_m91 167 [some (.ref 79), some (.ref a), some (.int f), some (.int e), some (.int t), some (.int i), some (.int o)] [] 161 (I, J, RF w) r :=
  z_evII (k := -1) (y := -1) rfl ht hz
set_option maxRecDepth 20000 in
theorem x_va_bin1 (E : zE) (d : Nat) (I : Nat → Nat → Int32) (J : Nat → Nat → Int64) (w : Nat) {r : zR} (a e k i : Nat) (f o t : Int32) (x6 : Option Value) (ha : z_A a 160) (hie : i < e) (he : e ≤ 160) (ho : I a i = o) (hk : k + 2 ≤ 160) (ht : t = nI (k + 2)) (h0 : o < 0) (hN : ¬ (¬ -o < 8 ∧ ¬ 13 < -o)) (h14 : ¬ o = -14) (h7 : ¬ o = -7) (hz : z_Ev E (d + 2) z_m91 167 [some (.ref 79), some (.ref a), some (.int f), some (.int (nI e)), some (.int t), some (.int (nI i)), some (.int o)] [] 161 (I, J, RF w) r) : z_Ev E (d + 2) z_m91 6 [some (.ref 79), some (.ref a), some (.int f), some (.int (nI e)), some (.int t), some (.int (nI i)), x6] [] 161 (I, J, RF w) r := by
  refine z_evG 3 (y := if (nI i) < (nI e) then z_go 12 [some (.ref 79), some (.ref a), some (.int f), some (.int (nI e)), some (.int t), some (.int (nI i)), x6] [] 161 (I, J, RF w) else z_go 207 [some (.ref 79), some (.ref a), some (.int f), some (.int (nI e)), some (.int t), some (.int (nI i)), x6] [] 161 (I, J, RF w)) (fun _ => rfl) ?_
  refine z_evT ((show _ ↔ i < e from z_ltN rfl rfl (by omega) (by omega)).mpr hie) ?_
  refine z_evL ?_
  refine z_evG 3 (y := match z_al E 161 (I, J, RF w) a with | some nn => z_go 16 [some (.ref 79), some (.ref a), some (.int f), some (.int (nI e)), some (.int t), some (.int (nI i)), x6] [.int (Int32.ofNat nn), .int (nI i)] 161 (I, J, RF w) | none => none) (fun _ => rfl) ?_
  rw [z_alA ha]
  refine z_evL ?_
  refine z_evG 1 (y := if (nI i) < (nI 160) then z_go 19 [some (.ref 79), some (.ref a), some (.int f), some (.int (nI e)), some (.int t), some (.int (nI i)), x6] [] 161 (I, J, RF w) else z_go 207 [some (.ref 79), some (.ref a), some (.int f), some (.int (nI e)), some (.int t), some (.int (nI i)), x6] [] 161 (I, J, RF w)) (fun _ => rfl) ?_
  refine z_evT ((show _ ↔ i < 160 from z_ltN rfl rfl (by omega) (by decide)).mpr (by omega)) ?_
  refine z_evL ?_
  refine z_evG 3 (y := z_ild (z_ia E 161 (I, J, RF w) a) (nI i) fun vv => z_go 23 [some (.ref 79), some (.ref a), some (.int f), some (.int (nI e)), some (.int t), some (.int (nI i)), x6] [.int vv] 161 (I, J, RF w)) (fun _ => rfl) ?_
  refine z_evBn (N := 160) (f := (I a)) (k := i) (z_iaA ha) rfl (by omega) ?_
  refine z_evL ?_
  rw [show I a i = o from ho]
  refine z_evG 3 (y := if o < 0 then z_go 30 [some (.ref 79), some (.ref a), some (.int f), some (.int (nI e)), some (.int t), some (.int (nI i)), some (.int o)] [] 161 (I, J, RF w) else z_go 39 [some (.ref 79), some (.ref a), some (.int f), some (.int (nI e)), some (.int t), some (.int (nI i)), some (.int o)] [] 161 (I, J, RF w)) (fun _ => rfl) ?_
  refine z_evT h0 ?_
  refine z_evL ?_
  refine z_evG 3 (y := z_ret (z_cl E (d + 2) 55 [.int (-o)] (161, (I, J, RF w))) 36 [some (.ref 79), some (.ref a), some (.int f), some (.int (nI e)), some (.int t), some (.int (nI i)), some (.int o)] []) (fun _ => rfl) ?_
  refine z_evK (v := .int (z_bo (¬ (-o) < 8 ∧ ¬ 13 < (-o)))) (z' := 161) (σ' := (I, J, RF w)) (x_isName E (d + 1) I J w (-o)) ?_
  refine z_evG 1 (y := if (z_bo (¬ (-o) < 8 ∧ ¬ 13 < (-o))) = 0 then z_go 85 [some (.ref 79), some (.ref a), some (.int f), some (.int (nI e)), some (.int t), some (.int (nI i)), some (.int o)] [] 161 (I, J, RF w) else z_go 39 [some (.ref 79), some (.ref a), some (.int f), some (.int (nI e)), some (.int t), some (.int (nI i)), some (.int o)] [] 161 (I, J, RF w)) (fun _ => rfl) ?_
  refine z_evT (z_bo_0.mpr hN) ?_
  refine z_evL ?_
  refine z_evG 3 (y := if o = (-14) then z_go 99 [some (.ref 79), some (.ref a), some (.int f), some (.int (nI e)), some (.int t), some (.int (nI i)), some (.int o)] [] 161 (I, J, RF w) else z_go 92 [some (.ref 79), some (.ref a), some (.int f), some (.int (nI e)), some (.int t), some (.int (nI i)), some (.int o)] [] 161 (I, J, RF w)) (fun _ => rfl) ?_
  refine z_evF h14 ?_
  refine z_evL ?_
  refine z_evG 3 (y := if o = (-7) then z_go 99 [some (.ref 79), some (.ref a), some (.int f), some (.int (nI e)), some (.int t), some (.int (nI i)), some (.int o)] [] 161 (I, J, RF w) else z_go 159 [some (.ref 79), some (.ref a), some (.int f), some (.int (nI e)), some (.int t), some (.int (nI i)), some (.int o)] [] 161 (I, J, RF w)) (fun _ => rfl) ?_
  refine z_evF h7 ?_
  refine z_evL ?_
  refine z_evG 3 (y := if t < 2 then z_go 165 [some (.ref 79), some (.ref a), some (.int f), some (.int (nI e)), some (.int t), some (.int (nI i)), some (.int o)] [] 161 (I, J, RF w) else z_go 167 [some (.ref 79), some (.ref a), some (.int f), some (.int (nI e)), some (.int t), some (.int (nI i)), some (.int o)] [] 161 (I, J, RF w)) (fun _ => rfl) ?_
  refine z_evF (mt (show _ ↔ k + 2 < 2 from z_ltN ht rfl (by omega) (by decide)).mp (by omega)) ?_
  refine z_evL ?_
  exact hz
set_option maxRecDepth 20000 in
theorem x_va_bin2 (E : zE) (d : Nat) (I : Nat → Nat → Int32) (J : Nat → Nat → Int64) (w : Nat) {r : zR} (a e k i : Nat) (f o : Int32) (hk : k + 2 ≤ 160) (hz : z_Ev E (d + 2) z_m91 6 [some (.ref 79), some (.ref a), some (.int f), some (.int (nI e)), some (.int (nI (k + 1))), some (.int (nI (i + 1))), some (.int o)] [] 161 ((z_u2 I 90 k (s_jc (-o) (I 90 k) (I 90 (k + 1)))), J, RF w) r) : z_Ev E (d + 2) z_m91 170 [some (.ref 79), some (.ref a), some (.int f), some (.int (nI e)), some (.int (nI (k + 1))), some (.int (nI i)), some (.int o)] [] 161 (I, J, RF w) r := by
  refine z_evG 13 (y := z_ild (z_ia E 161 (I, J, RF w) 90) ((nI (k + 1)) - 1) fun vv => z_go 190 [some (.ref 79), some (.ref a), some (.int f), some (.int (nI e)), some (.int (nI (k + 1))), some (.int (nI i)), some (.int o)] [.int vv, .int (-o), .int ((nI (k + 1)) - 1), .ref 90] 161 (I, J, RF w)) (fun _ => rfl) ?_
  refine z_evBn (N := 160) (f := (I 90)) (k := k) rfl (z_predE rfl) (by omega) ?_
  refine z_evL ?_
  refine z_evG 4 (y := z_ild (z_ia E 161 (I, J, RF w) 90) (nI (k + 1)) fun vv => z_go 197 [some (.ref 79), some (.ref a), some (.int f), some (.int (nI e)), some (.int (nI (k + 1))), some (.int (nI i)), some (.int o)] [.int vv, .int (I 90 k), .int (-o), .int ((nI (k + 1)) - 1), .ref 90] 161 (I, J, RF w)) (fun _ => rfl) ?_
  refine z_evBn (N := 160) (f := (I 90)) (k := (k + 1)) rfl rfl (by omega) ?_
  refine z_evL ?_
  refine z_evG 1 (y := z_ret (z_cl E (d + 2) 92 [.int (-o), .int (I 90 k), .int (I 90 (k + 1))] (161, (I, J, RF w))) 200 [some (.ref 79), some (.ref a), some (.int f), some (.int (nI e)), some (.int (nI (k + 1))), some (.int (nI i)), some (.int o)] [.int ((nI (k + 1)) - 1), .ref 90]) (fun _ => rfl) ?_
  refine z_evK (v := .int (s_jc (-o) (I 90 k) (I 90 (k + 1)))) (z' := 161) (σ' := (I, J, RF w)) (x_joined E d I J w (-o) (I 90 k) (I 90 (k + 1))) ?_
  refine z_evG 1 (y := z_ck (z_in ((nI (k + 1)) - 1) 160) (z_go 201 [some (.ref 79), some (.ref a), some (.int f), some (.int (nI e)), some (.int (nI (k + 1))), some (.int (nI i)), some (.int o)] [] 161 ((z_u2 I 90 (((nI (k + 1)) - 1).toNatClampNeg) (s_jc (-o) (I 90 k) (I 90 (k + 1)))), J, RF w))) (fun _ => rfl) ?_
  refine z_evC (z_inN (k := k) (z_predE rfl) (by omega) (by decide)) ?_
  refine z_evL ?_
  rw [show (((nI (k + 1)) - 1 : Int32)).toNatClampNeg = k from z_natE (z_predE rfl) (by omega)]
  refine z_evG 2 (y := z_go 6 [some (.ref 79), some (.ref a), some (.int f), some (.int (nI e)), some (.int (nI (k + 1))), some (.int ((nI i) + 1)), some (.int o)] [] 161 ((z_u2 I 90 k (s_jc (-o) (I 90 k) (I 90 (k + 1)))), J, RF w)) (fun _ => rfl) ?_
  refine z_evL ?_
  rw [nI_1 i]
  exact hz
set_option maxRecDepth 20000 in
theorem x_va_end (E : zE) (d : Nat) (I : Nat → Nat → Int32) (J : Nat → Nat → Int64) (w : Nat) (a e k i : Nat) (f : Int32) (x6 : Option Value) (ha : z_A a 160) (hie : e ≤ i) (hi : i ≤ 160) : z_Ev E (d + 2) z_m91 6 [some (.ref 79), some (.ref a), some (.int f), some (.int (nI e)), some (.int (nI k)), some (.int (nI i)), x6] [] 161 (I, J, RF w) (some (.int (I 90 0)), 161, I, J, RF w) := by
  refine z_evG 3 (y := if (nI i) < (nI e) then z_go 12 [some (.ref 79), some (.ref a), some (.int f), some (.int (nI e)), some (.int (nI k)), some (.int (nI i)), x6] [] 161 (I, J, RF w) else z_go 207 [some (.ref 79), some (.ref a), some (.int f), some (.int (nI e)), some (.int (nI k)), some (.int (nI i)), x6] [] 161 (I, J, RF w)) (fun _ => rfl) ?_
  refine z_evF (mt (show _ ↔ i < e from z_ltN rfl rfl (by omega) (by omega)).mp (by omega)) ?_
  refine z_evL ?_
  refine z_evG 4 (y := z_ild (z_ia E 161 (I, J, RF w) 90) 0 fun vv => z_go 213 [some (.ref 79), some (.ref a), some (.int f), some (.int (nI e)), some (.int (nI k)), some (.int (nI i)), x6] [.int vv] 161 (I, J, RF w)) (fun _ => rfl) ?_
  refine z_evBn (N := 160) (f := (I 90)) (k := 0) rfl rfl (by decide) ?_
  refine z_evL ?_
  refine z_evG 1 (y := some (.inr (some (.int (I 90 0)), 161, I, J, RF w))) (fun _ => rfl) ?_
  exact z_evR rfl
theorem s_Ls_u' {I : Nat → Nat → Int32} {m : Nat} {x : Int32} {L : List Int32} (h : s_Ls (I 90) L) (q : L.length ≤ m) : s_Ls (z_u2 I 90 m x 90) L := s_Ls_u h q
theorem x_vaQ (E : zE) (d : Nat) (J : Nat → Nat → Int64) (w a e : Nat) (f : Int32) (fa : Nat → Int32) (ha : z_A a 160) (hne : a ≠ 90) (he : e ≤ 160) {v : Int32} : ∀ (c K : List Int32) (i : Nat) (x6 : Option Value) (I : Nat → Nat → Int32), i + c.length = e → (∀ j, j < c.length → I a (i + j) = c.getD j 0) → (∀ j, j < 6 → I 89 j = fa j) → s_Ls (I 90) K → K.length + c.length ≤ 160 → s_ex fa c K = some [v] → ∃ I', z_Ev E (d + 2) z_m91 6 [some (.ref 79), some (.ref a), some (.int f), some (.int (nI e)), some (.int (nI K.length)), some (.int (nI i)), x6] [] 161 (I, J, RF w) (some (.int v), 161, I', J, RF w) ∧ ∀ b k, b ≠ 90 → I' b k = I b k
  | [], K, i, x6, I, hi, hc, hf, hK, hl, h => by
    have e' : K = [v] := by injection h
    subst e'
    have t := x_va_end E d I J w a e 1 i f x6 ha (by simp at hi; omega) (by simp at hi; omega)
    rw [show I 90 0 = v from hK.1] at t
    exact ⟨I, t, fun _ _ _ => rfl⟩
  | o :: c, K, i, x6, I, hi, hc, hf, hK, hl, h => by
    simp only [List.length_cons] at hi hl
    have ho : I a i = o := hc 0 (by simp)
    have hc' : ∀ (I' : Nat → Nat → Int32), (∀ b k, b ≠ 90 → I' b k = I b k) → ∀ j, j < c.length → I' a (i + 1 + j) = c.getD j 0 := by
      intro I' h' j hj
      rw [h' a _ hne, show i + 1 + j = i + (j + 1) by omega, hc (j + 1) (by simp; omega)]
      rfl
    have up : ∀ m x b k, b ≠ 90 → z_u2 I 90 m x b k = I b k := fun m x b k q => z_u2_n I x (fun r => q r.1)
    have hf' : ∀ m x j, j < 6 → z_u2 I 90 m x 89 j = fa j := fun m x j hj => (up m x 89 j (by decide)).trans (hf j hj)
    cases r : s_ord fa o K with
    | none => change (s_ord fa o K).bind _ = _ at h; rw [r] at h; cases h
    | some K1 =>
      change (s_ord fa o K).bind _ = _ at h
      rw [r] at h
      have go : ∀ m x, K1.length + c.length ≤ 160 → s_Ls (z_u2 I 90 m x 90) K1 → ∃ I', z_Ev E (d + 2) z_m91 6 [some (.ref 79), some (.ref a), some (.int f), some (.int (nI e)), some (.int (nI K1.length)), some (.int (nI (i + 1))), some (.int o)] [] 161 (z_u2 I 90 m x, J, RF w) (some (.int v), 161, I', J, RF w) ∧ ∀ b k, b ≠ 90 → I' b k = I b k := by
        intro m x h1 h2
        obtain ⟨I', e1, e2⟩ := x_vaQ E d J w a e f fa ha hne he c K1 (i + 1) (some (.int o)) (z_u2 I 90 m x) (by omega) (hc' _ (up m x)) (hf' m x) h2 h1 h
        exact ⟨I', e1, fun b k q => (e2 b k q).trans (up m x b k q)⟩
      unfold s_ord at r
      by_cases h0 : o < 0
      · rw [if_neg (not_not_intro h0)] at r
        by_cases hN : ¬ -o < 8 ∧ ¬ 13 < -o
        · rw [if_pos hN] at r
          have r' : K1 = fa (-o - 8).toNatClampNeg :: K := by injection r with r; exact r.symm
          subst r'
          obtain ⟨m, hm, h_m⟩ : ∃ m, m < 6 ∧ -o - 8 = nI m := by
            obtain ⟨m, hm, e1⟩ := z_hs_of (i := -o) (n := 14) ⟨by
              have := hN.1; rw [Int32.lt_iff_toInt_lt] at this; have e8 : (8 : Int32).toInt = 8 := rfl; omega, by
              have := hN.2; rw [Int32.lt_iff_toInt_lt] at this; have e8 : (13 : Int32).toInt = 13 := rfl; omega⟩
            have l8 : 8 ≤ m := by
              have := hN.1
              rw [show (-o < 8) ↔ m < 8 from z_ltN e1 rfl (by omega) (by decide)] at this
              omega
            exact ⟨m - 8, by omega, z_subE (b := 8) e1 rfl l8⟩
          obtain ⟨I', e1, e2⟩ := go K.length (I 89 m) (by simp only [List.length_cons]; omega) ⟨by rw [z_u2_same, hf m hm, h_m, z_natE rfl (by omega)], s_Ls_u hK (Nat.le_refl _)⟩
          exact ⟨I', x_va_fact E d I J w a e K.length i m f o x6 ha (by omega) he ho (by omega) h0 hN h_m hm e1, e2⟩
        · rw [if_neg hN] at r
          by_cases hU : o = -14 ∨ o = -7
          · rw [if_pos hU] at r
            cases K with
            | nil => cases r
            | cons y K =>
              have r' : K1 = (if o = -7 then (if y = 0 then 1 else 0) else -y) :: K := by injection r with r; exact r.symm
              subst r'
              simp only [List.length_cons] at hl
              by_cases h7 : o = -7
              · rw [if_pos h7] at go
                by_cases hy : y = 0
                · rw [if_pos hy] at go
                  obtain ⟨I', e1, e2⟩ := go K.length 1 (by simp only [List.length_cons]; omega) ⟨z_u2_same I 90 K.length 1, s_Ls_u hK.2 (Nat.le_refl _)⟩
                  exact ⟨I', x_va_not1 E d I J w a e K.length i f o x6 ha (by omega) he ho (by omega) h0 hN h7 (hK.1.trans hy) e1, e2⟩
                · rw [if_neg hy] at go
                  obtain ⟨I', e1, e2⟩ := go K.length 0 (by simp only [List.length_cons]; omega) ⟨z_u2_same I 90 K.length 0, s_Ls_u hK.2 (Nat.le_refl _)⟩
                  exact ⟨I', x_va_not0 E d I J w a e K.length i f o x6 ha (by omega) he ho (by omega) h0 hN h7 (fun q => hy (hK.1.symm.trans q)) e1, e2⟩
              · rw [if_neg h7] at go
                have h14 : o = -14 := hU.elim id (fun q => absurd q h7)
                obtain ⟨I', e1, e2⟩ := go K.length (-(I 90 K.length)) (by simp only [List.length_cons]; omega) ⟨by rw [z_u2_same]; exact congrArg (fun q => -q) hK.1, s_Ls_u hK.2 (Nat.le_refl _)⟩
                exact ⟨I', x_va_neg E d I J w a e K.length i f o x6 ha (by omega) he ho (by omega) h0 hN h14 e1, e2⟩
          · rw [if_neg hU] at r
            cases K with
            | nil => cases r
            | cons y K => cases K with
              | nil => cases r
              | cons x K =>
                have r' : K1 = s_jc (-o) x y :: K := by injection r with r; exact r.symm
                subst r'
                simp only [List.length_cons] at hl
                obtain ⟨I', e1, e2⟩ := go K.length (s_jc (-o) (I 90 K.length) (I 90 (K.length + 1))) (by simp only [List.length_cons]; omega) ⟨by rw [z_u2_same, show I 90 K.length = x from hK.2.1, show I 90 (K.length + 1) = y from hK.1], s_Ls_u hK.2.2 (Nat.le_refl _)⟩
                exact ⟨I', x_va_bin1 E d I J w a e K.length i f o (nI (K.length + 2)) x6 ha (by omega) he ho (by omega) rfl h0 hN (fun q => hU (.inl q)) (fun q => hU (.inr q)) (x_va_dec E d J w I _ a f (nI e) (nI (K.length + 2)) (nI i) o (nI (K.length + 1)) (z_decE (n := K.length + 1) rfl) (x_va_bin2 E d I J w a e K.length i f o (by omega) e1)), e2⟩
      · rw [if_pos h0] at r
        have r' : K1 = o :: K := by injection r with r; exact r.symm
        subst r'
        obtain ⟨I', e1, e2⟩ := go K.length o (by simp only [List.length_cons]; omega) ⟨z_u2_same I 90 K.length o, s_Ls_u hK (Nat.le_refl _)⟩
        exact ⟨I', x_va_num E d I J w a e K.length i f o x6 ha (by omega) he ho (by omega) h0 e1, e2⟩
set_option maxRecDepth 20000 in
theorem x_va_st (E : zE) (d : Nat) (I : Nat → Nat → Int32) (J : Nat → Nat → Int64) (w : Nat) {r : zR} (a f e : Nat) (hz : z_Ev E (d + 2) z_m91 6 [some (.ref 79), some (.ref a), some (.int (nI f)), some (.int (nI e)), some (.int 0), some (.int (nI f)), none] [] 161 (I, J, RF w) r) : z_Ev E (d + 2) z_m91 0 [some (.ref 79), some (.ref a), some (.int (nI f)), some (.int (nI e)), none, none, none] [] 161 (I, J, RF w) r := by
  refine z_evG 4 (y := z_go 6 [some (.ref 79), some (.ref a), some (.int (nI f)), some (.int (nI e)), some (.int 0), some (.int (nI f)), none] [] 161 (I, J, RF w)) (fun _ => rfl) ?_
  refine z_evL ?_
  exact hz
theorem x_valueQ (E : zE) (d : Nat) (J : Nat → Nat → Int64) (w a f e : Nat) (fa : Nat → Int32) (ha : z_A a 160) (hne : a ≠ 90) (he : e ≤ 160) {v : Int32} {c : List Int32} {I : Nat → Nat → Int32} (hi : f + c.length = e) (hc : ∀ j, j < c.length → I a (f + j) = c.getD j 0) (hf : ∀ j, j < 6 → I 89 j = fa j) (h : s_ex fa c [] = some [v]) : ∃ I', z_cl E (d + 3) 91 [.ref 79, .ref a, .int (nI f), .int (nI e)] (161, I, J, RF w) = some (some (.int v), 161, I', J, RF w) ∧ ∀ b k, b ≠ 90 → I' b k = I b k := by
  obtain ⟨I', e1, e2⟩ := x_vaQ E d J w a e (nI f) fa ha hne he c [] f none I hi hc hf trivial (by simp; omega) h
  exact ⟨I', z_call (d := d + 2) (M := z_m91) rfl rfl (x_va_st E d I J w a f e e1), e2⟩
