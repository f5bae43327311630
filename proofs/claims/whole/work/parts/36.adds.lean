-- THINGS, EYES, PLATES, AGES: what is told
set_option maxRecDepth 20000 in
/-- LampHouse$Things.add -/
theorem x_things_add (E : zE) (d : Nat) (I : Nat → Nat → Int32) (J : Nat → Nat → Int64) (w : Nat) (k i v o : Int32) (n : Nat) (h_n : I 37 7 = nI n) (hl_n : n < 20) : z_cl E (d + 1) 112 [.ref 37, .int k, .int i, .int v, .int o] (161, I, J, RF w) = some (some (.int (nI n)), 161, (z_u2 (z_u2 (z_u2 (z_u2 (z_u2 (z_u2 I 38 n k) 39 n i) 40 n v) 41 n o) 42 n 65535) 37 7 (nI (n + 1))), J, RF w) := by
  refine z_call (d := d + 0) (M := z_m112) rfl rfl ?_
  refine z_evG 6 (y := z_ck (z_in (I 37 7) 20) (z_go 10 [some (.ref 37), some (.int k), some (.int i), some (.int v), some (.int o)] [] 161 ((z_u2 I 38 ((I 37 7).toNatClampNeg) k), J, RF w))) (fun _ => rfl) ?_
  refine z_evC (z_inN (k := n) h_n (by omega) (by decide)) ?_
  refine z_evL ?_
  rw [show ((I 37 7 : Int32)).toNatClampNeg = n from z_natE h_n (by omega)]
  refine z_evG 6 (y := z_ck (z_in (I 37 7) 20) (z_go 20 [some (.ref 37), some (.int k), some (.int i), some (.int v), some (.int o)] [] 161 ((z_u2 (z_u2 I 38 n k) 39 ((I 37 7).toNatClampNeg) i), J, RF w))) (fun _ => rfl) ?_
  refine z_evC (z_inN (k := n) h_n (by omega) (by decide)) ?_
  refine z_evL ?_
  rw [show ((I 37 7 : Int32)).toNatClampNeg = n from z_natE h_n (by omega)]
  refine z_evG 6 (y := z_ck (z_in (I 37 7) 20) (z_go 30 [some (.ref 37), some (.int k), some (.int i), some (.int v), some (.int o)] [] 161 ((z_u2 (z_u2 (z_u2 I 38 n k) 39 n i) 40 ((I 37 7).toNatClampNeg) v), J, RF w))) (fun _ => rfl) ?_
  refine z_evC (z_inN (k := n) h_n (by omega) (by decide)) ?_
  refine z_evL ?_
  rw [show ((I 37 7 : Int32)).toNatClampNeg = n from z_natE h_n (by omega)]
  refine z_evG 6 (y := z_ck (z_in (I 37 7) 20) (z_go 41 [some (.ref 37), some (.int k), some (.int i), some (.int v), some (.int o)] [] 161 ((z_u2 (z_u2 (z_u2 (z_u2 I 38 n k) 39 n i) 40 n v) 41 ((I 37 7).toNatClampNeg) o), J, RF w))) (fun _ => rfl) ?_
  refine z_evC (z_inN (k := n) h_n (by omega) (by decide)) ?_
  refine z_evL ?_
  rw [show ((I 37 7 : Int32)).toNatClampNeg = n from z_natE h_n (by omega)]
  refine z_evG 6 (y := z_ck (z_in (I 37 7) 20) (z_go 52 [some (.ref 37), some (.int k), some (.int i), some (.int v), some (.int o)] [] 161 ((z_u2 (z_u2 (z_u2 (z_u2 (z_u2 I 38 n k) 39 n i) 40 n v) 41 n o) 42 ((I 37 7).toNatClampNeg) 65535), J, RF w))) (fun _ => rfl) ?_
  refine z_evC (z_inN (k := n) h_n (by omega) (by decide)) ?_
  refine z_evL ?_
  rw [show ((I 37 7 : Int32)).toNatClampNeg = n from z_natE h_n (by omega)]
  refine z_evG 8 (y := some (.inr (some (.int (I 37 7)), 161, (z_u2 (z_u2 (z_u2 (z_u2 (z_u2 (z_u2 I 38 n k) 39 n i) 40 n v) 41 n o) 42 n 65535) 37 7 ((I 37 7) + 1)), J, RF w))) (fun _ => rfl) ?_
  rw [show ((I 37 7) + 1 : Int32) = nI (n + 1) from (z_addE h_n rfl)]
  rw [show (I 37 7 : Int32) = nI n from h_n]
  exact z_evR rfl
set_option maxRecDepth 20000 in
/-- LampHouse$Plates.add -/
theorem x_plates_add (E : zE) (d : Nat) (I : Nat → Nat → Int32) (J : Nat → Nat → Int64) (w : Nat) (a b : Int32) (n : Nat) (h_n : I 106 6 = nI n) (hl_n : n < 10) : z_cl E (d + 1) 49 [.ref 106, .int a, .int b] (161, I, J, RF w) = some (some (.int (nI n)), 161, (z_u2 (z_u2 (z_u2 I 107 n a) 108 n b) 106 6 (nI (n + 1))), J, RF w) := by
  refine z_call (d := d + 0) (M := z_m49) rfl rfl ?_
  refine z_evG 6 (y := z_ck (z_in (I 106 6) 10) (z_go 10 [some (.ref 106), some (.int a), some (.int b)] [] 161 ((z_u2 I 107 ((I 106 6).toNatClampNeg) a), J, RF w))) (fun _ => rfl) ?_
  refine z_evC (z_inN (k := n) h_n (by omega) (by decide)) ?_
  refine z_evL ?_
  rw [show ((I 106 6 : Int32)).toNatClampNeg = n from z_natE h_n (by omega)]
  refine z_evG 6 (y := z_ck (z_in (I 106 6) 10) (z_go 20 [some (.ref 106), some (.int a), some (.int b)] [] 161 ((z_u2 (z_u2 I 107 n a) 108 ((I 106 6).toNatClampNeg) b), J, RF w))) (fun _ => rfl) ?_
  refine z_evC (z_inN (k := n) h_n (by omega) (by decide)) ?_
  refine z_evL ?_
  rw [show ((I 106 6 : Int32)).toNatClampNeg = n from z_natE h_n (by omega)]
  refine z_evG 8 (y := some (.inr (some (.int (I 106 6)), 161, (z_u2 (z_u2 (z_u2 I 107 n a) 108 n b) 106 6 ((I 106 6) + 1)), J, RF w))) (fun _ => rfl) ?_
  rw [show ((I 106 6) + 1 : Int32) = nI (n + 1) from (z_addE h_n rfl)]
  rw [show (I 106 6 : Int32) = nI n from h_n]
  exact z_evR rfl
set_option maxRecDepth 20000 in
/-- LampHouse$Ages.add -/
theorem x_ages_add (E : zE) (d : Nat) (I : Nat → Nat → Int32) (J : Nat → Nat → Int64) (w : Nat) (t h v : Int32) (n : Nat) (h_n : I 33 3 = nI n) (hl_n : n < 40) : z_cl E (d + 1) 3 [.ref 33, .int t, .int h, .int v] (161, I, J, RF w) = some (some (.int (nI (n + 1))), 161, (z_u2 (z_u2 (z_u2 (z_u2 I 34 n t) 35 n h) 36 n v) 33 3 (nI (n + 1))), J, RF w) := by
  refine z_call (d := d + 0) (M := z_m3) rfl rfl ?_
  refine z_evG 6 (y := z_ck (z_in (I 33 3) 40) (z_go 10 [some (.ref 33), some (.int t), some (.int h), some (.int v)] [] 161 ((z_u2 I 34 ((I 33 3).toNatClampNeg) t), J, RF w))) (fun _ => rfl) ?_
  refine z_evC (z_inN (k := n) h_n (by omega) (by decide)) ?_
  refine z_evL ?_
  rw [show ((I 33 3 : Int32)).toNatClampNeg = n from z_natE h_n (by omega)]
  refine z_evG 6 (y := z_ck (z_in (I 33 3) 40) (z_go 20 [some (.ref 33), some (.int t), some (.int h), some (.int v)] [] 161 ((z_u2 (z_u2 I 34 n t) 35 ((I 33 3).toNatClampNeg) h), J, RF w))) (fun _ => rfl) ?_
  refine z_evC (z_inN (k := n) h_n (by omega) (by decide)) ?_
  refine z_evL ?_
  rw [show ((I 33 3 : Int32)).toNatClampNeg = n from z_natE h_n (by omega)]
  refine z_evG 6 (y := z_ck (z_in (I 33 3) 40) (z_go 30 [some (.ref 33), some (.int t), some (.int h), some (.int v)] [] 161 ((z_u2 (z_u2 (z_u2 I 34 n t) 35 n h) 36 ((I 33 3).toNatClampNeg) v), J, RF w))) (fun _ => rfl) ?_
  refine z_evC (z_inN (k := n) h_n (by omega) (by decide)) ?_
  refine z_evL ?_
  rw [show ((I 33 3 : Int32)).toNatClampNeg = n from z_natE h_n (by omega)]
  refine z_evG 9 (y := some (.inr (some (.int ((I 33 3) + 1)), 161, (z_u2 (z_u2 (z_u2 (z_u2 I 34 n t) 35 n h) 36 n v) 33 3 ((I 33 3) + 1)), J, RF w))) (fun _ => rfl) ?_
  rw [show ((I 33 3) + 1 : Int32) = nI (n + 1) from (z_addE h_n rfl)]
  exact z_evR rfl
set_option maxRecDepth 20000 in
/-- LampHouse$Eyes.add -/
theorem x_eyes_addT (E : zE) (d : Nat) (I : Nat → Nat → Int32) (J : Nat → Nat → Int64) (w : Nat) (a b c : Int32) (n : Nat) (h_n : I 65 3 = nI n) (hl_n : n < 8) (hc : ¬ c = (-1)) : z_cl E (d + 1) 19 [.ref 65, .int a, .int b, .int c] (161, I, J, RF w) = some (some (.int (nI n)), 161, (z_u2 (z_u2 (z_u2 (z_u2 (z_u2 I (67 + n) 0 a) (67 + n) 1 b) (67 + n) 2 c) 75 n 3) 65 3 (nI (n + 1))), J, RF w) := by
  refine z_call (d := d + 0) (M := z_m19) rfl rfl ?_
  refine z_evG 5 (y := z_ck (z_in (I 65 3) 8) (z_go 9 [some (.ref 65), some (.int a), some (.int b), some (.int c)] [.ref (67 + (I 65 3).toNatClampNeg)] 161 (I, J, RF w))) (fun _ => rfl) ?_
  refine z_evC (z_inN (k := n) h_n (by omega) (by decide)) ?_
  refine z_evL ?_
  rw [show ((I 65 3 : Int32)).toNatClampNeg = n from z_natE h_n (by omega)]
  refine z_evG 3 (y := z_ck (z_isA 161 (I, J, RF w) (67 + n) 0 && z_in 0 (z_SH (67 + n)).2) (z_go 12 [some (.ref 65), some (.int a), some (.int b), some (.int c)] [] 161 ((z_u2 I (67 + n) ((0 : Int32).toNatClampNeg) a), J, RF w))) (fun _ => rfl) ?_
  refine z_evC (z_stA (z_A_takers n (by omega)) (z_inN (k := 0) rfl (by decide) (by decide))) ?_
  refine z_evL ?_
  rw [show ((0 : Int32)).toNatClampNeg = 0 from rfl]
  refine z_evG 5 (y := z_ck (z_in ((z_u2 I (67 + n) 0 a) 65 3) 8) (z_go 21 [some (.ref 65), some (.int a), some (.int b), some (.int c)] [.ref (67 + ((z_u2 I (67 + n) 0 a) 65 3).toNatClampNeg)] 161 ((z_u2 I (67 + n) 0 a), J, RF w))) (fun _ => rfl) ?_
  refine z_evC (z_inN (k := n) ((z_u2_n _ _ (by omega)).trans h_n) (by omega) (by decide)) ?_
  refine z_evL ?_
  rw [show (((z_u2 I (67 + n) 0 a) 65 3 : Int32)).toNatClampNeg = n from z_natE ((z_u2_n _ _ (by omega)).trans h_n) (by omega)]
  refine z_evG 3 (y := z_ck (z_isA 161 ((z_u2 I (67 + n) 0 a), J, RF w) (67 + n) 0 && z_in 1 (z_SH (67 + n)).2) (z_go 24 [some (.ref 65), some (.int a), some (.int b), some (.int c)] [] 161 ((z_u2 (z_u2 I (67 + n) 0 a) (67 + n) ((1 : Int32).toNatClampNeg) b), J, RF w))) (fun _ => rfl) ?_
  refine z_evC (z_stA (z_A_takers n (by omega)) (z_inN (k := 1) rfl (by decide) (by decide))) ?_
  refine z_evL ?_
  rw [show ((1 : Int32)).toNatClampNeg = 1 from rfl]
  refine z_evG 5 (y := z_ck (z_in ((z_u2 (z_u2 I (67 + n) 0 a) (67 + n) 1 b) 65 3) 8) (z_go 33 [some (.ref 65), some (.int a), some (.int b), some (.int c)] [.ref (67 + ((z_u2 (z_u2 I (67 + n) 0 a) (67 + n) 1 b) 65 3).toNatClampNeg)] 161 ((z_u2 (z_u2 I (67 + n) 0 a) (67 + n) 1 b), J, RF w))) (fun _ => rfl) ?_
  refine z_evC (z_inN (k := n) (((z_u2_n _ _ (by omega)).trans (z_u2_n _ _ (by omega))).trans h_n) (by omega) (by decide)) ?_
  refine z_evL ?_
  rw [show (((z_u2 (z_u2 I (67 + n) 0 a) (67 + n) 1 b) 65 3 : Int32)).toNatClampNeg = n from z_natE (((z_u2_n _ _ (by omega)).trans (z_u2_n _ _ (by omega))).trans h_n) (by omega)]
  refine z_evG 3 (y := z_ck (z_isA 161 ((z_u2 (z_u2 I (67 + n) 0 a) (67 + n) 1 b), J, RF w) (67 + n) 0 && z_in 2 (z_SH (67 + n)).2) (z_go 36 [some (.ref 65), some (.int a), some (.int b), some (.int c)] [] 161 ((z_u2 (z_u2 (z_u2 I (67 + n) 0 a) (67 + n) 1 b) (67 + n) ((2 : Int32).toNatClampNeg) c), J, RF w))) (fun _ => rfl) ?_
  refine z_evC (z_stA (z_A_takers n (by omega)) (z_inN (k := 2) rfl (by decide) (by decide))) ?_
  refine z_evL ?_
  rw [show ((2 : Int32)).toNatClampNeg = 2 from rfl]
  refine z_evG 7 (y := if c = (-1) then z_go 49 [some (.ref 65), some (.int a), some (.int b), some (.int c)] [.int ((z_u2 (z_u2 (z_u2 I (67 + n) 0 a) (67 + n) 1 b) (67 + n) 2 c) 65 3), .ref 75] 161 ((z_u2 (z_u2 (z_u2 I (67 + n) 0 a) (67 + n) 1 b) (67 + n) 2 c), J, RF w) else z_go 53 [some (.ref 65), some (.int a), some (.int b), some (.int c)] [.int ((z_u2 (z_u2 (z_u2 I (67 + n) 0 a) (67 + n) 1 b) (67 + n) 2 c) 65 3), .ref 75] 161 ((z_u2 (z_u2 (z_u2 I (67 + n) 0 a) (67 + n) 1 b) (67 + n) 2 c), J, RF w)) (fun _ => rfl) ?_
  refine z_evF (hc) ?_
  refine z_evL ?_
  refine z_evG 2 (y := z_ck (z_in ((z_u2 (z_u2 (z_u2 I (67 + n) 0 a) (67 + n) 1 b) (67 + n) 2 c) 65 3) 8) (z_go 55 [some (.ref 65), some (.int a), some (.int b), some (.int c)] [] 161 ((z_u2 (z_u2 (z_u2 (z_u2 I (67 + n) 0 a) (67 + n) 1 b) (67 + n) 2 c) 75 (((z_u2 (z_u2 (z_u2 I (67 + n) 0 a) (67 + n) 1 b) (67 + n) 2 c) 65 3).toNatClampNeg) 3), J, RF w))) (fun _ => rfl) ?_
  refine z_evC (z_inN (k := n) (((z_u2_n _ _ (by omega)).trans ((z_u2_n _ _ (by omega)).trans (z_u2_n _ _ (by omega)))).trans h_n) (by omega) (by decide)) ?_
  refine z_evL ?_
  rw [show (((z_u2 (z_u2 (z_u2 I (67 + n) 0 a) (67 + n) 1 b) (67 + n) 2 c) 65 3 : Int32)).toNatClampNeg = n from z_natE (((z_u2_n _ _ (by omega)).trans ((z_u2_n _ _ (by omega)).trans (z_u2_n _ _ (by omega)))).trans h_n) (by omega)]
  refine z_evG 8 (y := some (.inr (some (.int ((z_u2 (z_u2 (z_u2 I (67 + n) 0 a) (67 + n) 1 b) (67 + n) 2 c) 65 3)), 161, (z_u2 (z_u2 (z_u2 (z_u2 (z_u2 I (67 + n) 0 a) (67 + n) 1 b) (67 + n) 2 c) 75 n 3) 65 3 (((z_u2 (z_u2 (z_u2 I (67 + n) 0 a) (67 + n) 1 b) (67 + n) 2 c) 65 3) + 1)), J, RF w))) (fun _ => rfl) ?_
  rw [show (((z_u2 (z_u2 (z_u2 I (67 + n) 0 a) (67 + n) 1 b) (67 + n) 2 c) 65 3) + 1 : Int32) = nI (n + 1) from (z_addE (((z_u2_n _ _ (by omega)).trans ((z_u2_n _ _ (by omega)).trans (z_u2_n _ _ (by omega)))).trans h_n) rfl)]
  rw [show ((z_u2 (z_u2 (z_u2 I (67 + n) 0 a) (67 + n) 1 b) (67 + n) 2 c) 65 3 : Int32) = nI n from (((z_u2_n _ _ (by omega)).trans ((z_u2_n _ _ (by omega)).trans (z_u2_n _ _ (by omega)))).trans h_n)]
  exact z_evR rfl
set_option maxRecDepth 20000 in
/-- LampHouse.thing -/
theorem x_thing_bad (E : zE) (d : Nat) (I : Nat → Nat → Int32) (J : Nat → Nat → Int64) (w : Nat) (k i v : Int32) (hbad : ¬ ((¬ k < 0 ∧ k < 6) ∧ (¬ i < 0 ∧ i < I 1 1) ∧ (¬ v < 0) ∧ (v < 100))) : z_cl E (d + 2) 131 [.ref 0, .int k, .int i, .int v] (161, I, J, RF w) = some (some (.int (-2)), 161, I, J, RF w) := by
  refine z_call (d := d + 1) (M := z_m131) rfl rfl ?_
  refine z_evG 2 (y := z_ret (z_cl E (d + 1) 105 [.int k] (161, (I, J, RF w))) 4 [some (.ref 0), some (.int k), some (.int i), some (.int v)] []) (fun _ => rfl) ?_
  refine z_evK (v := .int (z_bo (¬ k < 0 ∧ k < 6))) (z' := 161) (σ' := (I, J, RF w)) (x_isKind E d I J w k) ?_
  refine z_evG 1 (y := if (z_bo (¬ k < 0 ∧ k < 6)) = 0 then z_go 28 [some (.ref 0), some (.int k), some (.int i), some (.int v)] [] 161 (I, J, RF w) else z_go 7 [some (.ref 0), some (.int k), some (.int i), some (.int v)] [] 161 (I, J, RF w)) (fun _ => rfl) ?_
  refine z_evO (fun h1 => ?_) (fun h1 => ?_)
  · refine z_evL ?_
    refine z_evG 2 (y := some (.inr (some (.int (-2)), 161, I, J, RF w))) (fun _ => rfl) ?_
    exact z_evR rfl
  · refine z_evL ?_
    refine z_evG 4 (y := z_ret (z_cl E (d + 1) 8 [.ref 1, .int i] (161, (I, J, RF w))) 15 [some (.ref 0), some (.int k), some (.int i), some (.int v)] []) (fun _ => rfl) ?_
    refine z_evK (v := .int (z_bo (¬ i < 0 ∧ i < I 1 1))) (z' := 161) (σ' := (I, J, RF w)) (x_rows_has E d I J w i) ?_
    refine z_evG 1 (y := if (z_bo (¬ i < 0 ∧ i < I 1 1)) = 0 then z_go 28 [some (.ref 0), some (.int k), some (.int i), some (.int v)] [] 161 (I, J, RF w) else z_go 18 [some (.ref 0), some (.int k), some (.int i), some (.int v)] [] 161 (I, J, RF w)) (fun _ => rfl) ?_
    refine z_evO (fun h2 => ?_) (fun h2 => ?_)
    · refine z_evL ?_
      refine z_evG 2 (y := some (.inr (some (.int (-2)), 161, I, J, RF w))) (fun _ => rfl) ?_
      exact z_evR rfl
    · refine z_evL ?_
      refine z_evG 2 (y := if v < 0 then z_go 28 [some (.ref 0), some (.int k), some (.int i), some (.int v)] [] 161 (I, J, RF w) else z_go 22 [some (.ref 0), some (.int k), some (.int i), some (.int v)] [] 161 (I, J, RF w)) (fun _ => rfl) ?_
      refine z_evI (fun h3 => ?_) (fun h3 => ?_)
      · refine z_evL ?_
        refine z_evG 2 (y := some (.inr (some (.int (-2)), 161, I, J, RF w))) (fun _ => rfl) ?_
        exact z_evR rfl
      · refine z_evL ?_
        refine z_evG 3 (y := if v < 100 then z_go 31 [some (.ref 0), some (.int k), some (.int i), some (.int v)] [] 161 (I, J, RF w) else z_go 28 [some (.ref 0), some (.int k), some (.int i), some (.int v)] [] 161 (I, J, RF w)) (fun _ => rfl) ?_
        refine z_evI (fun h4 => ?_) (fun h4 => ?_)
        · refine z_evL ?_
          exact absurd ⟨h1, h2, h3, h4⟩ hbad
        · refine z_evL ?_
          refine z_evG 2 (y := some (.inr (some (.int (-2)), 161, I, J, RF w))) (fun _ => rfl) ?_
          exact z_evR rfl
set_option maxRecDepth 20000 in
/-- LampHouseModel.thing -/
theorem m_thing_bad (E : zE) (d : Nat) (I : Nat → Nat → Int32) (J : Nat → Nat → Int64) (w : Nat) (k i v : Int32) (hbad : ¬ ((¬ k < 0 ∧ ¬ 5 < k) ∧ (¬ i < 0 ∧ ¬ I 127 1 - 1 < i) ∧ (¬ v < 0 ∧ ¬ 99 < v))) : z_cl E (d + 3) 187 [.ref 127, .int k, .int i, .int v] (161, I, J, RF w) = some (some (.int (-2)), 161, I, J, RF w) := by
  refine z_call (d := d + 2) (M := z_m187) rfl rfl ?_
  refine z_evG 4 (y := z_ret (z_cl E (d + 2) 178 [.int k, .int 0, .int 5] (161, (I, J, RF w))) 6 [some (.ref 127), some (.int k), some (.int i), some (.int v)] []) (fun _ => rfl) ?_
  refine z_evK (v := .int (z_bo (¬ k < 0 ∧ ¬ 5 < k))) (z' := 161) (σ' := (I, J, RF w)) (m_in E (d + 1) I J w k 0 5) ?_
  refine z_evG 1 (y := if (z_bo (¬ k < 0 ∧ ¬ 5 < k)) = 0 then z_go 27 [some (.ref 127), some (.int k), some (.int i), some (.int v)] [] 161 (I, J, RF w) else z_go 9 [some (.ref 127), some (.int k), some (.int i), some (.int v)] [] 161 (I, J, RF w)) (fun _ => rfl) ?_
  refine z_evO (fun h1 => ?_) (fun h1 => ?_)
  · refine z_evL ?_
    refine z_evG 2 (y := some (.inr (some (.int (-2)), 161, I, J, RF w))) (fun _ => rfl) ?_
    exact z_evR rfl
  · refine z_evL ?_
    refine z_evG 3 (y := z_ret (z_cl E (d + 2) 182 [.ref 127, .int i] (161, (I, J, RF w))) 14 [some (.ref 127), some (.int k), some (.int i), some (.int v)] []) (fun _ => rfl) ?_
    refine z_evK (v := .int (z_bo (¬ i < 0 ∧ ¬ I 127 1 - 1 < i))) (z' := 161) (σ' := (I, J, RF w)) (m_isRow E d I J w i) ?_
    refine z_evG 1 (y := if (z_bo (¬ i < 0 ∧ ¬ I 127 1 - 1 < i)) = 0 then z_go 27 [some (.ref 127), some (.int k), some (.int i), some (.int v)] [] 161 (I, J, RF w) else z_go 17 [some (.ref 127), some (.int k), some (.int i), some (.int v)] [] 161 (I, J, RF w)) (fun _ => rfl) ?_
    refine z_evO (fun h2 => ?_) (fun h2 => ?_)
    · refine z_evL ?_
      refine z_evG 2 (y := some (.inr (some (.int (-2)), 161, I, J, RF w))) (fun _ => rfl) ?_
      exact z_evR rfl
    · refine z_evL ?_
      refine z_evG 4 (y := z_ret (z_cl E (d + 2) 178 [.int v, .int 0, .int 99] (161, (I, J, RF w))) 24 [some (.ref 127), some (.int k), some (.int i), some (.int v)] []) (fun _ => rfl) ?_
      refine z_evK (v := .int (z_bo (¬ v < 0 ∧ ¬ 99 < v))) (z' := 161) (σ' := (I, J, RF w)) (m_in E (d + 1) I J w v 0 99) ?_
      refine z_evG 1 (y := if (z_bo (¬ v < 0 ∧ ¬ 99 < v)) = 0 then z_go 27 [some (.ref 127), some (.int k), some (.int i), some (.int v)] [] 161 (I, J, RF w) else z_go 30 [some (.ref 127), some (.int k), some (.int i), some (.int v)] [] 161 (I, J, RF w)) (fun _ => rfl) ?_
      refine z_evO (fun h3 => ?_) (fun h3 => ?_)
      · refine z_evL ?_
        refine z_evG 2 (y := some (.inr (some (.int (-2)), 161, I, J, RF w))) (fun _ => rfl) ?_
        exact z_evR rfl
      · refine z_evL ?_
        exact absurd ⟨h1, h2, h3⟩ hbad
set_option maxRecDepth 20000 in
/-- LampHouse.thing -/
theorem x_thing_full (E : zE) (d : Nat) (I : Nat → Nat → Int32) (J : Nat → Nat → Int64) (w : Nat) (k i v n m : Nat) (h_n : I 1 1 = nI n) (hm_n : n ≤ 30) (h_m : I 37 7 = nI m) (hm_m : m ≤ 20) (hl_k : k < 6) (hl_i : i < n) (hl_v : v < 100) (hf : m = 20) : z_cl E (d + 2) 131 [.ref 0, .int (nI k), .int (nI i), .int (nI v)] (161, I, J, RF w) = some (some (.int (-4)), 161, I, J, RF w) := by
  refine z_call (d := d + 1) (M := z_m131) rfl rfl ?_
  refine z_evG 2 (y := z_ret (z_cl E (d + 1) 105 [.int (nI k)] (161, (I, J, RF w))) 4 [some (.ref 0), some (.int (nI k)), some (.int (nI i)), some (.int (nI v))] []) (fun _ => rfl) ?_
  refine z_evK (v := .int (z_bo (¬ (nI k) < 0 ∧ (nI k) < 6))) (z' := 161) (σ' := (I, J, RF w)) (x_isKind E d I J w (nI k)) ?_
  refine z_evG 1 (y := if (z_bo (¬ (nI k) < 0 ∧ (nI k) < 6)) = 0 then z_go 28 [some (.ref 0), some (.int (nI k)), some (.int (nI i)), some (.int (nI v))] [] 161 (I, J, RF w) else z_go 7 [some (.ref 0), some (.int (nI k)), some (.int (nI i)), some (.int (nI v))] [] 161 (I, J, RF w)) (fun _ => rfl) ?_
  refine z_evF (fun q => z_bo_0.mp q ⟨(mt (show _ ↔ k < 0 from z_ltN rfl rfl (by omega) (by omega)).mp (by omega)), ((show _ ↔ k < 6 from z_ltN rfl rfl (by omega) (by omega)).mpr (by omega))⟩) ?_
  refine z_evL ?_
  refine z_evG 4 (y := z_ret (z_cl E (d + 1) 8 [.ref 1, .int (nI i)] (161, (I, J, RF w))) 15 [some (.ref 0), some (.int (nI k)), some (.int (nI i)), some (.int (nI v))] []) (fun _ => rfl) ?_
  refine z_evK (v := .int (z_bo (¬ (nI i) < 0 ∧ (nI i) < I 1 1))) (z' := 161) (σ' := (I, J, RF w)) (x_rows_has E d I J w (nI i)) ?_
  refine z_evG 1 (y := if (z_bo (¬ (nI i) < 0 ∧ (nI i) < I 1 1)) = 0 then z_go 28 [some (.ref 0), some (.int (nI k)), some (.int (nI i)), some (.int (nI v))] [] 161 (I, J, RF w) else z_go 18 [some (.ref 0), some (.int (nI k)), some (.int (nI i)), some (.int (nI v))] [] 161 (I, J, RF w)) (fun _ => rfl) ?_
  refine z_evF (fun q => z_bo_0.mp q ⟨(mt (show _ ↔ i < 0 from z_ltN rfl rfl (by omega) (by omega)).mp (by omega)), ((show _ ↔ i < n from z_ltN rfl h_n (by omega) (by omega)).mpr (by omega))⟩) ?_
  refine z_evL ?_
  refine z_evG 2 (y := if (nI v) < 0 then z_go 28 [some (.ref 0), some (.int (nI k)), some (.int (nI i)), some (.int (nI v))] [] 161 (I, J, RF w) else z_go 22 [some (.ref 0), some (.int (nI k)), some (.int (nI i)), some (.int (nI v))] [] 161 (I, J, RF w)) (fun _ => rfl) ?_
  refine z_evF ((mt (show _ ↔ v < 0 from z_ltN rfl rfl (by omega) (by omega)).mp (by omega))) ?_
  refine z_evL ?_
  refine z_evG 3 (y := if (nI v) < 100 then z_go 31 [some (.ref 0), some (.int (nI k)), some (.int (nI i)), some (.int (nI v))] [] 161 (I, J, RF w) else z_go 28 [some (.ref 0), some (.int (nI k)), some (.int (nI i)), some (.int (nI v))] [] 161 (I, J, RF w)) (fun _ => rfl) ?_
  refine z_evT (((show _ ↔ v < 100 from z_ltN rfl rfl (by omega) (by omega)).mpr (by omega))) ?_
  refine z_evL ?_
  refine z_evG 3 (y := z_ret (z_cl E (d + 1) 111 [.ref 37] (161, (I, J, RF w))) 38 [some (.ref 0), some (.int (nI k)), some (.int (nI i)), some (.int (nI v))] []) (fun _ => rfl) ?_
  refine z_evK (v := .int (z_bo (¬ I 37 7 < 20))) (z' := 161) (σ' := (I, J, RF w)) (x_things_isFull E d I J w) ?_
  refine z_evG 1 (y := if (z_bo (¬ I 37 7 < 20)) = 0 then z_go 44 [some (.ref 0), some (.int (nI k)), some (.int (nI i)), some (.int (nI v))] [] 161 (I, J, RF w) else z_go 41 [some (.ref 0), some (.int (nI k)), some (.int (nI i)), some (.int (nI v))] [] 161 (I, J, RF w)) (fun _ => rfl) ?_
  refine z_evF (fun q => z_bo_0.mp q (mt (show _ ↔ m < 20 from z_ltN h_m rfl (by omega) (by omega)).mp (by omega))) ?_
  refine z_evL ?_
  refine z_evG 2 (y := some (.inr (some (.int (-4)), 161, I, J, RF w))) (fun _ => rfl) ?_
  exact z_evR rfl
set_option maxRecDepth 20000 in
/-- LampHouse.thing -/
theorem x_thing_ok (E : zE) (d : Nat) (I : Nat → Nat → Int32) (J : Nat → Nat → Int64) (w : Nat) (k i v n m : Nat) (h_n : I 1 1 = nI n) (hm_n : n ≤ 30) (h_m : I 37 7 = nI m) (hm_m : m ≤ 20) (hl_k : k < 6) (hl_i : i < n) (hl_v : v < 100) (hf : m < 20) : z_cl E (d + 2) 131 [.ref 0, .int (nI k), .int (nI i), .int (nI v)] (161, I, J, RF w) = some (some (.int (nI m)), 161, (z_u2 (z_u2 (z_u2 (z_u2 (z_u2 (z_u2 I 38 m (nI k)) 39 m (nI i)) 40 m (nI v)) 41 m (I 0 13)) 42 m 65535) 37 7 (nI (m + 1))), J, RF w) := by
  refine z_call (d := d + 1) (M := z_m131) rfl rfl ?_
  refine z_evG 2 (y := z_ret (z_cl E (d + 1) 105 [.int (nI k)] (161, (I, J, RF w))) 4 [some (.ref 0), some (.int (nI k)), some (.int (nI i)), some (.int (nI v))] []) (fun _ => rfl) ?_
  refine z_evK (v := .int (z_bo (¬ (nI k) < 0 ∧ (nI k) < 6))) (z' := 161) (σ' := (I, J, RF w)) (x_isKind E d I J w (nI k)) ?_
  refine z_evG 1 (y := if (z_bo (¬ (nI k) < 0 ∧ (nI k) < 6)) = 0 then z_go 28 [some (.ref 0), some (.int (nI k)), some (.int (nI i)), some (.int (nI v))] [] 161 (I, J, RF w) else z_go 7 [some (.ref 0), some (.int (nI k)), some (.int (nI i)), some (.int (nI v))] [] 161 (I, J, RF w)) (fun _ => rfl) ?_
  refine z_evF (fun q => z_bo_0.mp q ⟨(mt (show _ ↔ k < 0 from z_ltN rfl rfl (by omega) (by omega)).mp (by omega)), ((show _ ↔ k < 6 from z_ltN rfl rfl (by omega) (by omega)).mpr (by omega))⟩) ?_
  refine z_evL ?_
  refine z_evG 4 (y := z_ret (z_cl E (d + 1) 8 [.ref 1, .int (nI i)] (161, (I, J, RF w))) 15 [some (.ref 0), some (.int (nI k)), some (.int (nI i)), some (.int (nI v))] []) (fun _ => rfl) ?_
  refine z_evK (v := .int (z_bo (¬ (nI i) < 0 ∧ (nI i) < I 1 1))) (z' := 161) (σ' := (I, J, RF w)) (x_rows_has E d I J w (nI i)) ?_
  refine z_evG 1 (y := if (z_bo (¬ (nI i) < 0 ∧ (nI i) < I 1 1)) = 0 then z_go 28 [some (.ref 0), some (.int (nI k)), some (.int (nI i)), some (.int (nI v))] [] 161 (I, J, RF w) else z_go 18 [some (.ref 0), some (.int (nI k)), some (.int (nI i)), some (.int (nI v))] [] 161 (I, J, RF w)) (fun _ => rfl) ?_
  refine z_evF (fun q => z_bo_0.mp q ⟨(mt (show _ ↔ i < 0 from z_ltN rfl rfl (by omega) (by omega)).mp (by omega)), ((show _ ↔ i < n from z_ltN rfl h_n (by omega) (by omega)).mpr (by omega))⟩) ?_
  refine z_evL ?_
  refine z_evG 2 (y := if (nI v) < 0 then z_go 28 [some (.ref 0), some (.int (nI k)), some (.int (nI i)), some (.int (nI v))] [] 161 (I, J, RF w) else z_go 22 [some (.ref 0), some (.int (nI k)), some (.int (nI i)), some (.int (nI v))] [] 161 (I, J, RF w)) (fun _ => rfl) ?_
  refine z_evF ((mt (show _ ↔ v < 0 from z_ltN rfl rfl (by omega) (by omega)).mp (by omega))) ?_
  refine z_evL ?_
  refine z_evG 3 (y := if (nI v) < 100 then z_go 31 [some (.ref 0), some (.int (nI k)), some (.int (nI i)), some (.int (nI v))] [] 161 (I, J, RF w) else z_go 28 [some (.ref 0), some (.int (nI k)), some (.int (nI i)), some (.int (nI v))] [] 161 (I, J, RF w)) (fun _ => rfl) ?_
  refine z_evT (((show _ ↔ v < 100 from z_ltN rfl rfl (by omega) (by omega)).mpr (by omega))) ?_
  refine z_evL ?_
  refine z_evG 3 (y := z_ret (z_cl E (d + 1) 111 [.ref 37] (161, (I, J, RF w))) 38 [some (.ref 0), some (.int (nI k)), some (.int (nI i)), some (.int (nI v))] []) (fun _ => rfl) ?_
  refine z_evK (v := .int (z_bo (¬ I 37 7 < 20))) (z' := 161) (σ' := (I, J, RF w)) (x_things_isFull E d I J w) ?_
  refine z_evG 1 (y := if (z_bo (¬ I 37 7 < 20)) = 0 then z_go 44 [some (.ref 0), some (.int (nI k)), some (.int (nI i)), some (.int (nI v))] [] 161 (I, J, RF w) else z_go 41 [some (.ref 0), some (.int (nI k)), some (.int (nI i)), some (.int (nI v))] [] 161 (I, J, RF w)) (fun _ => rfl) ?_
  refine z_evT (z_bo_0.mpr (fun q => q ((show _ ↔ m < 20 from z_ltN h_m rfl (by omega) (by omega)).mpr (by omega)))) ?_
  refine z_evL ?_
  refine z_evG 8 (y := z_ret (z_cl E (d + 1) 112 [.ref 37, .int (nI k), .int (nI i), .int (nI v), .int (I 0 13)] (161, (I, J, RF w))) 58 [some (.ref 0), some (.int (nI k)), some (.int (nI i)), some (.int (nI v))] []) (fun _ => rfl) ?_
  refine z_evK (v := .int (nI m)) (z' := 161) (σ' := ((z_u2 (z_u2 (z_u2 (z_u2 (z_u2 (z_u2 I 38 m (nI k)) 39 m (nI i)) 40 m (nI v)) 41 m (I 0 13)) 42 m 65535) 37 7 (nI (m + 1))), J, RF w)) (x_things_add E d I J w (nI k) (nI i) (nI v) (I 0 13) m h_m (by omega)) ?_
  refine z_evG 1 (y := some (.inr (some (.int (nI m)), 161, (z_u2 (z_u2 (z_u2 (z_u2 (z_u2 (z_u2 I 38 m (nI k)) 39 m (nI i)) 40 m (nI v)) 41 m (I 0 13)) 42 m 65535) 37 7 (nI (m + 1))), J, RF w))) (fun _ => rfl) ?_
  exact z_evR rfl
set_option maxRecDepth 20000 in
/-- LampHouseModel.thing -/
theorem m_thing_full (E : zE) (d : Nat) (I : Nat → Nat → Int32) (J : Nat → Nat → Int64) (w : Nat) (k i v n m : Nat) (h_n : I 127 1 = nI n) (hm_n : n ≤ 30) (h_m : I 127 3 = nI m) (hm_m : m ≤ 20) (hl_k : k < 6) (hl_i : i < n) (hl_v : v < 100) (hf : m = 20) : z_cl E (d + 3) 187 [.ref 127, .int (nI k), .int (nI i), .int (nI v)] (161, I, J, RF w) = some (some (.int (-4)), 161, I, J, RF w) := by
  refine z_call (d := d + 2) (M := z_m187) rfl rfl ?_
  refine z_evG 4 (y := z_ret (z_cl E (d + 2) 178 [.int (nI k), .int 0, .int 5] (161, (I, J, RF w))) 6 [some (.ref 127), some (.int (nI k)), some (.int (nI i)), some (.int (nI v))] []) (fun _ => rfl) ?_
  refine z_evK (v := .int (z_bo (¬ (nI k) < 0 ∧ ¬ 5 < (nI k)))) (z' := 161) (σ' := (I, J, RF w)) (m_in E (d + 1) I J w (nI k) 0 5) ?_
  refine z_evG 1 (y := if (z_bo (¬ (nI k) < 0 ∧ ¬ 5 < (nI k))) = 0 then z_go 27 [some (.ref 127), some (.int (nI k)), some (.int (nI i)), some (.int (nI v))] [] 161 (I, J, RF w) else z_go 9 [some (.ref 127), some (.int (nI k)), some (.int (nI i)), some (.int (nI v))] [] 161 (I, J, RF w)) (fun _ => rfl) ?_
  refine z_evF (fun q => z_bo_0.mp q ⟨(mt (show _ ↔ k < 0 from z_ltN rfl rfl (by omega) (by omega)).mp (by omega)), (mt (show _ ↔ 5 < k from z_ltN rfl rfl (by omega) (by omega)).mp (by omega))⟩) ?_
  refine z_evL ?_
  refine z_evG 3 (y := z_ret (z_cl E (d + 2) 182 [.ref 127, .int (nI i)] (161, (I, J, RF w))) 14 [some (.ref 127), some (.int (nI k)), some (.int (nI i)), some (.int (nI v))] []) (fun _ => rfl) ?_
  refine z_evK (v := .int (z_bo (¬ (nI i) < 0 ∧ ¬ I 127 1 - 1 < (nI i)))) (z' := 161) (σ' := (I, J, RF w)) (m_isRow E d I J w (nI i)) ?_
  refine z_evG 1 (y := if (z_bo (¬ (nI i) < 0 ∧ ¬ I 127 1 - 1 < (nI i))) = 0 then z_go 27 [some (.ref 127), some (.int (nI k)), some (.int (nI i)), some (.int (nI v))] [] 161 (I, J, RF w) else z_go 17 [some (.ref 127), some (.int (nI k)), some (.int (nI i)), some (.int (nI v))] [] 161 (I, J, RF w)) (fun _ => rfl) ?_
  refine z_evF (fun q => z_bo_0.mp q ⟨(mt (show _ ↔ i < 0 from z_ltN rfl rfl (by omega) (by omega)).mp (by omega)), (z_plt h_n rfl (by omega) (by omega))⟩) ?_
  refine z_evL ?_
  refine z_evG 4 (y := z_ret (z_cl E (d + 2) 178 [.int (nI v), .int 0, .int 99] (161, (I, J, RF w))) 24 [some (.ref 127), some (.int (nI k)), some (.int (nI i)), some (.int (nI v))] []) (fun _ => rfl) ?_
  refine z_evK (v := .int (z_bo (¬ (nI v) < 0 ∧ ¬ 99 < (nI v)))) (z' := 161) (σ' := (I, J, RF w)) (m_in E (d + 1) I J w (nI v) 0 99) ?_
  refine z_evG 1 (y := if (z_bo (¬ (nI v) < 0 ∧ ¬ 99 < (nI v))) = 0 then z_go 27 [some (.ref 127), some (.int (nI k)), some (.int (nI i)), some (.int (nI v))] [] 161 (I, J, RF w) else z_go 30 [some (.ref 127), some (.int (nI k)), some (.int (nI i)), some (.int (nI v))] [] 161 (I, J, RF w)) (fun _ => rfl) ?_
  refine z_evF (fun q => z_bo_0.mp q ⟨(mt (show _ ↔ v < 0 from z_ltN rfl rfl (by omega) (by omega)).mp (by omega)), (mt (show _ ↔ 99 < v from z_ltN rfl rfl (by omega) (by omega)).mp (by omega))⟩) ?_
  refine z_evL ?_
  refine z_evG 4 (y := if (I 127 3) = 20 then z_go 39 [some (.ref 127), some (.int (nI k)), some (.int (nI i)), some (.int (nI v))] [] 161 (I, J, RF w) else z_go 42 [some (.ref 127), some (.int (nI k)), some (.int (nI i)), some (.int (nI v))] [] 161 (I, J, RF w)) (fun _ => rfl) ?_
  refine z_evT (((show _ ↔ m = 20 from z_eqN h_m rfl (by omega) (by omega)).mpr (by omega))) ?_
  refine z_evL ?_
  refine z_evG 2 (y := some (.inr (some (.int (-4)), 161, I, J, RF w))) (fun _ => rfl) ?_
  exact z_evR rfl
set_option maxRecDepth 20000 in
/-- LampHouseModel.thing -/
theorem m_thing_ok (E : zE) (d : Nat) (I : Nat → Nat → Int32) (J : Nat → Nat → Int64) (w : Nat) (k i v n m : Nat) (h_n : I 127 1 = nI n) (hm_n : n ≤ 30) (h_m : I 127 3 = nI m) (hm_m : m ≤ 20) (hl_k : k < 6) (hl_i : i < n) (hl_v : v < 100) (hf : m < 20) : z_cl E (d + 3) 187 [.ref 127, .int (nI k), .int (nI i), .int (nI v)] (161, I, J, RF w) = some (some (.int (nI m)), 161, (z_u2 (z_u2 (z_u2 (z_u2 (z_u2 (z_u2 I 129 m (nI k)) 130 m (nI i)) 131 m (nI v)) 132 m (I 127 0)) 133 m 65535) 127 3 (nI (m + 1))), J, RF w) := by
  refine z_call (d := d + 2) (M := z_m187) rfl rfl ?_
  refine z_evG 4 (y := z_ret (z_cl E (d + 2) 178 [.int (nI k), .int 0, .int 5] (161, (I, J, RF w))) 6 [some (.ref 127), some (.int (nI k)), some (.int (nI i)), some (.int (nI v))] []) (fun _ => rfl) ?_
  refine z_evK (v := .int (z_bo (¬ (nI k) < 0 ∧ ¬ 5 < (nI k)))) (z' := 161) (σ' := (I, J, RF w)) (m_in E (d + 1) I J w (nI k) 0 5) ?_
  refine z_evG 1 (y := if (z_bo (¬ (nI k) < 0 ∧ ¬ 5 < (nI k))) = 0 then z_go 27 [some (.ref 127), some (.int (nI k)), some (.int (nI i)), some (.int (nI v))] [] 161 (I, J, RF w) else z_go 9 [some (.ref 127), some (.int (nI k)), some (.int (nI i)), some (.int (nI v))] [] 161 (I, J, RF w)) (fun _ => rfl) ?_
  refine z_evF (fun q => z_bo_0.mp q ⟨(mt (show _ ↔ k < 0 from z_ltN rfl rfl (by omega) (by omega)).mp (by omega)), (mt (show _ ↔ 5 < k from z_ltN rfl rfl (by omega) (by omega)).mp (by omega))⟩) ?_
  refine z_evL ?_
  refine z_evG 3 (y := z_ret (z_cl E (d + 2) 182 [.ref 127, .int (nI i)] (161, (I, J, RF w))) 14 [some (.ref 127), some (.int (nI k)), some (.int (nI i)), some (.int (nI v))] []) (fun _ => rfl) ?_
  refine z_evK (v := .int (z_bo (¬ (nI i) < 0 ∧ ¬ I 127 1 - 1 < (nI i)))) (z' := 161) (σ' := (I, J, RF w)) (m_isRow E d I J w (nI i)) ?_
  refine z_evG 1 (y := if (z_bo (¬ (nI i) < 0 ∧ ¬ I 127 1 - 1 < (nI i))) = 0 then z_go 27 [some (.ref 127), some (.int (nI k)), some (.int (nI i)), some (.int (nI v))] [] 161 (I, J, RF w) else z_go 17 [some (.ref 127), some (.int (nI k)), some (.int (nI i)), some (.int (nI v))] [] 161 (I, J, RF w)) (fun _ => rfl) ?_
  refine z_evF (fun q => z_bo_0.mp q ⟨(mt (show _ ↔ i < 0 from z_ltN rfl rfl (by omega) (by omega)).mp (by omega)), (z_plt h_n rfl (by omega) (by omega))⟩) ?_
  refine z_evL ?_
  refine z_evG 4 (y := z_ret (z_cl E (d + 2) 178 [.int (nI v), .int 0, .int 99] (161, (I, J, RF w))) 24 [some (.ref 127), some (.int (nI k)), some (.int (nI i)), some (.int (nI v))] []) (fun _ => rfl) ?_
  refine z_evK (v := .int (z_bo (¬ (nI v) < 0 ∧ ¬ 99 < (nI v)))) (z' := 161) (σ' := (I, J, RF w)) (m_in E (d + 1) I J w (nI v) 0 99) ?_
  refine z_evG 1 (y := if (z_bo (¬ (nI v) < 0 ∧ ¬ 99 < (nI v))) = 0 then z_go 27 [some (.ref 127), some (.int (nI k)), some (.int (nI i)), some (.int (nI v))] [] 161 (I, J, RF w) else z_go 30 [some (.ref 127), some (.int (nI k)), some (.int (nI i)), some (.int (nI v))] [] 161 (I, J, RF w)) (fun _ => rfl) ?_
  refine z_evF (fun q => z_bo_0.mp q ⟨(mt (show _ ↔ v < 0 from z_ltN rfl rfl (by omega) (by omega)).mp (by omega)), (mt (show _ ↔ 99 < v from z_ltN rfl rfl (by omega) (by omega)).mp (by omega))⟩) ?_
  refine z_evL ?_
  refine z_evG 4 (y := if (I 127 3) = 20 then z_go 39 [some (.ref 127), some (.int (nI k)), some (.int (nI i)), some (.int (nI v))] [] 161 (I, J, RF w) else z_go 42 [some (.ref 127), some (.int (nI k)), some (.int (nI i)), some (.int (nI v))] [] 161 (I, J, RF w)) (fun _ => rfl) ?_
  refine z_evF ((mt (show _ ↔ m = 20 from z_eqN h_m rfl (by omega) (by omega)).mp (by omega))) ?_
  refine z_evL ?_
  refine z_evG 6 (y := z_ck (z_in (I 127 3) 20) (z_go 52 [some (.ref 127), some (.int (nI k)), some (.int (nI i)), some (.int (nI v))] [] 161 ((z_u2 I 129 ((I 127 3).toNatClampNeg) (nI k)), J, RF w))) (fun _ => rfl) ?_
  refine z_evC (z_inN (k := m) h_m (by omega) (by decide)) ?_
  refine z_evL ?_
  rw [show ((I 127 3 : Int32)).toNatClampNeg = m from z_natE h_m (by omega)]
  refine z_evG 6 (y := z_ck (z_in (I 127 3) 20) (z_go 62 [some (.ref 127), some (.int (nI k)), some (.int (nI i)), some (.int (nI v))] [] 161 ((z_u2 (z_u2 I 129 m (nI k)) 130 ((I 127 3).toNatClampNeg) (nI i)), J, RF w))) (fun _ => rfl) ?_
  refine z_evC (z_inN (k := m) h_m (by omega) (by decide)) ?_
  refine z_evL ?_
  rw [show ((I 127 3 : Int32)).toNatClampNeg = m from z_natE h_m (by omega)]
  refine z_evG 6 (y := z_ck (z_in (I 127 3) 20) (z_go 72 [some (.ref 127), some (.int (nI k)), some (.int (nI i)), some (.int (nI v))] [] 161 ((z_u2 (z_u2 (z_u2 I 129 m (nI k)) 130 m (nI i)) 131 ((I 127 3).toNatClampNeg) (nI v)), J, RF w))) (fun _ => rfl) ?_
  refine z_evC (z_inN (k := m) h_m (by omega) (by decide)) ?_
  refine z_evL ?_
  rw [show ((I 127 3 : Int32)).toNatClampNeg = m from z_natE h_m (by omega)]
  refine z_evG 7 (y := z_ck (z_in (I 127 3) 20) (z_go 85 [some (.ref 127), some (.int (nI k)), some (.int (nI i)), some (.int (nI v))] [] 161 ((z_u2 (z_u2 (z_u2 (z_u2 I 129 m (nI k)) 130 m (nI i)) 131 m (nI v)) 132 ((I 127 3).toNatClampNeg) (I 127 0)), J, RF w))) (fun _ => rfl) ?_
  refine z_evC (z_inN (k := m) h_m (by omega) (by decide)) ?_
  refine z_evL ?_
  rw [show ((I 127 3 : Int32)).toNatClampNeg = m from z_natE h_m (by omega)]
  refine z_evG 6 (y := z_ck (z_in (I 127 3) 20) (z_go 96 [some (.ref 127), some (.int (nI k)), some (.int (nI i)), some (.int (nI v))] [] 161 ((z_u2 (z_u2 (z_u2 (z_u2 (z_u2 I 129 m (nI k)) 130 m (nI i)) 131 m (nI v)) 132 m (I 127 0)) 133 ((I 127 3).toNatClampNeg) 65535), J, RF w))) (fun _ => rfl) ?_
  refine z_evC (z_inN (k := m) h_m (by omega) (by decide)) ?_
  refine z_evL ?_
  rw [show ((I 127 3 : Int32)).toNatClampNeg = m from z_natE h_m (by omega)]
  refine z_evG 11 (y := some (.inr (some (.int (((I 127 3) + 1) - 1)), 161, (z_u2 (z_u2 (z_u2 (z_u2 (z_u2 (z_u2 I 129 m (nI k)) 130 m (nI i)) 131 m (nI v)) 132 m (I 127 0)) 133 m 65535) 127 3 ((I 127 3) + 1)), J, RF w))) (fun _ => rfl) ?_
  rw [show (((I 127 3) + 1) - 1 : Int32) = nI m from (z_predE (z_addE h_m rfl))]
  rw [show ((I 127 3) + 1 : Int32) = nI (m + 1) from (z_addE h_m rfl)]
  exact z_evR rfl
set_option maxRecDepth 20000 in
/-- LampHouse.plate -/
theorem x_plate_bad (E : zE) (d : Nat) (I : Nat → Nat → Int32) (J : Nat → Nat → Int64) (w : Nat) (a b : Int32) (hbad : ¬ ((¬ a < 0 ∧ a < I 43 1) ∧ (¬ b < 0 ∧ b < I 43 1))) : z_cl E (d + 2) 149 [.ref 0, .int a, .int b] (161, I, J, RF w) = some (some (.int (-2)), 161, I, J, RF w) := by
  refine z_call (d := d + 1) (M := z_m149) rfl rfl ?_
  refine z_evG 4 (y := z_ret (z_cl E (d + 1) 8 [.ref 43, .int a] (161, (I, J, RF w))) 8 [some (.ref 0), some (.int a), some (.int b)] []) (fun _ => rfl) ?_
  refine z_evK (v := .int (z_bo (¬ a < 0 ∧ a < I 43 1))) (z' := 161) (σ' := (I, J, RF w)) (x_lights_has E d I J w a) ?_
  refine z_evG 1 (y := if (z_bo (¬ a < 0 ∧ a < I 43 1)) = 0 then z_go 22 [some (.ref 0), some (.int a), some (.int b)] [] 161 (I, J, RF w) else z_go 11 [some (.ref 0), some (.int a), some (.int b)] [] 161 (I, J, RF w)) (fun _ => rfl) ?_
  refine z_evO (fun h1 => ?_) (fun h1 => ?_)
  · refine z_evL ?_
    refine z_evG 2 (y := some (.inr (some (.int (-2)), 161, I, J, RF w))) (fun _ => rfl) ?_
    exact z_evR rfl
  · refine z_evL ?_
    refine z_evG 4 (y := z_ret (z_cl E (d + 1) 8 [.ref 43, .int b] (161, (I, J, RF w))) 19 [some (.ref 0), some (.int a), some (.int b)] []) (fun _ => rfl) ?_
    refine z_evK (v := .int (z_bo (¬ b < 0 ∧ b < I 43 1))) (z' := 161) (σ' := (I, J, RF w)) (x_lights_has E d I J w b) ?_
    refine z_evG 1 (y := if (z_bo (¬ b < 0 ∧ b < I 43 1)) = 0 then z_go 22 [some (.ref 0), some (.int a), some (.int b)] [] 161 (I, J, RF w) else z_go 25 [some (.ref 0), some (.int a), some (.int b)] [] 161 (I, J, RF w)) (fun _ => rfl) ?_
    refine z_evO (fun h2 => ?_) (fun h2 => ?_)
    · refine z_evL ?_
      refine z_evG 2 (y := some (.inr (some (.int (-2)), 161, I, J, RF w))) (fun _ => rfl) ?_
      exact z_evR rfl
    · refine z_evL ?_
      exact absurd ⟨h1, h2⟩ hbad
set_option maxRecDepth 20000 in
/-- LampHouseModel.plate -/
theorem m_plate_bad (E : zE) (d : Nat) (I : Nat → Nat → Int32) (J : Nat → Nat → Int64) (w : Nat) (a b : Int32) (hbad : ¬ ((¬ a < 0 ∧ ¬ I 127 9 - 1 < a) ∧ (¬ b < 0 ∧ ¬ I 127 9 - 1 < b))) : z_cl E (d + 3) 228 [.ref 127, .int a, .int b] (161, I, J, RF w) = some (some (.int (-2)), 161, I, J, RF w) := by
  refine z_call (d := d + 2) (M := z_m228) rfl rfl ?_
  refine z_evG 3 (y := z_ret (z_cl E (d + 2) 184 [.ref 127, .int a] (161, (I, J, RF w))) 5 [some (.ref 127), some (.int a), some (.int b)] []) (fun _ => rfl) ?_
  refine z_evK (v := .int (z_bo (¬ a < 0 ∧ ¬ I 127 9 - 1 < a))) (z' := 161) (σ' := (I, J, RF w)) (m_isLight E d I J w a) ?_
  refine z_evG 1 (y := if (z_bo (¬ a < 0 ∧ ¬ I 127 9 - 1 < a)) = 0 then z_go 16 [some (.ref 127), some (.int a), some (.int b)] [] 161 (I, J, RF w) else z_go 8 [some (.ref 127), some (.int a), some (.int b)] [] 161 (I, J, RF w)) (fun _ => rfl) ?_
  refine z_evO (fun h1 => ?_) (fun h1 => ?_)
  · refine z_evL ?_
    refine z_evG 2 (y := some (.inr (some (.int (-2)), 161, I, J, RF w))) (fun _ => rfl) ?_
    exact z_evR rfl
  · refine z_evL ?_
    refine z_evG 3 (y := z_ret (z_cl E (d + 2) 184 [.ref 127, .int b] (161, (I, J, RF w))) 13 [some (.ref 127), some (.int a), some (.int b)] []) (fun _ => rfl) ?_
    refine z_evK (v := .int (z_bo (¬ b < 0 ∧ ¬ I 127 9 - 1 < b))) (z' := 161) (σ' := (I, J, RF w)) (m_isLight E d I J w b) ?_
    refine z_evG 1 (y := if (z_bo (¬ b < 0 ∧ ¬ I 127 9 - 1 < b)) = 0 then z_go 16 [some (.ref 127), some (.int a), some (.int b)] [] 161 (I, J, RF w) else z_go 19 [some (.ref 127), some (.int a), some (.int b)] [] 161 (I, J, RF w)) (fun _ => rfl) ?_
    refine z_evO (fun h2 => ?_) (fun h2 => ?_)
    · refine z_evL ?_
      refine z_evG 2 (y := some (.inr (some (.int (-2)), 161, I, J, RF w))) (fun _ => rfl) ?_
      exact z_evR rfl
    · refine z_evL ?_
      exact absurd ⟨h1, h2⟩ hbad
set_option maxRecDepth 20000 in
/-- LampHouse.plate -/
theorem x_plate_full (E : zE) (d : Nat) (I : Nat → Nat → Int32) (J : Nat → Nat → Int64) (w : Nat) (a b n m : Nat) (h_n : I 43 1 = nI n) (hm_n : n ≤ 20) (h_m : I 106 6 = nI m) (hm_m : m ≤ 10) (hl_a : a < n) (hl_b : b < n) (hf : m = 10) : z_cl E (d + 2) 149 [.ref 0, .int (nI a), .int (nI b)] (161, I, J, RF w) = some (some (.int (-4)), 161, I, J, RF w) := by
  refine z_call (d := d + 1) (M := z_m149) rfl rfl ?_
  refine z_evG 4 (y := z_ret (z_cl E (d + 1) 8 [.ref 43, .int (nI a)] (161, (I, J, RF w))) 8 [some (.ref 0), some (.int (nI a)), some (.int (nI b))] []) (fun _ => rfl) ?_
  refine z_evK (v := .int (z_bo (¬ (nI a) < 0 ∧ (nI a) < I 43 1))) (z' := 161) (σ' := (I, J, RF w)) (x_lights_has E d I J w (nI a)) ?_
  refine z_evG 1 (y := if (z_bo (¬ (nI a) < 0 ∧ (nI a) < I 43 1)) = 0 then z_go 22 [some (.ref 0), some (.int (nI a)), some (.int (nI b))] [] 161 (I, J, RF w) else z_go 11 [some (.ref 0), some (.int (nI a)), some (.int (nI b))] [] 161 (I, J, RF w)) (fun _ => rfl) ?_
  refine z_evF (fun q => z_bo_0.mp q ⟨(mt (show _ ↔ a < 0 from z_ltN rfl rfl (by omega) (by omega)).mp (by omega)), ((show _ ↔ a < n from z_ltN rfl h_n (by omega) (by omega)).mpr (by omega))⟩) ?_
  refine z_evL ?_
  refine z_evG 4 (y := z_ret (z_cl E (d + 1) 8 [.ref 43, .int (nI b)] (161, (I, J, RF w))) 19 [some (.ref 0), some (.int (nI a)), some (.int (nI b))] []) (fun _ => rfl) ?_
  refine z_evK (v := .int (z_bo (¬ (nI b) < 0 ∧ (nI b) < I 43 1))) (z' := 161) (σ' := (I, J, RF w)) (x_lights_has E d I J w (nI b)) ?_
  refine z_evG 1 (y := if (z_bo (¬ (nI b) < 0 ∧ (nI b) < I 43 1)) = 0 then z_go 22 [some (.ref 0), some (.int (nI a)), some (.int (nI b))] [] 161 (I, J, RF w) else z_go 25 [some (.ref 0), some (.int (nI a)), some (.int (nI b))] [] 161 (I, J, RF w)) (fun _ => rfl) ?_
  refine z_evF (fun q => z_bo_0.mp q ⟨(mt (show _ ↔ b < 0 from z_ltN rfl rfl (by omega) (by omega)).mp (by omega)), ((show _ ↔ b < n from z_ltN rfl h_n (by omega) (by omega)).mpr (by omega))⟩) ?_
  refine z_evL ?_
  refine z_evG 3 (y := z_ret (z_cl E (d + 1) 48 [.ref 106] (161, (I, J, RF w))) 32 [some (.ref 0), some (.int (nI a)), some (.int (nI b))] []) (fun _ => rfl) ?_
  refine z_evK (v := .int (z_bo (¬ I 106 6 < 10))) (z' := 161) (σ' := (I, J, RF w)) (x_plates_isFull E d I J w) ?_
  refine z_evG 1 (y := if (z_bo (¬ I 106 6 < 10)) = 0 then z_go 40 [some (.ref 0), some (.int (nI a)), some (.int (nI b))] [] 161 (I, J, RF w) else z_go 35 [some (.ref 0), some (.int (nI a)), some (.int (nI b))] [] 161 (I, J, RF w)) (fun _ => rfl) ?_
  refine z_evF (fun q => z_bo_0.mp q (mt (show _ ↔ m < 10 from z_ltN h_m rfl (by omega) (by omega)).mp (by omega))) ?_
  refine z_evL ?_
  refine z_evG 3 (y := some (.inr (some (.int (-4)), 161, I, J, RF w))) (fun _ => rfl) ?_
  exact z_evR rfl
set_option maxRecDepth 20000 in
/-- LampHouse.plate -/
theorem x_plate_ok (E : zE) (d : Nat) (I : Nat → Nat → Int32) (J : Nat → Nat → Int64) (w : Nat) (a b n m : Nat) (h_n : I 43 1 = nI n) (hm_n : n ≤ 20) (h_m : I 106 6 = nI m) (hm_m : m ≤ 10) (hl_a : a < n) (hl_b : b < n) (hf : m < 10) : z_cl E (d + 2) 149 [.ref 0, .int (nI a), .int (nI b)] (161, I, J, RF w) = some (some (.int (nI m)), 161, (z_u2 (z_u2 (z_u2 I 107 m (nI a)) 108 m (nI b)) 106 6 (nI (m + 1))), J, RF w) := by
  refine z_call (d := d + 1) (M := z_m149) rfl rfl ?_
  refine z_evG 4 (y := z_ret (z_cl E (d + 1) 8 [.ref 43, .int (nI a)] (161, (I, J, RF w))) 8 [some (.ref 0), some (.int (nI a)), some (.int (nI b))] []) (fun _ => rfl) ?_
  refine z_evK (v := .int (z_bo (¬ (nI a) < 0 ∧ (nI a) < I 43 1))) (z' := 161) (σ' := (I, J, RF w)) (x_lights_has E d I J w (nI a)) ?_
  refine z_evG 1 (y := if (z_bo (¬ (nI a) < 0 ∧ (nI a) < I 43 1)) = 0 then z_go 22 [some (.ref 0), some (.int (nI a)), some (.int (nI b))] [] 161 (I, J, RF w) else z_go 11 [some (.ref 0), some (.int (nI a)), some (.int (nI b))] [] 161 (I, J, RF w)) (fun _ => rfl) ?_
  refine z_evF (fun q => z_bo_0.mp q ⟨(mt (show _ ↔ a < 0 from z_ltN rfl rfl (by omega) (by omega)).mp (by omega)), ((show _ ↔ a < n from z_ltN rfl h_n (by omega) (by omega)).mpr (by omega))⟩) ?_
  refine z_evL ?_
  refine z_evG 4 (y := z_ret (z_cl E (d + 1) 8 [.ref 43, .int (nI b)] (161, (I, J, RF w))) 19 [some (.ref 0), some (.int (nI a)), some (.int (nI b))] []) (fun _ => rfl) ?_
  refine z_evK (v := .int (z_bo (¬ (nI b) < 0 ∧ (nI b) < I 43 1))) (z' := 161) (σ' := (I, J, RF w)) (x_lights_has E d I J w (nI b)) ?_
  refine z_evG 1 (y := if (z_bo (¬ (nI b) < 0 ∧ (nI b) < I 43 1)) = 0 then z_go 22 [some (.ref 0), some (.int (nI a)), some (.int (nI b))] [] 161 (I, J, RF w) else z_go 25 [some (.ref 0), some (.int (nI a)), some (.int (nI b))] [] 161 (I, J, RF w)) (fun _ => rfl) ?_
  refine z_evF (fun q => z_bo_0.mp q ⟨(mt (show _ ↔ b < 0 from z_ltN rfl rfl (by omega) (by omega)).mp (by omega)), ((show _ ↔ b < n from z_ltN rfl h_n (by omega) (by omega)).mpr (by omega))⟩) ?_
  refine z_evL ?_
  refine z_evG 3 (y := z_ret (z_cl E (d + 1) 48 [.ref 106] (161, (I, J, RF w))) 32 [some (.ref 0), some (.int (nI a)), some (.int (nI b))] []) (fun _ => rfl) ?_
  refine z_evK (v := .int (z_bo (¬ I 106 6 < 10))) (z' := 161) (σ' := (I, J, RF w)) (x_plates_isFull E d I J w) ?_
  refine z_evG 1 (y := if (z_bo (¬ I 106 6 < 10)) = 0 then z_go 40 [some (.ref 0), some (.int (nI a)), some (.int (nI b))] [] 161 (I, J, RF w) else z_go 35 [some (.ref 0), some (.int (nI a)), some (.int (nI b))] [] 161 (I, J, RF w)) (fun _ => rfl) ?_
  refine z_evT (z_bo_0.mpr (fun q => q ((show _ ↔ m < 10 from z_ltN h_m rfl (by omega) (by omega)).mpr (by omega)))) ?_
  refine z_evL ?_
  refine z_evG 5 (y := z_ret (z_cl E (d + 1) 49 [.ref 106, .int (nI a), .int (nI b)] (161, (I, J, RF w))) 49 [some (.ref 0), some (.int (nI a)), some (.int (nI b))] []) (fun _ => rfl) ?_
  refine z_evK (v := .int (nI m)) (z' := 161) (σ' := ((z_u2 (z_u2 (z_u2 I 107 m (nI a)) 108 m (nI b)) 106 6 (nI (m + 1))), J, RF w)) (x_plates_add E d I J w (nI a) (nI b) m h_m (by omega)) ?_
  refine z_evG 1 (y := some (.inr (some (.int (nI m)), 161, (z_u2 (z_u2 (z_u2 I 107 m (nI a)) 108 m (nI b)) 106 6 (nI (m + 1))), J, RF w))) (fun _ => rfl) ?_
  exact z_evR rfl
set_option maxRecDepth 20000 in
/-- LampHouseModel.plate -/
theorem m_plate_full (E : zE) (d : Nat) (I : Nat → Nat → Int32) (J : Nat → Nat → Int64) (w : Nat) (a b n m : Nat) (h_n : I 127 9 = nI n) (hm_n : n ≤ 20) (h_m : I 127 43 = nI m) (hm_m : m ≤ 10) (hl_a : a < n) (hl_b : b < n) (hf : m = 10) : z_cl E (d + 3) 228 [.ref 127, .int (nI a), .int (nI b)] (161, I, J, RF w) = some (some (.int (-4)), 161, I, J, RF w) := by
  refine z_call (d := d + 2) (M := z_m228) rfl rfl ?_
  refine z_evG 3 (y := z_ret (z_cl E (d + 2) 184 [.ref 127, .int (nI a)] (161, (I, J, RF w))) 5 [some (.ref 127), some (.int (nI a)), some (.int (nI b))] []) (fun _ => rfl) ?_
  refine z_evK (v := .int (z_bo (¬ (nI a) < 0 ∧ ¬ I 127 9 - 1 < (nI a)))) (z' := 161) (σ' := (I, J, RF w)) (m_isLight E d I J w (nI a)) ?_
  refine z_evG 1 (y := if (z_bo (¬ (nI a) < 0 ∧ ¬ I 127 9 - 1 < (nI a))) = 0 then z_go 16 [some (.ref 127), some (.int (nI a)), some (.int (nI b))] [] 161 (I, J, RF w) else z_go 8 [some (.ref 127), some (.int (nI a)), some (.int (nI b))] [] 161 (I, J, RF w)) (fun _ => rfl) ?_
  refine z_evF (fun q => z_bo_0.mp q ⟨(mt (show _ ↔ a < 0 from z_ltN rfl rfl (by omega) (by omega)).mp (by omega)), (z_plt h_n rfl (by omega) (by omega))⟩) ?_
  refine z_evL ?_
  refine z_evG 3 (y := z_ret (z_cl E (d + 2) 184 [.ref 127, .int (nI b)] (161, (I, J, RF w))) 13 [some (.ref 127), some (.int (nI a)), some (.int (nI b))] []) (fun _ => rfl) ?_
  refine z_evK (v := .int (z_bo (¬ (nI b) < 0 ∧ ¬ I 127 9 - 1 < (nI b)))) (z' := 161) (σ' := (I, J, RF w)) (m_isLight E d I J w (nI b)) ?_
  refine z_evG 1 (y := if (z_bo (¬ (nI b) < 0 ∧ ¬ I 127 9 - 1 < (nI b))) = 0 then z_go 16 [some (.ref 127), some (.int (nI a)), some (.int (nI b))] [] 161 (I, J, RF w) else z_go 19 [some (.ref 127), some (.int (nI a)), some (.int (nI b))] [] 161 (I, J, RF w)) (fun _ => rfl) ?_
  refine z_evF (fun q => z_bo_0.mp q ⟨(mt (show _ ↔ b < 0 from z_ltN rfl rfl (by omega) (by omega)).mp (by omega)), (z_plt h_n rfl (by omega) (by omega))⟩) ?_
  refine z_evL ?_
  refine z_evG 4 (y := if (I 127 43) = 10 then z_go 28 [some (.ref 127), some (.int (nI a)), some (.int (nI b))] [] 161 (I, J, RF w) else z_go 31 [some (.ref 127), some (.int (nI a)), some (.int (nI b))] [] 161 (I, J, RF w)) (fun _ => rfl) ?_
  refine z_evT (((show _ ↔ m = 10 from z_eqN h_m rfl (by omega) (by omega)).mpr (by omega))) ?_
  refine z_evL ?_
  refine z_evG 2 (y := some (.inr (some (.int (-4)), 161, I, J, RF w))) (fun _ => rfl) ?_
  exact z_evR rfl
set_option maxRecDepth 20000 in
/-- LampHouseModel.plate -/
theorem m_plate_ok (E : zE) (d : Nat) (I : Nat → Nat → Int32) (J : Nat → Nat → Int64) (w : Nat) (a b n m : Nat) (h_n : I 127 9 = nI n) (hm_n : n ≤ 20) (h_m : I 127 43 = nI m) (hm_m : m ≤ 10) (hl_a : a < n) (hl_b : b < n) (hf : m < 10) : z_cl E (d + 3) 228 [.ref 127, .int (nI a), .int (nI b)] (161, I, J, RF w) = some (some (.int (nI m)), 161, (z_u2 (z_u2 (z_u2 I 149 m (nI a)) 150 m (nI b)) 127 43 (nI (m + 1))), J, RF w) := by
  refine z_call (d := d + 2) (M := z_m228) rfl rfl ?_
  refine z_evG 3 (y := z_ret (z_cl E (d + 2) 184 [.ref 127, .int (nI a)] (161, (I, J, RF w))) 5 [some (.ref 127), some (.int (nI a)), some (.int (nI b))] []) (fun _ => rfl) ?_
  refine z_evK (v := .int (z_bo (¬ (nI a) < 0 ∧ ¬ I 127 9 - 1 < (nI a)))) (z' := 161) (σ' := (I, J, RF w)) (m_isLight E d I J w (nI a)) ?_
  refine z_evG 1 (y := if (z_bo (¬ (nI a) < 0 ∧ ¬ I 127 9 - 1 < (nI a))) = 0 then z_go 16 [some (.ref 127), some (.int (nI a)), some (.int (nI b))] [] 161 (I, J, RF w) else z_go 8 [some (.ref 127), some (.int (nI a)), some (.int (nI b))] [] 161 (I, J, RF w)) (fun _ => rfl) ?_
  refine z_evF (fun q => z_bo_0.mp q ⟨(mt (show _ ↔ a < 0 from z_ltN rfl rfl (by omega) (by omega)).mp (by omega)), (z_plt h_n rfl (by omega) (by omega))⟩) ?_
  refine z_evL ?_
  refine z_evG 3 (y := z_ret (z_cl E (d + 2) 184 [.ref 127, .int (nI b)] (161, (I, J, RF w))) 13 [some (.ref 127), some (.int (nI a)), some (.int (nI b))] []) (fun _ => rfl) ?_
  refine z_evK (v := .int (z_bo (¬ (nI b) < 0 ∧ ¬ I 127 9 - 1 < (nI b)))) (z' := 161) (σ' := (I, J, RF w)) (m_isLight E d I J w (nI b)) ?_
  refine z_evG 1 (y := if (z_bo (¬ (nI b) < 0 ∧ ¬ I 127 9 - 1 < (nI b))) = 0 then z_go 16 [some (.ref 127), some (.int (nI a)), some (.int (nI b))] [] 161 (I, J, RF w) else z_go 19 [some (.ref 127), some (.int (nI a)), some (.int (nI b))] [] 161 (I, J, RF w)) (fun _ => rfl) ?_
  refine z_evF (fun q => z_bo_0.mp q ⟨(mt (show _ ↔ b < 0 from z_ltN rfl rfl (by omega) (by omega)).mp (by omega)), (z_plt h_n rfl (by omega) (by omega))⟩) ?_
  refine z_evL ?_
  refine z_evG 4 (y := if (I 127 43) = 10 then z_go 28 [some (.ref 127), some (.int (nI a)), some (.int (nI b))] [] 161 (I, J, RF w) else z_go 31 [some (.ref 127), some (.int (nI a)), some (.int (nI b))] [] 161 (I, J, RF w)) (fun _ => rfl) ?_
  refine z_evF ((mt (show _ ↔ m = 10 from z_eqN h_m rfl (by omega) (by omega)).mp (by omega))) ?_
  refine z_evL ?_
  refine z_evG 6 (y := z_ck (z_in (I 127 43) 10) (z_go 41 [some (.ref 127), some (.int (nI a)), some (.int (nI b))] [] 161 ((z_u2 I 149 ((I 127 43).toNatClampNeg) (nI a)), J, RF w))) (fun _ => rfl) ?_
  refine z_evC (z_inN (k := m) h_m (by omega) (by decide)) ?_
  refine z_evL ?_
  rw [show ((I 127 43 : Int32)).toNatClampNeg = m from z_natE h_m (by omega)]
  refine z_evG 6 (y := z_ck (z_in (I 127 43) 10) (z_go 51 [some (.ref 127), some (.int (nI a)), some (.int (nI b))] [] 161 ((z_u2 (z_u2 I 149 m (nI a)) 150 ((I 127 43).toNatClampNeg) (nI b)), J, RF w))) (fun _ => rfl) ?_
  refine z_evC (z_inN (k := m) h_m (by omega) (by decide)) ?_
  refine z_evL ?_
  rw [show ((I 127 43 : Int32)).toNatClampNeg = m from z_natE h_m (by omega)]
  refine z_evG 11 (y := some (.inr (some (.int (((I 127 43) + 1) - 1)), 161, (z_u2 (z_u2 (z_u2 I 149 m (nI a)) 150 m (nI b)) 127 43 ((I 127 43) + 1)), J, RF w))) (fun _ => rfl) ?_
  rw [show (((I 127 43) + 1) - 1 : Int32) = nI m from (z_predE (z_addE h_m rfl))]
  rw [show ((I 127 43) + 1 : Int32) = nI (m + 1) from (z_addE h_m rfl)]
  exact z_evR rfl
set_option maxRecDepth 20000 in
/-- LampHouse.age -/
theorem x_age_bad (E : zE) (d : Nat) (I : Nat → Nat → Int32) (J : Nat → Nat → Int64) (w : Nat) (t h v : Int32) (hbad : ¬ ((¬ t < 0 ∧ t < I 37 7) ∧ (¬ h < 0 ∧ ¬ 9999 < h) ∧ (¬ v < 0) ∧ (¬ 100 < v))) : z_cl E (d + 2) 152 [.ref 0, .int t, .int h, .int v] (161, I, J, RF w) = some (some (.int (-2)), 161, I, J, RF w) := by
  refine z_call (d := d + 1) (M := z_m152) rfl rfl ?_
  refine z_evG 4 (y := z_ret (z_cl E (d + 1) 108 [.ref 37, .int t] (161, (I, J, RF w))) 8 [some (.ref 0), some (.int t), some (.int h), some (.int v)] []) (fun _ => rfl) ?_
  refine z_evK (v := .int (z_bo (¬ t < 0 ∧ t < I 37 7))) (z' := 161) (σ' := (I, J, RF w)) (x_things_has E d I J w t) ?_
  refine z_evG 1 (y := if (z_bo (¬ t < 0 ∧ t < I 37 7)) = 0 then z_go 28 [some (.ref 0), some (.int t), some (.int h), some (.int v)] [] 161 (I, J, RF w) else z_go 11 [some (.ref 0), some (.int t), some (.int h), some (.int v)] [] 161 (I, J, RF w)) (fun _ => rfl) ?_
  refine z_evO (fun h1 => ?_) (fun h1 => ?_)
  · refine z_evL ?_
    refine z_evG 2 (y := some (.inr (some (.int (-2)), 161, I, J, RF w))) (fun _ => rfl) ?_
    exact z_evR rfl
  · refine z_evL ?_
    refine z_evG 2 (y := z_ret (z_cl E (d + 1) 173 [.int h] (161, (I, J, RF w))) 15 [some (.ref 0), some (.int t), some (.int h), some (.int v)] []) (fun _ => rfl) ?_
    refine z_evK (v := .int (z_bo (¬ h < 0 ∧ ¬ 9999 < h))) (z' := 161) (σ' := (I, J, RF w)) (x_isHour E d I J w h) ?_
    refine z_evG 1 (y := if (z_bo (¬ h < 0 ∧ ¬ 9999 < h)) = 0 then z_go 28 [some (.ref 0), some (.int t), some (.int h), some (.int v)] [] 161 (I, J, RF w) else z_go 18 [some (.ref 0), some (.int t), some (.int h), some (.int v)] [] 161 (I, J, RF w)) (fun _ => rfl) ?_
    refine z_evO (fun h2 => ?_) (fun h2 => ?_)
    · refine z_evL ?_
      refine z_evG 2 (y := some (.inr (some (.int (-2)), 161, I, J, RF w))) (fun _ => rfl) ?_
      exact z_evR rfl
    · refine z_evL ?_
      refine z_evG 2 (y := if v < 0 then z_go 28 [some (.ref 0), some (.int t), some (.int h), some (.int v)] [] 161 (I, J, RF w) else z_go 22 [some (.ref 0), some (.int t), some (.int h), some (.int v)] [] 161 (I, J, RF w)) (fun _ => rfl) ?_
      refine z_evI (fun h3 => ?_) (fun h3 => ?_)
      · refine z_evL ?_
        refine z_evG 2 (y := some (.inr (some (.int (-2)), 161, I, J, RF w))) (fun _ => rfl) ?_
        exact z_evR rfl
      · refine z_evL ?_
        refine z_evG 3 (y := if 100 < v then z_go 28 [some (.ref 0), some (.int t), some (.int h), some (.int v)] [] 161 (I, J, RF w) else z_go 31 [some (.ref 0), some (.int t), some (.int h), some (.int v)] [] 161 (I, J, RF w)) (fun _ => rfl) ?_
        refine z_evI (fun h4 => ?_) (fun h4 => ?_)
        · refine z_evL ?_
          refine z_evG 2 (y := some (.inr (some (.int (-2)), 161, I, J, RF w))) (fun _ => rfl) ?_
          exact z_evR rfl
        · refine z_evL ?_
          exact absurd ⟨h1, h2, h3, h4⟩ hbad
set_option maxRecDepth 20000 in
/-- LampHouseModel.age -/
theorem m_age_bad (E : zE) (d : Nat) (I : Nat → Nat → Int32) (J : Nat → Nat → Int64) (w : Nat) (t h v : Int32) (hbad : ¬ ((¬ t < 0 ∧ ¬ I 127 3 - 1 < t) ∧ (¬ h < 0 ∧ ¬ 9999 < h) ∧ (¬ v < 0 ∧ ¬ 100 < v))) : z_cl E (d + 3) 233 [.ref 127, .int t, .int h, .int v] (161, I, J, RF w) = some (some (.int (-2)), 161, I, J, RF w) := by
  refine z_call (d := d + 2) (M := z_m233) rfl rfl ?_
  refine z_evG 3 (y := z_ret (z_cl E (d + 2) 183 [.ref 127, .int t] (161, (I, J, RF w))) 5 [some (.ref 127), some (.int t), some (.int h), some (.int v)] []) (fun _ => rfl) ?_
  refine z_evK (v := .int (z_bo (¬ t < 0 ∧ ¬ I 127 3 - 1 < t))) (z' := 161) (σ' := (I, J, RF w)) (m_isThing E d I J w t) ?_
  refine z_evG 1 (y := if (z_bo (¬ t < 0 ∧ ¬ I 127 3 - 1 < t)) = 0 then z_go 29 [some (.ref 127), some (.int t), some (.int h), some (.int v)] [] 161 (I, J, RF w) else z_go 8 [some (.ref 127), some (.int t), some (.int h), some (.int v)] [] 161 (I, J, RF w)) (fun _ => rfl) ?_
  refine z_evO (fun h1 => ?_) (fun h1 => ?_)
  · refine z_evL ?_
    refine z_evG 2 (y := some (.inr (some (.int (-2)), 161, I, J, RF w))) (fun _ => rfl) ?_
    exact z_evR rfl
  · refine z_evL ?_
    refine z_evG 4 (y := z_ret (z_cl E (d + 2) 178 [.int h, .int 0, .int 9999] (161, (I, J, RF w))) 16 [some (.ref 127), some (.int t), some (.int h), some (.int v)] []) (fun _ => rfl) ?_
    refine z_evK (v := .int (z_bo (¬ h < 0 ∧ ¬ 9999 < h))) (z' := 161) (σ' := (I, J, RF w)) (m_in E (d + 1) I J w h 0 9999) ?_
    refine z_evG 1 (y := if (z_bo (¬ h < 0 ∧ ¬ 9999 < h)) = 0 then z_go 29 [some (.ref 127), some (.int t), some (.int h), some (.int v)] [] 161 (I, J, RF w) else z_go 19 [some (.ref 127), some (.int t), some (.int h), some (.int v)] [] 161 (I, J, RF w)) (fun _ => rfl) ?_
    refine z_evO (fun h2 => ?_) (fun h2 => ?_)
    · refine z_evL ?_
      refine z_evG 2 (y := some (.inr (some (.int (-2)), 161, I, J, RF w))) (fun _ => rfl) ?_
      exact z_evR rfl
    · refine z_evL ?_
      refine z_evG 4 (y := z_ret (z_cl E (d + 2) 178 [.int v, .int 0, .int 100] (161, (I, J, RF w))) 26 [some (.ref 127), some (.int t), some (.int h), some (.int v)] []) (fun _ => rfl) ?_
      refine z_evK (v := .int (z_bo (¬ v < 0 ∧ ¬ 100 < v))) (z' := 161) (σ' := (I, J, RF w)) (m_in E (d + 1) I J w v 0 100) ?_
      refine z_evG 1 (y := if (z_bo (¬ v < 0 ∧ ¬ 100 < v)) = 0 then z_go 29 [some (.ref 127), some (.int t), some (.int h), some (.int v)] [] 161 (I, J, RF w) else z_go 32 [some (.ref 127), some (.int t), some (.int h), some (.int v)] [] 161 (I, J, RF w)) (fun _ => rfl) ?_
      refine z_evO (fun h3 => ?_) (fun h3 => ?_)
      · refine z_evL ?_
        refine z_evG 2 (y := some (.inr (some (.int (-2)), 161, I, J, RF w))) (fun _ => rfl) ?_
        exact z_evR rfl
      · refine z_evL ?_
        exact absurd ⟨h1, h2, h3⟩ hbad
set_option maxRecDepth 20000 in
/-- LampHouse.age -/
theorem x_age_full (E : zE) (d : Nat) (I : Nat → Nat → Int32) (J : Nat → Nat → Int64) (w : Nat) (t h v n m : Nat) (h_n : I 37 7 = nI n) (hm_n : n ≤ 20) (h_m : I 33 3 = nI m) (hm_m : m ≤ 40) (hl_t : t < n) (hl_h : h < 10000) (hl_v : v < 101) (hf : m = 40) : z_cl E (d + 2) 152 [.ref 0, .int (nI t), .int (nI h), .int (nI v)] (161, I, J, RF w) = some (some (.int (-4)), 161, I, J, RF w) := by
  refine z_call (d := d + 1) (M := z_m152) rfl rfl ?_
  refine z_evG 4 (y := z_ret (z_cl E (d + 1) 108 [.ref 37, .int (nI t)] (161, (I, J, RF w))) 8 [some (.ref 0), some (.int (nI t)), some (.int (nI h)), some (.int (nI v))] []) (fun _ => rfl) ?_
  refine z_evK (v := .int (z_bo (¬ (nI t) < 0 ∧ (nI t) < I 37 7))) (z' := 161) (σ' := (I, J, RF w)) (x_things_has E d I J w (nI t)) ?_
  refine z_evG 1 (y := if (z_bo (¬ (nI t) < 0 ∧ (nI t) < I 37 7)) = 0 then z_go 28 [some (.ref 0), some (.int (nI t)), some (.int (nI h)), some (.int (nI v))] [] 161 (I, J, RF w) else z_go 11 [some (.ref 0), some (.int (nI t)), some (.int (nI h)), some (.int (nI v))] [] 161 (I, J, RF w)) (fun _ => rfl) ?_
  refine z_evF (fun q => z_bo_0.mp q ⟨(mt (show _ ↔ t < 0 from z_ltN rfl rfl (by omega) (by omega)).mp (by omega)), ((show _ ↔ t < n from z_ltN rfl h_n (by omega) (by omega)).mpr (by omega))⟩) ?_
  refine z_evL ?_
  refine z_evG 2 (y := z_ret (z_cl E (d + 1) 173 [.int (nI h)] (161, (I, J, RF w))) 15 [some (.ref 0), some (.int (nI t)), some (.int (nI h)), some (.int (nI v))] []) (fun _ => rfl) ?_
  refine z_evK (v := .int (z_bo (¬ (nI h) < 0 ∧ ¬ 9999 < (nI h)))) (z' := 161) (σ' := (I, J, RF w)) (x_isHour E d I J w (nI h)) ?_
  refine z_evG 1 (y := if (z_bo (¬ (nI h) < 0 ∧ ¬ 9999 < (nI h))) = 0 then z_go 28 [some (.ref 0), some (.int (nI t)), some (.int (nI h)), some (.int (nI v))] [] 161 (I, J, RF w) else z_go 18 [some (.ref 0), some (.int (nI t)), some (.int (nI h)), some (.int (nI v))] [] 161 (I, J, RF w)) (fun _ => rfl) ?_
  refine z_evF (fun q => z_bo_0.mp q ⟨(mt (show _ ↔ h < 0 from z_ltN rfl rfl (by omega) (by omega)).mp (by omega)), (mt (show _ ↔ 9999 < h from z_ltN rfl rfl (by omega) (by omega)).mp (by omega))⟩) ?_
  refine z_evL ?_
  refine z_evG 2 (y := if (nI v) < 0 then z_go 28 [some (.ref 0), some (.int (nI t)), some (.int (nI h)), some (.int (nI v))] [] 161 (I, J, RF w) else z_go 22 [some (.ref 0), some (.int (nI t)), some (.int (nI h)), some (.int (nI v))] [] 161 (I, J, RF w)) (fun _ => rfl) ?_
  refine z_evF ((mt (show _ ↔ v < 0 from z_ltN rfl rfl (by omega) (by omega)).mp (by omega))) ?_
  refine z_evL ?_
  refine z_evG 3 (y := if 100 < (nI v) then z_go 28 [some (.ref 0), some (.int (nI t)), some (.int (nI h)), some (.int (nI v))] [] 161 (I, J, RF w) else z_go 31 [some (.ref 0), some (.int (nI t)), some (.int (nI h)), some (.int (nI v))] [] 161 (I, J, RF w)) (fun _ => rfl) ?_
  refine z_evF ((mt (show _ ↔ 100 < v from z_ltN rfl rfl (by omega) (by omega)).mp (by omega))) ?_
  refine z_evL ?_
  refine z_evG 3 (y := z_ret (z_cl E (d + 1) 2 [.ref 33] (161, (I, J, RF w))) 38 [some (.ref 0), some (.int (nI t)), some (.int (nI h)), some (.int (nI v))] []) (fun _ => rfl) ?_
  refine z_evK (v := .int (z_bo (¬ I 33 3 < 40))) (z' := 161) (σ' := (I, J, RF w)) (x_ages_isFull E d I J w) ?_
  refine z_evG 1 (y := if (z_bo (¬ I 33 3 < 40)) = 0 then z_go 46 [some (.ref 0), some (.int (nI t)), some (.int (nI h)), some (.int (nI v))] [] 161 (I, J, RF w) else z_go 41 [some (.ref 0), some (.int (nI t)), some (.int (nI h)), some (.int (nI v))] [] 161 (I, J, RF w)) (fun _ => rfl) ?_
  refine z_evF (fun q => z_bo_0.mp q (mt (show _ ↔ m < 40 from z_ltN h_m rfl (by omega) (by omega)).mp (by omega))) ?_
  refine z_evL ?_
  refine z_evG 3 (y := some (.inr (some (.int (-4)), 161, I, J, RF w))) (fun _ => rfl) ?_
  exact z_evR rfl
set_option maxRecDepth 20000 in
/-- LampHouse.age -/
theorem x_age_ok (E : zE) (d : Nat) (I : Nat → Nat → Int32) (J : Nat → Nat → Int64) (w : Nat) (t h v n m : Nat) (h_n : I 37 7 = nI n) (hm_n : n ≤ 20) (h_m : I 33 3 = nI m) (hm_m : m ≤ 40) (hl_t : t < n) (hl_h : h < 10000) (hl_v : v < 101) (hf : m < 40) : z_cl E (d + 2) 152 [.ref 0, .int (nI t), .int (nI h), .int (nI v)] (161, I, J, RF w) = some (some (.int (nI (m + 1))), 161, (z_u2 (z_u2 (z_u2 (z_u2 I 34 m (nI t)) 35 m (nI h)) 36 m (nI v)) 33 3 (nI (m + 1))), J, RF w) := by
  refine z_call (d := d + 1) (M := z_m152) rfl rfl ?_
  refine z_evG 4 (y := z_ret (z_cl E (d + 1) 108 [.ref 37, .int (nI t)] (161, (I, J, RF w))) 8 [some (.ref 0), some (.int (nI t)), some (.int (nI h)), some (.int (nI v))] []) (fun _ => rfl) ?_
  refine z_evK (v := .int (z_bo (¬ (nI t) < 0 ∧ (nI t) < I 37 7))) (z' := 161) (σ' := (I, J, RF w)) (x_things_has E d I J w (nI t)) ?_
  refine z_evG 1 (y := if (z_bo (¬ (nI t) < 0 ∧ (nI t) < I 37 7)) = 0 then z_go 28 [some (.ref 0), some (.int (nI t)), some (.int (nI h)), some (.int (nI v))] [] 161 (I, J, RF w) else z_go 11 [some (.ref 0), some (.int (nI t)), some (.int (nI h)), some (.int (nI v))] [] 161 (I, J, RF w)) (fun _ => rfl) ?_
  refine z_evF (fun q => z_bo_0.mp q ⟨(mt (show _ ↔ t < 0 from z_ltN rfl rfl (by omega) (by omega)).mp (by omega)), ((show _ ↔ t < n from z_ltN rfl h_n (by omega) (by omega)).mpr (by omega))⟩) ?_
  refine z_evL ?_
  refine z_evG 2 (y := z_ret (z_cl E (d + 1) 173 [.int (nI h)] (161, (I, J, RF w))) 15 [some (.ref 0), some (.int (nI t)), some (.int (nI h)), some (.int (nI v))] []) (fun _ => rfl) ?_
  refine z_evK (v := .int (z_bo (¬ (nI h) < 0 ∧ ¬ 9999 < (nI h)))) (z' := 161) (σ' := (I, J, RF w)) (x_isHour E d I J w (nI h)) ?_
  refine z_evG 1 (y := if (z_bo (¬ (nI h) < 0 ∧ ¬ 9999 < (nI h))) = 0 then z_go 28 [some (.ref 0), some (.int (nI t)), some (.int (nI h)), some (.int (nI v))] [] 161 (I, J, RF w) else z_go 18 [some (.ref 0), some (.int (nI t)), some (.int (nI h)), some (.int (nI v))] [] 161 (I, J, RF w)) (fun _ => rfl) ?_
  refine z_evF (fun q => z_bo_0.mp q ⟨(mt (show _ ↔ h < 0 from z_ltN rfl rfl (by omega) (by omega)).mp (by omega)), (mt (show _ ↔ 9999 < h from z_ltN rfl rfl (by omega) (by omega)).mp (by omega))⟩) ?_
  refine z_evL ?_
  refine z_evG 2 (y := if (nI v) < 0 then z_go 28 [some (.ref 0), some (.int (nI t)), some (.int (nI h)), some (.int (nI v))] [] 161 (I, J, RF w) else z_go 22 [some (.ref 0), some (.int (nI t)), some (.int (nI h)), some (.int (nI v))] [] 161 (I, J, RF w)) (fun _ => rfl) ?_
  refine z_evF ((mt (show _ ↔ v < 0 from z_ltN rfl rfl (by omega) (by omega)).mp (by omega))) ?_
  refine z_evL ?_
  refine z_evG 3 (y := if 100 < (nI v) then z_go 28 [some (.ref 0), some (.int (nI t)), some (.int (nI h)), some (.int (nI v))] [] 161 (I, J, RF w) else z_go 31 [some (.ref 0), some (.int (nI t)), some (.int (nI h)), some (.int (nI v))] [] 161 (I, J, RF w)) (fun _ => rfl) ?_
  refine z_evF ((mt (show _ ↔ 100 < v from z_ltN rfl rfl (by omega) (by omega)).mp (by omega))) ?_
  refine z_evL ?_
  refine z_evG 3 (y := z_ret (z_cl E (d + 1) 2 [.ref 33] (161, (I, J, RF w))) 38 [some (.ref 0), some (.int (nI t)), some (.int (nI h)), some (.int (nI v))] []) (fun _ => rfl) ?_
  refine z_evK (v := .int (z_bo (¬ I 33 3 < 40))) (z' := 161) (σ' := (I, J, RF w)) (x_ages_isFull E d I J w) ?_
  refine z_evG 1 (y := if (z_bo (¬ I 33 3 < 40)) = 0 then z_go 46 [some (.ref 0), some (.int (nI t)), some (.int (nI h)), some (.int (nI v))] [] 161 (I, J, RF w) else z_go 41 [some (.ref 0), some (.int (nI t)), some (.int (nI h)), some (.int (nI v))] [] 161 (I, J, RF w)) (fun _ => rfl) ?_
  refine z_evT (z_bo_0.mpr (fun q => q ((show _ ↔ m < 40 from z_ltN h_m rfl (by omega) (by omega)).mpr (by omega)))) ?_
  refine z_evL ?_
  refine z_evG 6 (y := z_ret (z_cl E (d + 1) 3 [.ref 33, .int (nI t), .int (nI h), .int (nI v)] (161, (I, J, RF w))) 56 [some (.ref 0), some (.int (nI t)), some (.int (nI h)), some (.int (nI v))] []) (fun _ => rfl) ?_
  refine z_evK (v := .int (nI (m + 1))) (z' := 161) (σ' := ((z_u2 (z_u2 (z_u2 (z_u2 I 34 m (nI t)) 35 m (nI h)) 36 m (nI v)) 33 3 (nI (m + 1))), J, RF w)) (x_ages_add E d I J w (nI t) (nI h) (nI v) m h_m (by omega)) ?_
  refine z_evG 1 (y := some (.inr (some (.int (nI (m + 1))), 161, (z_u2 (z_u2 (z_u2 (z_u2 I 34 m (nI t)) 35 m (nI h)) 36 m (nI v)) 33 3 (nI (m + 1))), J, RF w))) (fun _ => rfl) ?_
  exact z_evR rfl
set_option maxRecDepth 20000 in
/-- LampHouseModel.age -/
theorem m_age_full (E : zE) (d : Nat) (I : Nat → Nat → Int32) (J : Nat → Nat → Int64) (w : Nat) (t h v n m : Nat) (h_n : I 127 3 = nI n) (hm_n : n ≤ 20) (h_m : I 127 47 = nI m) (hm_m : m ≤ 40) (hl_t : t < n) (hl_h : h < 10000) (hl_v : v < 101) (hf : m = 40) : z_cl E (d + 3) 233 [.ref 127, .int (nI t), .int (nI h), .int (nI v)] (161, I, J, RF w) = some (some (.int (-4)), 161, I, J, RF w) := by
  refine z_call (d := d + 2) (M := z_m233) rfl rfl ?_
  refine z_evG 3 (y := z_ret (z_cl E (d + 2) 183 [.ref 127, .int (nI t)] (161, (I, J, RF w))) 5 [some (.ref 127), some (.int (nI t)), some (.int (nI h)), some (.int (nI v))] []) (fun _ => rfl) ?_
  refine z_evK (v := .int (z_bo (¬ (nI t) < 0 ∧ ¬ I 127 3 - 1 < (nI t)))) (z' := 161) (σ' := (I, J, RF w)) (m_isThing E d I J w (nI t)) ?_
  refine z_evG 1 (y := if (z_bo (¬ (nI t) < 0 ∧ ¬ I 127 3 - 1 < (nI t))) = 0 then z_go 29 [some (.ref 127), some (.int (nI t)), some (.int (nI h)), some (.int (nI v))] [] 161 (I, J, RF w) else z_go 8 [some (.ref 127), some (.int (nI t)), some (.int (nI h)), some (.int (nI v))] [] 161 (I, J, RF w)) (fun _ => rfl) ?_
  refine z_evF (fun q => z_bo_0.mp q ⟨(mt (show _ ↔ t < 0 from z_ltN rfl rfl (by omega) (by omega)).mp (by omega)), (z_plt h_n rfl (by omega) (by omega))⟩) ?_
  refine z_evL ?_
  refine z_evG 4 (y := z_ret (z_cl E (d + 2) 178 [.int (nI h), .int 0, .int 9999] (161, (I, J, RF w))) 16 [some (.ref 127), some (.int (nI t)), some (.int (nI h)), some (.int (nI v))] []) (fun _ => rfl) ?_
  refine z_evK (v := .int (z_bo (¬ (nI h) < 0 ∧ ¬ 9999 < (nI h)))) (z' := 161) (σ' := (I, J, RF w)) (m_in E (d + 1) I J w (nI h) 0 9999) ?_
  refine z_evG 1 (y := if (z_bo (¬ (nI h) < 0 ∧ ¬ 9999 < (nI h))) = 0 then z_go 29 [some (.ref 127), some (.int (nI t)), some (.int (nI h)), some (.int (nI v))] [] 161 (I, J, RF w) else z_go 19 [some (.ref 127), some (.int (nI t)), some (.int (nI h)), some (.int (nI v))] [] 161 (I, J, RF w)) (fun _ => rfl) ?_
  refine z_evF (fun q => z_bo_0.mp q ⟨(mt (show _ ↔ h < 0 from z_ltN rfl rfl (by omega) (by omega)).mp (by omega)), (mt (show _ ↔ 9999 < h from z_ltN rfl rfl (by omega) (by omega)).mp (by omega))⟩) ?_
  refine z_evL ?_
  refine z_evG 4 (y := z_ret (z_cl E (d + 2) 178 [.int (nI v), .int 0, .int 100] (161, (I, J, RF w))) 26 [some (.ref 127), some (.int (nI t)), some (.int (nI h)), some (.int (nI v))] []) (fun _ => rfl) ?_
  refine z_evK (v := .int (z_bo (¬ (nI v) < 0 ∧ ¬ 100 < (nI v)))) (z' := 161) (σ' := (I, J, RF w)) (m_in E (d + 1) I J w (nI v) 0 100) ?_
  refine z_evG 1 (y := if (z_bo (¬ (nI v) < 0 ∧ ¬ 100 < (nI v))) = 0 then z_go 29 [some (.ref 127), some (.int (nI t)), some (.int (nI h)), some (.int (nI v))] [] 161 (I, J, RF w) else z_go 32 [some (.ref 127), some (.int (nI t)), some (.int (nI h)), some (.int (nI v))] [] 161 (I, J, RF w)) (fun _ => rfl) ?_
  refine z_evF (fun q => z_bo_0.mp q ⟨(mt (show _ ↔ v < 0 from z_ltN rfl rfl (by omega) (by omega)).mp (by omega)), (mt (show _ ↔ 100 < v from z_ltN rfl rfl (by omega) (by omega)).mp (by omega))⟩) ?_
  refine z_evL ?_
  refine z_evG 4 (y := if (I 127 47) = 40 then z_go 41 [some (.ref 127), some (.int (nI t)), some (.int (nI h)), some (.int (nI v))] [] 161 (I, J, RF w) else z_go 44 [some (.ref 127), some (.int (nI t)), some (.int (nI h)), some (.int (nI v))] [] 161 (I, J, RF w)) (fun _ => rfl) ?_
  refine z_evT (((show _ ↔ m = 40 from z_eqN h_m rfl (by omega) (by omega)).mpr (by omega))) ?_
  refine z_evL ?_
  refine z_evG 2 (y := some (.inr (some (.int (-4)), 161, I, J, RF w))) (fun _ => rfl) ?_
  exact z_evR rfl
set_option maxRecDepth 20000 in
/-- LampHouseModel.age -/
theorem m_age_ok (E : zE) (d : Nat) (I : Nat → Nat → Int32) (J : Nat → Nat → Int64) (w : Nat) (t h v n m : Nat) (h_n : I 127 3 = nI n) (hm_n : n ≤ 20) (h_m : I 127 47 = nI m) (hm_m : m ≤ 40) (hl_t : t < n) (hl_h : h < 10000) (hl_v : v < 101) (hf : m < 40) : z_cl E (d + 3) 233 [.ref 127, .int (nI t), .int (nI h), .int (nI v)] (161, I, J, RF w) = some (some (.int (nI (m + 1))), 161, (z_u2 (z_u2 (z_u2 (z_u2 I 152 m (nI t)) 153 m (nI h)) 154 m (nI v)) 127 47 (nI (m + 1))), J, RF w) := by
  refine z_call (d := d + 2) (M := z_m233) rfl rfl ?_
  refine z_evG 3 (y := z_ret (z_cl E (d + 2) 183 [.ref 127, .int (nI t)] (161, (I, J, RF w))) 5 [some (.ref 127), some (.int (nI t)), some (.int (nI h)), some (.int (nI v))] []) (fun _ => rfl) ?_
  refine z_evK (v := .int (z_bo (¬ (nI t) < 0 ∧ ¬ I 127 3 - 1 < (nI t)))) (z' := 161) (σ' := (I, J, RF w)) (m_isThing E d I J w (nI t)) ?_
  refine z_evG 1 (y := if (z_bo (¬ (nI t) < 0 ∧ ¬ I 127 3 - 1 < (nI t))) = 0 then z_go 29 [some (.ref 127), some (.int (nI t)), some (.int (nI h)), some (.int (nI v))] [] 161 (I, J, RF w) else z_go 8 [some (.ref 127), some (.int (nI t)), some (.int (nI h)), some (.int (nI v))] [] 161 (I, J, RF w)) (fun _ => rfl) ?_
  refine z_evF (fun q => z_bo_0.mp q ⟨(mt (show _ ↔ t < 0 from z_ltN rfl rfl (by omega) (by omega)).mp (by omega)), (z_plt h_n rfl (by omega) (by omega))⟩) ?_
  refine z_evL ?_
  refine z_evG 4 (y := z_ret (z_cl E (d + 2) 178 [.int (nI h), .int 0, .int 9999] (161, (I, J, RF w))) 16 [some (.ref 127), some (.int (nI t)), some (.int (nI h)), some (.int (nI v))] []) (fun _ => rfl) ?_
  refine z_evK (v := .int (z_bo (¬ (nI h) < 0 ∧ ¬ 9999 < (nI h)))) (z' := 161) (σ' := (I, J, RF w)) (m_in E (d + 1) I J w (nI h) 0 9999) ?_
  refine z_evG 1 (y := if (z_bo (¬ (nI h) < 0 ∧ ¬ 9999 < (nI h))) = 0 then z_go 29 [some (.ref 127), some (.int (nI t)), some (.int (nI h)), some (.int (nI v))] [] 161 (I, J, RF w) else z_go 19 [some (.ref 127), some (.int (nI t)), some (.int (nI h)), some (.int (nI v))] [] 161 (I, J, RF w)) (fun _ => rfl) ?_
  refine z_evF (fun q => z_bo_0.mp q ⟨(mt (show _ ↔ h < 0 from z_ltN rfl rfl (by omega) (by omega)).mp (by omega)), (mt (show _ ↔ 9999 < h from z_ltN rfl rfl (by omega) (by omega)).mp (by omega))⟩) ?_
  refine z_evL ?_
  refine z_evG 4 (y := z_ret (z_cl E (d + 2) 178 [.int (nI v), .int 0, .int 100] (161, (I, J, RF w))) 26 [some (.ref 127), some (.int (nI t)), some (.int (nI h)), some (.int (nI v))] []) (fun _ => rfl) ?_
  refine z_evK (v := .int (z_bo (¬ (nI v) < 0 ∧ ¬ 100 < (nI v)))) (z' := 161) (σ' := (I, J, RF w)) (m_in E (d + 1) I J w (nI v) 0 100) ?_
  refine z_evG 1 (y := if (z_bo (¬ (nI v) < 0 ∧ ¬ 100 < (nI v))) = 0 then z_go 29 [some (.ref 127), some (.int (nI t)), some (.int (nI h)), some (.int (nI v))] [] 161 (I, J, RF w) else z_go 32 [some (.ref 127), some (.int (nI t)), some (.int (nI h)), some (.int (nI v))] [] 161 (I, J, RF w)) (fun _ => rfl) ?_
  refine z_evF (fun q => z_bo_0.mp q ⟨(mt (show _ ↔ v < 0 from z_ltN rfl rfl (by omega) (by omega)).mp (by omega)), (mt (show _ ↔ 100 < v from z_ltN rfl rfl (by omega) (by omega)).mp (by omega))⟩) ?_
  refine z_evL ?_
  refine z_evG 4 (y := if (I 127 47) = 40 then z_go 41 [some (.ref 127), some (.int (nI t)), some (.int (nI h)), some (.int (nI v))] [] 161 (I, J, RF w) else z_go 44 [some (.ref 127), some (.int (nI t)), some (.int (nI h)), some (.int (nI v))] [] 161 (I, J, RF w)) (fun _ => rfl) ?_
  refine z_evF ((mt (show _ ↔ m = 40 from z_eqN h_m rfl (by omega) (by omega)).mp (by omega))) ?_
  refine z_evL ?_
  refine z_evG 6 (y := z_ck (z_in (I 127 47) 40) (z_go 54 [some (.ref 127), some (.int (nI t)), some (.int (nI h)), some (.int (nI v))] [] 161 ((z_u2 I 152 ((I 127 47).toNatClampNeg) (nI t)), J, RF w))) (fun _ => rfl) ?_
  refine z_evC (z_inN (k := m) h_m (by omega) (by decide)) ?_
  refine z_evL ?_
  rw [show ((I 127 47 : Int32)).toNatClampNeg = m from z_natE h_m (by omega)]
  refine z_evG 6 (y := z_ck (z_in (I 127 47) 40) (z_go 64 [some (.ref 127), some (.int (nI t)), some (.int (nI h)), some (.int (nI v))] [] 161 ((z_u2 (z_u2 I 152 m (nI t)) 153 ((I 127 47).toNatClampNeg) (nI h)), J, RF w))) (fun _ => rfl) ?_
  refine z_evC (z_inN (k := m) h_m (by omega) (by decide)) ?_
  refine z_evL ?_
  rw [show ((I 127 47 : Int32)).toNatClampNeg = m from z_natE h_m (by omega)]
  refine z_evG 6 (y := z_ck (z_in (I 127 47) 40) (z_go 74 [some (.ref 127), some (.int (nI t)), some (.int (nI h)), some (.int (nI v))] [] 161 ((z_u2 (z_u2 (z_u2 I 152 m (nI t)) 153 m (nI h)) 154 ((I 127 47).toNatClampNeg) (nI v)), J, RF w))) (fun _ => rfl) ?_
  refine z_evC (z_inN (k := m) h_m (by omega) (by decide)) ?_
  refine z_evL ?_
  rw [show ((I 127 47 : Int32)).toNatClampNeg = m from z_natE h_m (by omega)]
  refine z_evG 9 (y := some (.inr (some (.int ((I 127 47) + 1)), 161, (z_u2 (z_u2 (z_u2 (z_u2 I 152 m (nI t)) 153 m (nI h)) 154 m (nI v)) 127 47 ((I 127 47) + 1)), J, RF w))) (fun _ => rfl) ?_
  rw [show ((I 127 47) + 1 : Int32) = nI (m + 1) from (z_addE h_m rfl)]
  exact z_evR rfl
set_option maxRecDepth 20000 in
/-- LampHouse.flicker -/
theorem x_flicker_bad (E : zE) (d : Nat) (I : Nat → Nat → Int32) (J : Nat → Nat → Int64) (w : Nat) (t v : Int32) (hbad : ¬ ((¬ t < 0 ∧ t < I 37 7) ∧ (¬ v < 0) ∧ (¬ 65535 < v))) : z_cl E (d + 2) 154 [.ref 0, .int t, .int v] (161, I, J, RF w) = some (some (.int (-2)), 161, I, J, RF w) := by
  refine z_call (d := d + 1) (M := z_m154) rfl rfl ?_
  refine z_evG 4 (y := z_ret (z_cl E (d + 1) 108 [.ref 37, .int t] (161, (I, J, RF w))) 8 [some (.ref 0), some (.int t), some (.int v)] []) (fun _ => rfl) ?_
  refine z_evK (v := .int (z_bo (¬ t < 0 ∧ t < I 37 7))) (z' := 161) (σ' := (I, J, RF w)) (x_things_has E d I J w t) ?_
  refine z_evG 1 (y := if (z_bo (¬ t < 0 ∧ t < I 37 7)) = 0 then z_go 22 [some (.ref 0), some (.int t), some (.int v)] [] 161 (I, J, RF w) else z_go 11 [some (.ref 0), some (.int t), some (.int v)] [] 161 (I, J, RF w)) (fun _ => rfl) ?_
  refine z_evO (fun h1 => ?_) (fun h1 => ?_)
  · refine z_evL ?_
    refine z_evG 2 (y := some (.inr (some (.int (-2)), 161, I, J, RF w))) (fun _ => rfl) ?_
    exact z_evR rfl
  · refine z_evL ?_
    refine z_evG 2 (y := if v < 0 then z_go 22 [some (.ref 0), some (.int t), some (.int v)] [] 161 (I, J, RF w) else z_go 15 [some (.ref 0), some (.int t), some (.int v)] [] 161 (I, J, RF w)) (fun _ => rfl) ?_
    refine z_evI (fun h2 => ?_) (fun h2 => ?_)
    · refine z_evL ?_
      refine z_evG 2 (y := some (.inr (some (.int (-2)), 161, I, J, RF w))) (fun _ => rfl) ?_
      exact z_evR rfl
    · refine z_evL ?_
      refine z_evG 3 (y := if 65535 < v then z_go 22 [some (.ref 0), some (.int t), some (.int v)] [] 161 (I, J, RF w) else z_go 25 [some (.ref 0), some (.int t), some (.int v)] [] 161 (I, J, RF w)) (fun _ => rfl) ?_
      refine z_evI (fun h3 => ?_) (fun h3 => ?_)
      · refine z_evL ?_
        refine z_evG 2 (y := some (.inr (some (.int (-2)), 161, I, J, RF w))) (fun _ => rfl) ?_
        exact z_evR rfl
      · refine z_evL ?_
        exact absurd ⟨h1, h2, h3⟩ hbad
set_option maxRecDepth 20000 in
/-- LampHouseModel.flicker -/
theorem m_flicker_bad (E : zE) (d : Nat) (I : Nat → Nat → Int32) (J : Nat → Nat → Int64) (w : Nat) (t v : Int32) (hbad : ¬ ((¬ t < 0 ∧ ¬ I 127 3 - 1 < t) ∧ (¬ v < 0 ∧ ¬ 65535 < v))) : z_cl E (d + 3) 236 [.ref 127, .int t, .int v] (161, I, J, RF w) = some (some (.int (-2)), 161, I, J, RF w) := by
  refine z_call (d := d + 2) (M := z_m236) rfl rfl ?_
  refine z_evG 3 (y := z_ret (z_cl E (d + 2) 183 [.ref 127, .int t] (161, (I, J, RF w))) 5 [some (.ref 127), some (.int t), some (.int v), none] []) (fun _ => rfl) ?_
  refine z_evK (v := .int (z_bo (¬ t < 0 ∧ ¬ I 127 3 - 1 < t))) (z' := 161) (σ' := (I, J, RF w)) (m_isThing E d I J w t) ?_
  refine z_evG 1 (y := if (z_bo (¬ t < 0 ∧ ¬ I 127 3 - 1 < t)) = 0 then z_go 18 [some (.ref 127), some (.int t), some (.int v), none] [] 161 (I, J, RF w) else z_go 8 [some (.ref 127), some (.int t), some (.int v), none] [] 161 (I, J, RF w)) (fun _ => rfl) ?_
  refine z_evO (fun h1 => ?_) (fun h1 => ?_)
  · refine z_evL ?_
    refine z_evG 2 (y := some (.inr (some (.int (-2)), 161, I, J, RF w))) (fun _ => rfl) ?_
    exact z_evR rfl
  · refine z_evL ?_
    refine z_evG 4 (y := z_ret (z_cl E (d + 2) 178 [.int v, .int 0, .int 65535] (161, (I, J, RF w))) 15 [some (.ref 127), some (.int t), some (.int v), none] []) (fun _ => rfl) ?_
    refine z_evK (v := .int (z_bo (¬ v < 0 ∧ ¬ 65535 < v))) (z' := 161) (σ' := (I, J, RF w)) (m_in E (d + 1) I J w v 0 65535) ?_
    refine z_evG 1 (y := if (z_bo (¬ v < 0 ∧ ¬ 65535 < v)) = 0 then z_go 18 [some (.ref 127), some (.int t), some (.int v), none] [] 161 (I, J, RF w) else z_go 21 [some (.ref 127), some (.int t), some (.int v), none] [] 161 (I, J, RF w)) (fun _ => rfl) ?_
    refine z_evO (fun h2 => ?_) (fun h2 => ?_)
    · refine z_evL ?_
      refine z_evG 2 (y := some (.inr (some (.int (-2)), 161, I, J, RF w))) (fun _ => rfl) ?_
      exact z_evR rfl
    · refine z_evL ?_
      exact absurd ⟨h1, h2⟩ hbad
set_option maxRecDepth 20000 in
/-- LampHouse.flicker -/
theorem x_flicker_ok (E : zE) (d : Nat) (I : Nat → Nat → Int32) (J : Nat → Nat → Int64) (w : Nat) (t v n : Nat) (h_n : I 37 7 = nI n) (hm_n : n ≤ 20) (hl_t : t < n) (hl_v : v < 65536) : z_cl E (d + 2) 154 [.ref 0, .int (nI t), .int (nI v)] (161, I, J, RF w) = some (some (.int (I 42 t)), 161, (z_u2 I 42 t (nI v)), J, RF w) := by
  refine z_call (d := d + 1) (M := z_m154) rfl rfl ?_
  refine z_evG 4 (y := z_ret (z_cl E (d + 1) 108 [.ref 37, .int (nI t)] (161, (I, J, RF w))) 8 [some (.ref 0), some (.int (nI t)), some (.int (nI v))] []) (fun _ => rfl) ?_
  refine z_evK (v := .int (z_bo (¬ (nI t) < 0 ∧ (nI t) < I 37 7))) (z' := 161) (σ' := (I, J, RF w)) (x_things_has E d I J w (nI t)) ?_
  refine z_evG 1 (y := if (z_bo (¬ (nI t) < 0 ∧ (nI t) < I 37 7)) = 0 then z_go 22 [some (.ref 0), some (.int (nI t)), some (.int (nI v))] [] 161 (I, J, RF w) else z_go 11 [some (.ref 0), some (.int (nI t)), some (.int (nI v))] [] 161 (I, J, RF w)) (fun _ => rfl) ?_
  refine z_evF (fun q => z_bo_0.mp q ⟨(mt (show _ ↔ t < 0 from z_ltN rfl rfl (by omega) (by omega)).mp (by omega)), ((show _ ↔ t < n from z_ltN rfl h_n (by omega) (by omega)).mpr (by omega))⟩) ?_
  refine z_evL ?_
  refine z_evG 2 (y := if (nI v) < 0 then z_go 22 [some (.ref 0), some (.int (nI t)), some (.int (nI v))] [] 161 (I, J, RF w) else z_go 15 [some (.ref 0), some (.int (nI t)), some (.int (nI v))] [] 161 (I, J, RF w)) (fun _ => rfl) ?_
  refine z_evF ((mt (show _ ↔ v < 0 from z_ltN rfl rfl (by omega) (by omega)).mp (by omega))) ?_
  refine z_evL ?_
  refine z_evG 3 (y := if 65535 < (nI v) then z_go 22 [some (.ref 0), some (.int (nI t)), some (.int (nI v))] [] 161 (I, J, RF w) else z_go 25 [some (.ref 0), some (.int (nI t)), some (.int (nI v))] [] 161 (I, J, RF w)) (fun _ => rfl) ?_
  refine z_evF ((mt (show _ ↔ 65535 < v from z_ltN rfl rfl (by omega) (by omega)).mp (by omega))) ?_
  refine z_evL ?_
  refine z_evG 5 (y := z_ret (z_cl E (d + 1) 119 [.ref 37, .int (nI t), .int (nI v)] (161, (I, J, RF w))) 34 [some (.ref 0), some (.int (nI t)), some (.int (nI v))] []) (fun _ => rfl) ?_
  refine z_evK (v := .int (I 42 t)) (z' := 161) (σ' := ((z_u2 I 42 t (nI v)), J, RF w)) (x_things_changeStepsN E d I J w t (nI v) (by omega)) ?_
  refine z_evG 1 (y := some (.inr (some (.int (I 42 t)), 161, (z_u2 I 42 t (nI v)), J, RF w))) (fun _ => rfl) ?_
  exact z_evR rfl
set_option maxRecDepth 20000 in
/-- LampHouseModel.flicker -/
theorem m_flicker_ok (E : zE) (d : Nat) (I : Nat → Nat → Int32) (J : Nat → Nat → Int64) (w : Nat) (t v n : Nat) (h_n : I 127 3 = nI n) (hm_n : n ≤ 20) (hl_t : t < n) (hl_v : v < 65536) : z_cl E (d + 3) 236 [.ref 127, .int (nI t), .int (nI v)] (161, I, J, RF w) = some (some (.int (I 133 t)), 161, (z_u2 I 133 t (nI v)), J, RF w) := by
  refine z_call (d := d + 2) (M := z_m236) rfl rfl ?_
  refine z_evG 3 (y := z_ret (z_cl E (d + 2) 183 [.ref 127, .int (nI t)] (161, (I, J, RF w))) 5 [some (.ref 127), some (.int (nI t)), some (.int (nI v)), none] []) (fun _ => rfl) ?_
  refine z_evK (v := .int (z_bo (¬ (nI t) < 0 ∧ ¬ I 127 3 - 1 < (nI t)))) (z' := 161) (σ' := (I, J, RF w)) (m_isThing E d I J w (nI t)) ?_
  refine z_evG 1 (y := if (z_bo (¬ (nI t) < 0 ∧ ¬ I 127 3 - 1 < (nI t))) = 0 then z_go 18 [some (.ref 127), some (.int (nI t)), some (.int (nI v)), none] [] 161 (I, J, RF w) else z_go 8 [some (.ref 127), some (.int (nI t)), some (.int (nI v)), none] [] 161 (I, J, RF w)) (fun _ => rfl) ?_
  refine z_evF (fun q => z_bo_0.mp q ⟨(mt (show _ ↔ t < 0 from z_ltN rfl rfl (by omega) (by omega)).mp (by omega)), (z_plt h_n rfl (by omega) (by omega))⟩) ?_
  refine z_evL ?_
  refine z_evG 4 (y := z_ret (z_cl E (d + 2) 178 [.int (nI v), .int 0, .int 65535] (161, (I, J, RF w))) 15 [some (.ref 127), some (.int (nI t)), some (.int (nI v)), none] []) (fun _ => rfl) ?_
  refine z_evK (v := .int (z_bo (¬ (nI v) < 0 ∧ ¬ 65535 < (nI v)))) (z' := 161) (σ' := (I, J, RF w)) (m_in E (d + 1) I J w (nI v) 0 65535) ?_
  refine z_evG 1 (y := if (z_bo (¬ (nI v) < 0 ∧ ¬ 65535 < (nI v))) = 0 then z_go 18 [some (.ref 127), some (.int (nI t)), some (.int (nI v)), none] [] 161 (I, J, RF w) else z_go 21 [some (.ref 127), some (.int (nI t)), some (.int (nI v)), none] [] 161 (I, J, RF w)) (fun _ => rfl) ?_
  refine z_evF (fun q => z_bo_0.mp q ⟨(mt (show _ ↔ v < 0 from z_ltN rfl rfl (by omega) (by omega)).mp (by omega)), (mt (show _ ↔ 65535 < v from z_ltN rfl rfl (by omega) (by omega)).mp (by omega))⟩) ?_
  refine z_evL ?_
  refine z_evG 4 (y := z_ild (z_ia E 161 (I, J, RF w) 133) (nI t) fun vv => z_go 27 [some (.ref 127), some (.int (nI t)), some (.int (nI v)), none] [.int vv] 161 (I, J, RF w)) (fun _ => rfl) ?_
  refine z_evBn (N := 20) (f := (I 133)) (k := t) rfl rfl (by omega) ?_
  refine z_evL ?_
  refine z_evG 6 (y := z_ck (z_in (nI t) 20) (z_go 35 [some (.ref 127), some (.int (nI t)), some (.int (nI v)), some (.int (I 133 t))] [] 161 ((z_u2 I 133 ((nI t).toNatClampNeg) (nI v)), J, RF w))) (fun _ => rfl) ?_
  refine z_evC (z_inN (k := t) rfl (by omega) (by decide)) ?_
  refine z_evL ?_
  rw [show ((nI t : Int32)).toNatClampNeg = t from z_natE rfl (by omega)]
  refine z_evG 2 (y := some (.inr (some (.int (I 133 t)), 161, (z_u2 I 133 t (nI v)), J, RF w))) (fun _ => rfl) ?_
  exact z_evR rfl
set_option maxRecDepth 20000 in
/-- LampHouse.force -/
theorem x_force_bad (E : zE) (d : Nat) (I : Nat → Nat → Int32) (J : Nat → Nat → Int64) (w : Nat) (t : Int32) (hbad : ¬ (¬ t < 0 ∧ t < I 79 6)) : z_cl E (d + 2) 143 [.ref 0, .int t] (161, I, J, RF w) = some (some (.int (-2)), 161, I, J, RF w) := by
  refine z_call (d := d + 1) (M := z_m143) rfl rfl ?_
  refine z_evG 4 (y := z_ret (z_cl E (d + 1) 82 [.ref 79, .int t] (161, (I, J, RF w))) 8 [some (.ref 0), some (.int t)] []) (fun _ => rfl) ?_
  refine z_evK (v := .int (z_bo (¬ t < 0 ∧ t < I 79 6))) (z' := 161) (σ' := (I, J, RF w)) (x_rules_has E d I J w t) ?_
  refine z_evG 1 (y := if (z_bo (¬ t < 0 ∧ t < I 79 6)) = 0 then z_go 22 [some (.ref 0), some (.int t)] [] 161 (I, J, RF w) else z_go 11 [some (.ref 0), some (.int t)] [] 161 (I, J, RF w)) (fun _ => rfl) ?_
  refine z_evO (fun h1 => ?_) (fun h1 => ?_)
  · refine z_evL ?_
    refine z_evG 2 (y := some (.inr (some (.int (-2)), 161, I, J, RF w))) (fun _ => rfl) ?_
    exact z_evR rfl
  · refine z_evL ?_
    exact absurd h1 hbad
set_option maxRecDepth 20000 in
/-- LampHouseModel.force -/
theorem m_force_bad (E : zE) (d : Nat) (I : Nat → Nat → Int32) (J : Nat → Nat → Int64) (w : Nat) (t : Int32) (hbad : ¬ (¬ t < 0 ∧ ¬ I 127 16 - 1 < t)) : z_cl E (d + 2) 216 [.ref 127, .int t] (161, I, J, RF w) = some (some (.int (-2)), 161, I, J, RF w) := by
  refine z_call (d := d + 1) (M := z_m216) rfl rfl ?_
  refine z_evG 7 (y := z_ret (z_cl E (d + 1) 178 [.int t, .int 0, .int ((I 127 16) - 1)] (161, (I, J, RF w))) 11 [some (.ref 127), some (.int t), none] []) (fun _ => rfl) ?_
  refine z_evK (v := .int (z_bo (¬ t < 0 ∧ ¬ ((I 127 16) - 1) < t))) (z' := 161) (σ' := (I, J, RF w)) (m_in E d I J w t 0 ((I 127 16) - 1)) ?_
  refine z_evG 1 (y := if (z_bo (¬ t < 0 ∧ ¬ ((I 127 16) - 1) < t)) = 0 then z_go 14 [some (.ref 127), some (.int t), none] [] 161 (I, J, RF w) else z_go 17 [some (.ref 127), some (.int t), none] [] 161 (I, J, RF w)) (fun _ => rfl) ?_
  refine z_evO (fun h1 => ?_) (fun h1 => ?_)
  · refine z_evL ?_
    refine z_evG 2 (y := some (.inr (some (.int (-2)), 161, I, J, RF w))) (fun _ => rfl) ?_
    exact z_evR rfl
  · refine z_evL ?_
    exact absurd h1 hbad
set_option maxRecDepth 20000 in
/-- LampHouse.force -/
theorem x_force_ok (E : zE) (d : Nat) (I : Nat → Nat → Int32) (J : Nat → Nat → Int64) (w : Nat) (t n : Nat) (h_n : I 79 6 = nI n) (hm_n : n ≤ 6) (hl_t : t < n) : z_cl E (d + 2) 143 [.ref 0, .int (nI t)] (161, I, J, RF w) = some (some (.int (I 79 7)), 161, (z_u2 I 79 7 (nI t)), J, RF w) := by
  refine z_call (d := d + 1) (M := z_m143) rfl rfl ?_
  refine z_evG 4 (y := z_ret (z_cl E (d + 1) 82 [.ref 79, .int (nI t)] (161, (I, J, RF w))) 8 [some (.ref 0), some (.int (nI t))] []) (fun _ => rfl) ?_
  refine z_evK (v := .int (z_bo (¬ (nI t) < 0 ∧ (nI t) < I 79 6))) (z' := 161) (σ' := (I, J, RF w)) (x_rules_has E d I J w (nI t)) ?_
  refine z_evG 1 (y := if (z_bo (¬ (nI t) < 0 ∧ (nI t) < I 79 6)) = 0 then z_go 22 [some (.ref 0), some (.int (nI t))] [] 161 (I, J, RF w) else z_go 11 [some (.ref 0), some (.int (nI t))] [] 161 (I, J, RF w)) (fun _ => rfl) ?_
  refine z_evF (fun q => z_bo_0.mp q ⟨(mt (show _ ↔ t < 0 from z_ltN rfl rfl (by omega) (by omega)).mp (by omega)), ((show _ ↔ t < n from z_ltN rfl h_n (by omega) (by omega)).mpr (by omega))⟩) ?_
  refine z_evL ?_
  refine z_evG 4 (y := z_ret (z_cl E (d + 1) 85 [.ref 79, .int (nI t)] (161, (I, J, RF w))) 19 [some (.ref 0), some (.int (nI t))] []) (fun _ => rfl) ?_
  refine z_evK (v := .int (I 79 7)) (z' := 161) (σ' := ((z_u2 I 79 7 (nI t)), J, RF w)) (x_rules_choose E d I J w (nI t)) ?_
  refine z_evG 2 (y := some (.inr (some (.int (I 79 7)), 161, (z_u2 I 79 7 (nI t)), J, RF w))) (fun _ => rfl) ?_
  exact z_evR rfl
set_option maxRecDepth 20000 in
/-- LampHouseModel.force -/
theorem m_force_ok (E : zE) (d : Nat) (I : Nat → Nat → Int32) (J : Nat → Nat → Int64) (w : Nat) (t n : Nat) (h_n : I 127 16 = nI n) (hm_n : n ≤ 6) (hl_t : t < n) : z_cl E (d + 2) 216 [.ref 127, .int (nI t)] (161, I, J, RF w) = some (some (.int (I 127 20)), 161, (z_u2 I 127 20 (nI t)), J, RF w) := by
  refine z_call (d := d + 1) (M := z_m216) rfl rfl ?_
  refine z_evG 7 (y := z_ret (z_cl E (d + 1) 178 [.int (nI t), .int 0, .int ((I 127 16) - 1)] (161, (I, J, RF w))) 11 [some (.ref 127), some (.int (nI t)), none] []) (fun _ => rfl) ?_
  refine z_evK (v := .int (z_bo (¬ (nI t) < 0 ∧ ¬ ((I 127 16) - 1) < (nI t)))) (z' := 161) (σ' := (I, J, RF w)) (m_in E d I J w (nI t) 0 ((I 127 16) - 1)) ?_
  refine z_evG 1 (y := if (z_bo (¬ (nI t) < 0 ∧ ¬ ((I 127 16) - 1) < (nI t))) = 0 then z_go 14 [some (.ref 127), some (.int (nI t)), none] [] 161 (I, J, RF w) else z_go 17 [some (.ref 127), some (.int (nI t)), none] [] 161 (I, J, RF w)) (fun _ => rfl) ?_
  refine z_evF (fun q => z_bo_0.mp q ⟨(mt (show _ ↔ t < 0 from z_ltN rfl rfl (by omega) (by omega)).mp (by omega)), (z_plt h_n rfl (by omega) (by omega))⟩) ?_
  refine z_evL ?_
  refine z_evG 8 (y := some (.inr (some (.int (I 127 20)), 161, (z_u2 I 127 20 (nI t)), J, RF w))) (fun _ => rfl) ?_
  exact z_evR rfl
set_option maxRecDepth 20000 in
/-- LampHouse$Eyes.add -/
theorem x_eyes_addF (E : zE) (d : Nat) (I : Nat → Nat → Int32) (J : Nat → Nat → Int64) (w : Nat) (a b : Int32) (n : Nat) (h_n : I 65 3 = nI n) (hl_n : n < 8) : z_cl E (d + 1) 19 [.ref 65, .int a, .int b, .int (-1)] (161, I, J, RF w) = some (some (.int (nI n)), 161, (z_u2 (z_u2 (z_u2 (z_u2 (z_u2 I (67 + n) 0 a) (67 + n) 1 b) (67 + n) 2 (-1)) 75 n 2) 65 3 (nI (n + 1))), J, RF w) := by
  refine z_call (d := d + 0) (M := z_m19) rfl rfl ?_
  refine z_evG 5 (y := z_ck (z_in (I 65 3) 8) (z_go 9 [some (.ref 65), some (.int a), some (.int b), some (.int (-1))] [.ref (67 + (I 65 3).toNatClampNeg)] 161 (I, J, RF w))) (fun _ => rfl) ?_
  refine z_evC (z_inN (k := n) h_n (by omega) (by decide)) ?_
  refine z_evL ?_
  rw [show ((I 65 3 : Int32)).toNatClampNeg = n from z_natE h_n (by omega)]
  refine z_evG 3 (y := z_ck (z_isA 161 (I, J, RF w) (67 + n) 0 && z_in 0 (z_SH (67 + n)).2) (z_go 12 [some (.ref 65), some (.int a), some (.int b), some (.int (-1))] [] 161 ((z_u2 I (67 + n) ((0 : Int32).toNatClampNeg) a), J, RF w))) (fun _ => rfl) ?_
  refine z_evC (z_stA (z_A_takers n (by omega)) (z_inN (k := 0) rfl (by decide) (by decide))) ?_
  refine z_evL ?_
  rw [show ((0 : Int32)).toNatClampNeg = 0 from rfl]
  refine z_evG 5 (y := z_ck (z_in ((z_u2 I (67 + n) 0 a) 65 3) 8) (z_go 21 [some (.ref 65), some (.int a), some (.int b), some (.int (-1))] [.ref (67 + ((z_u2 I (67 + n) 0 a) 65 3).toNatClampNeg)] 161 ((z_u2 I (67 + n) 0 a), J, RF w))) (fun _ => rfl) ?_
  refine z_evC (z_inN (k := n) ((z_u2_n _ _ (by omega)).trans h_n) (by omega) (by decide)) ?_
  refine z_evL ?_
  rw [show (((z_u2 I (67 + n) 0 a) 65 3 : Int32)).toNatClampNeg = n from z_natE ((z_u2_n _ _ (by omega)).trans h_n) (by omega)]
  refine z_evG 3 (y := z_ck (z_isA 161 ((z_u2 I (67 + n) 0 a), J, RF w) (67 + n) 0 && z_in 1 (z_SH (67 + n)).2) (z_go 24 [some (.ref 65), some (.int a), some (.int b), some (.int (-1))] [] 161 ((z_u2 (z_u2 I (67 + n) 0 a) (67 + n) ((1 : Int32).toNatClampNeg) b), J, RF w))) (fun _ => rfl) ?_
  refine z_evC (z_stA (z_A_takers n (by omega)) (z_inN (k := 1) rfl (by decide) (by decide))) ?_
  refine z_evL ?_
  rw [show ((1 : Int32)).toNatClampNeg = 1 from rfl]
  refine z_evG 5 (y := z_ck (z_in ((z_u2 (z_u2 I (67 + n) 0 a) (67 + n) 1 b) 65 3) 8) (z_go 33 [some (.ref 65), some (.int a), some (.int b), some (.int (-1))] [.ref (67 + ((z_u2 (z_u2 I (67 + n) 0 a) (67 + n) 1 b) 65 3).toNatClampNeg)] 161 ((z_u2 (z_u2 I (67 + n) 0 a) (67 + n) 1 b), J, RF w))) (fun _ => rfl) ?_
  refine z_evC (z_inN (k := n) (((z_u2_n _ _ (by omega)).trans (z_u2_n _ _ (by omega))).trans h_n) (by omega) (by decide)) ?_
  refine z_evL ?_
  rw [show (((z_u2 (z_u2 I (67 + n) 0 a) (67 + n) 1 b) 65 3 : Int32)).toNatClampNeg = n from z_natE (((z_u2_n _ _ (by omega)).trans (z_u2_n _ _ (by omega))).trans h_n) (by omega)]
  refine z_evG 3 (y := z_ck (z_isA 161 ((z_u2 (z_u2 I (67 + n) 0 a) (67 + n) 1 b), J, RF w) (67 + n) 0 && z_in 2 (z_SH (67 + n)).2) (z_go 36 [some (.ref 65), some (.int a), some (.int b), some (.int (-1))] [] 161 ((z_u2 (z_u2 (z_u2 I (67 + n) 0 a) (67 + n) 1 b) (67 + n) ((2 : Int32).toNatClampNeg) (-1)), J, RF w))) (fun _ => rfl) ?_
  refine z_evC (z_stA (z_A_takers n (by omega)) (z_inN (k := 2) rfl (by decide) (by decide))) ?_
  refine z_evL ?_
  rw [show ((2 : Int32)).toNatClampNeg = 2 from rfl]
  refine z_evG 7 (y := if (-1) = (-1) then z_go 49 [some (.ref 65), some (.int a), some (.int b), some (.int (-1))] [.int ((z_u2 (z_u2 (z_u2 I (67 + n) 0 a) (67 + n) 1 b) (67 + n) 2 (-1)) 65 3), .ref 75] 161 ((z_u2 (z_u2 (z_u2 I (67 + n) 0 a) (67 + n) 1 b) (67 + n) 2 (-1)), J, RF w) else z_go 53 [some (.ref 65), some (.int a), some (.int b), some (.int (-1))] [.int ((z_u2 (z_u2 (z_u2 I (67 + n) 0 a) (67 + n) 1 b) (67 + n) 2 (-1)) 65 3), .ref 75] 161 ((z_u2 (z_u2 (z_u2 I (67 + n) 0 a) (67 + n) 1 b) (67 + n) 2 (-1)), J, RF w)) (fun _ => rfl) ?_
  refine z_evI (fun _ => ?_) (fun q => absurd (by decide) q)
  refine z_evL ?_
  refine z_evG 3 (y := z_ck (z_in ((z_u2 (z_u2 (z_u2 I (67 + n) 0 a) (67 + n) 1 b) (67 + n) 2 (-1)) 65 3) 8) (z_go 55 [some (.ref 65), some (.int a), some (.int b), some (.int (-1))] [] 161 ((z_u2 (z_u2 (z_u2 (z_u2 I (67 + n) 0 a) (67 + n) 1 b) (67 + n) 2 (-1)) 75 (((z_u2 (z_u2 (z_u2 I (67 + n) 0 a) (67 + n) 1 b) (67 + n) 2 (-1)) 65 3).toNatClampNeg) 2), J, RF w))) (fun _ => rfl) ?_
  refine z_evC (z_inN (k := n) (((z_u2_n _ _ (by omega)).trans ((z_u2_n _ _ (by omega)).trans (z_u2_n _ _ (by omega)))).trans h_n) (by omega) (by decide)) ?_
  refine z_evL ?_
  rw [show (((z_u2 (z_u2 (z_u2 I (67 + n) 0 a) (67 + n) 1 b) (67 + n) 2 (-1)) 65 3 : Int32)).toNatClampNeg = n from z_natE (((z_u2_n _ _ (by omega)).trans ((z_u2_n _ _ (by omega)).trans (z_u2_n _ _ (by omega)))).trans h_n) (by omega)]
  refine z_evG 8 (y := some (.inr (some (.int ((z_u2 (z_u2 (z_u2 I (67 + n) 0 a) (67 + n) 1 b) (67 + n) 2 (-1)) 65 3)), 161, (z_u2 (z_u2 (z_u2 (z_u2 (z_u2 I (67 + n) 0 a) (67 + n) 1 b) (67 + n) 2 (-1)) 75 n 2) 65 3 (((z_u2 (z_u2 (z_u2 I (67 + n) 0 a) (67 + n) 1 b) (67 + n) 2 (-1)) 65 3) + 1)), J, RF w))) (fun _ => rfl) ?_
  rw [show (((z_u2 (z_u2 (z_u2 I (67 + n) 0 a) (67 + n) 1 b) (67 + n) 2 (-1)) 65 3) + 1 : Int32) = nI (n + 1) from (z_addE (((z_u2_n _ _ (by omega)).trans ((z_u2_n _ _ (by omega)).trans (z_u2_n _ _ (by omega)))).trans h_n) rfl)]
  rw [show ((z_u2 (z_u2 (z_u2 I (67 + n) 0 a) (67 + n) 1 b) (67 + n) 2 (-1)) 65 3 : Int32) = nI n from (((z_u2_n _ _ (by omega)).trans ((z_u2_n _ _ (by omega)).trans (z_u2_n _ _ (by omega)))).trans h_n)]
  exact z_evR rfl
set_option maxRecDepth 20000 in
/-- LampHouse.eye -/
theorem x_eye_full3 (E : zE) (d : Nat) (I : Nat → Nat → Int32) (J : Nat → Nat → Int64) (w : Nat) (a b c n m : Nat) (h_n : I 1 1 = nI n) (hm_n : n ≤ 30) (h_m : I 65 3 = nI m) (hm_m : m ≤ 8) (hl_a : a < n) (hl_b : b < n) (hl_c : c < n) (hf : m = 8) : z_cl E (d + 2) 137 [.ref 0, .int (nI a), .int (nI b), .int (nI c)] (161, I, J, RF w) = some (some (.int (-4)), 161, I, J, RF w) := by
  refine z_call (d := d + 1) (M := z_m137) rfl rfl ?_
  refine z_evG 4 (y := z_ret (z_cl E (d + 1) 8 [.ref 1, .int (nI a)] (161, (I, J, RF w))) 8 [some (.ref 0), some (.int (nI a)), some (.int (nI b)), some (.int (nI c))] []) (fun _ => rfl) ?_
  refine z_evK (v := .int (z_bo (¬ (nI a) < 0 ∧ (nI a) < I 1 1))) (z' := 161) (σ' := (I, J, RF w)) (x_rows_has E d I J w (nI a)) ?_
  refine z_evG 1 (y := if (z_bo (¬ (nI a) < 0 ∧ (nI a) < I 1 1)) = 0 then z_go 38 [some (.ref 0), some (.int (nI a)), some (.int (nI b)), some (.int (nI c))] [] 161 (I, J, RF w) else z_go 11 [some (.ref 0), some (.int (nI a)), some (.int (nI b)), some (.int (nI c))] [] 161 (I, J, RF w)) (fun _ => rfl) ?_
  refine z_evF (fun q => z_bo_0.mp q ⟨(mt (show _ ↔ a < 0 from z_ltN rfl rfl (by omega) (by omega)).mp (by omega)), ((show _ ↔ a < n from z_ltN rfl h_n (by omega) (by omega)).mpr (by omega))⟩) ?_
  refine z_evL ?_
  refine z_evG 4 (y := z_ret (z_cl E (d + 1) 8 [.ref 1, .int (nI b)] (161, (I, J, RF w))) 19 [some (.ref 0), some (.int (nI a)), some (.int (nI b)), some (.int (nI c))] []) (fun _ => rfl) ?_
  refine z_evK (v := .int (z_bo (¬ (nI b) < 0 ∧ (nI b) < I 1 1))) (z' := 161) (σ' := (I, J, RF w)) (x_rows_has E d I J w (nI b)) ?_
  refine z_evG 1 (y := if (z_bo (¬ (nI b) < 0 ∧ (nI b) < I 1 1)) = 0 then z_go 38 [some (.ref 0), some (.int (nI a)), some (.int (nI b)), some (.int (nI c))] [] 161 (I, J, RF w) else z_go 22 [some (.ref 0), some (.int (nI a)), some (.int (nI b)), some (.int (nI c))] [] 161 (I, J, RF w)) (fun _ => rfl) ?_
  refine z_evF (fun q => z_bo_0.mp q ⟨(mt (show _ ↔ b < 0 from z_ltN rfl rfl (by omega) (by omega)).mp (by omega)), ((show _ ↔ b < n from z_ltN rfl h_n (by omega) (by omega)).mpr (by omega))⟩) ?_
  refine z_evL ?_
  refine z_evG 3 (y := if (nI c) = (-1) then z_go 41 [some (.ref 0), some (.int (nI a)), some (.int (nI b)), some (.int (nI c))] [] 161 (I, J, RF w) else z_go 27 [some (.ref 0), some (.int (nI a)), some (.int (nI b)), some (.int (nI c))] [] 161 (I, J, RF w)) (fun _ => rfl) ?_
  refine z_evF (z_nneg rfl (by omega) (by decide)) ?_
  refine z_evL ?_
  refine z_evG 4 (y := z_ret (z_cl E (d + 1) 8 [.ref 1, .int (nI c)] (161, (I, J, RF w))) 35 [some (.ref 0), some (.int (nI a)), some (.int (nI b)), some (.int (nI c))] []) (fun _ => rfl) ?_
  refine z_evK (v := .int (z_bo (¬ (nI c) < 0 ∧ (nI c) < I 1 1))) (z' := 161) (σ' := (I, J, RF w)) (x_rows_has E d I J w (nI c)) ?_
  refine z_evG 1 (y := if (z_bo (¬ (nI c) < 0 ∧ (nI c) < I 1 1)) = 0 then z_go 38 [some (.ref 0), some (.int (nI a)), some (.int (nI b)), some (.int (nI c))] [] 161 (I, J, RF w) else z_go 41 [some (.ref 0), some (.int (nI a)), some (.int (nI b)), some (.int (nI c))] [] 161 (I, J, RF w)) (fun _ => rfl) ?_
  refine z_evF (fun q => z_bo_0.mp q ⟨(mt (show _ ↔ c < 0 from z_ltN rfl rfl (by omega) (by omega)).mp (by omega)), ((show _ ↔ c < n from z_ltN rfl h_n (by omega) (by omega)).mpr (by omega))⟩) ?_
  refine z_evL ?_
  refine z_evG 3 (y := z_ret (z_cl E (d + 1) 18 [.ref 65] (161, (I, J, RF w))) 48 [some (.ref 0), some (.int (nI a)), some (.int (nI b)), some (.int (nI c))] []) (fun _ => rfl) ?_
  refine z_evK (v := .int (z_bo (¬ I 65 3 < 8))) (z' := 161) (σ' := (I, J, RF w)) (x_eyes_isFull E d I J w) ?_
  refine z_evG 1 (y := if (z_bo (¬ I 65 3 < 8)) = 0 then z_go 56 [some (.ref 0), some (.int (nI a)), some (.int (nI b)), some (.int (nI c))] [] 161 (I, J, RF w) else z_go 51 [some (.ref 0), some (.int (nI a)), some (.int (nI b)), some (.int (nI c))] [] 161 (I, J, RF w)) (fun _ => rfl) ?_
  refine z_evF (fun q => z_bo_0.mp q (mt (show _ ↔ m < 8 from z_ltN h_m rfl (by omega) (by omega)).mp (by omega))) ?_
  refine z_evL ?_
  refine z_evG 3 (y := some (.inr (some (.int (-4)), 161, I, J, RF w))) (fun _ => rfl) ?_
  exact z_evR rfl
set_option maxRecDepth 20000 in
/-- LampHouse.eye -/
theorem x_eye_full2 (E : zE) (d : Nat) (I : Nat → Nat → Int32) (J : Nat → Nat → Int64) (w : Nat) (a b n m : Nat) (h_n : I 1 1 = nI n) (hm_n : n ≤ 30) (h_m : I 65 3 = nI m) (hm_m : m ≤ 8) (hl_a : a < n) (hl_b : b < n) (hf : m = 8) : z_cl E (d + 2) 137 [.ref 0, .int (nI a), .int (nI b), .int (-1)] (161, I, J, RF w) = some (some (.int (-4)), 161, I, J, RF w) := by
  refine z_call (d := d + 1) (M := z_m137) rfl rfl ?_
  refine z_evG 4 (y := z_ret (z_cl E (d + 1) 8 [.ref 1, .int (nI a)] (161, (I, J, RF w))) 8 [some (.ref 0), some (.int (nI a)), some (.int (nI b)), some (.int (-1))] []) (fun _ => rfl) ?_
  refine z_evK (v := .int (z_bo (¬ (nI a) < 0 ∧ (nI a) < I 1 1))) (z' := 161) (σ' := (I, J, RF w)) (x_rows_has E d I J w (nI a)) ?_
  refine z_evG 1 (y := if (z_bo (¬ (nI a) < 0 ∧ (nI a) < I 1 1)) = 0 then z_go 38 [some (.ref 0), some (.int (nI a)), some (.int (nI b)), some (.int (-1))] [] 161 (I, J, RF w) else z_go 11 [some (.ref 0), some (.int (nI a)), some (.int (nI b)), some (.int (-1))] [] 161 (I, J, RF w)) (fun _ => rfl) ?_
  refine z_evF (fun q => z_bo_0.mp q ⟨(mt (show _ ↔ a < 0 from z_ltN rfl rfl (by omega) (by omega)).mp (by omega)), ((show _ ↔ a < n from z_ltN rfl h_n (by omega) (by omega)).mpr (by omega))⟩) ?_
  refine z_evL ?_
  refine z_evG 4 (y := z_ret (z_cl E (d + 1) 8 [.ref 1, .int (nI b)] (161, (I, J, RF w))) 19 [some (.ref 0), some (.int (nI a)), some (.int (nI b)), some (.int (-1))] []) (fun _ => rfl) ?_
  refine z_evK (v := .int (z_bo (¬ (nI b) < 0 ∧ (nI b) < I 1 1))) (z' := 161) (σ' := (I, J, RF w)) (x_rows_has E d I J w (nI b)) ?_
  refine z_evG 1 (y := if (z_bo (¬ (nI b) < 0 ∧ (nI b) < I 1 1)) = 0 then z_go 38 [some (.ref 0), some (.int (nI a)), some (.int (nI b)), some (.int (-1))] [] 161 (I, J, RF w) else z_go 22 [some (.ref 0), some (.int (nI a)), some (.int (nI b)), some (.int (-1))] [] 161 (I, J, RF w)) (fun _ => rfl) ?_
  refine z_evF (fun q => z_bo_0.mp q ⟨(mt (show _ ↔ b < 0 from z_ltN rfl rfl (by omega) (by omega)).mp (by omega)), ((show _ ↔ b < n from z_ltN rfl h_n (by omega) (by omega)).mpr (by omega))⟩) ?_
  refine z_evL ?_
  refine z_evG 3 (y := if (-1) = (-1) then z_go 41 [some (.ref 0), some (.int (nI a)), some (.int (nI b)), some (.int (-1))] [] 161 (I, J, RF w) else z_go 27 [some (.ref 0), some (.int (nI a)), some (.int (nI b)), some (.int (-1))] [] 161 (I, J, RF w)) (fun _ => rfl) ?_
  refine z_evI (fun _ => ?_) (fun q => absurd (by decide) q)
  refine z_evL ?_
  refine z_evG 3 (y := z_ret (z_cl E (d + 1) 18 [.ref 65] (161, (I, J, RF w))) 48 [some (.ref 0), some (.int (nI a)), some (.int (nI b)), some (.int (-1))] []) (fun _ => rfl) ?_
  refine z_evK (v := .int (z_bo (¬ I 65 3 < 8))) (z' := 161) (σ' := (I, J, RF w)) (x_eyes_isFull E d I J w) ?_
  refine z_evG 1 (y := if (z_bo (¬ I 65 3 < 8)) = 0 then z_go 56 [some (.ref 0), some (.int (nI a)), some (.int (nI b)), some (.int (-1))] [] 161 (I, J, RF w) else z_go 51 [some (.ref 0), some (.int (nI a)), some (.int (nI b)), some (.int (-1))] [] 161 (I, J, RF w)) (fun _ => rfl) ?_
  refine z_evF (fun q => z_bo_0.mp q (mt (show _ ↔ m < 8 from z_ltN h_m rfl (by omega) (by omega)).mp (by omega))) ?_
  refine z_evL ?_
  refine z_evG 3 (y := some (.inr (some (.int (-4)), 161, I, J, RF w))) (fun _ => rfl) ?_
  exact z_evR rfl
set_option maxRecDepth 20000 in
/-- LampHouse.eye -/
theorem x_eye_ok3 (E : zE) (d : Nat) (I : Nat → Nat → Int32) (J : Nat → Nat → Int64) (w : Nat) (a b c n m : Nat) (h_n : I 1 1 = nI n) (hm_n : n ≤ 30) (h_m : I 65 3 = nI m) (hm_m : m ≤ 8) (hl_a : a < n) (hl_b : b < n) (hl_c : c < n) (hf : m < 8) : z_cl E (d + 2) 137 [.ref 0, .int (nI a), .int (nI b), .int (nI c)] (161, I, J, RF w) = some (some (.int (nI m)), 161, (z_u2 (z_u2 (z_u2 (z_u2 (z_u2 I (67 + m) 0 (nI a)) (67 + m) 1 (nI b)) (67 + m) 2 (nI c)) 75 m 3) 65 3 (nI (m + 1))), J, RF w) := by
  refine z_call (d := d + 1) (M := z_m137) rfl rfl ?_
  refine z_evG 4 (y := z_ret (z_cl E (d + 1) 8 [.ref 1, .int (nI a)] (161, (I, J, RF w))) 8 [some (.ref 0), some (.int (nI a)), some (.int (nI b)), some (.int (nI c))] []) (fun _ => rfl) ?_
  refine z_evK (v := .int (z_bo (¬ (nI a) < 0 ∧ (nI a) < I 1 1))) (z' := 161) (σ' := (I, J, RF w)) (x_rows_has E d I J w (nI a)) ?_
  refine z_evG 1 (y := if (z_bo (¬ (nI a) < 0 ∧ (nI a) < I 1 1)) = 0 then z_go 38 [some (.ref 0), some (.int (nI a)), some (.int (nI b)), some (.int (nI c))] [] 161 (I, J, RF w) else z_go 11 [some (.ref 0), some (.int (nI a)), some (.int (nI b)), some (.int (nI c))] [] 161 (I, J, RF w)) (fun _ => rfl) ?_
  refine z_evF (fun q => z_bo_0.mp q ⟨(mt (show _ ↔ a < 0 from z_ltN rfl rfl (by omega) (by omega)).mp (by omega)), ((show _ ↔ a < n from z_ltN rfl h_n (by omega) (by omega)).mpr (by omega))⟩) ?_
  refine z_evL ?_
  refine z_evG 4 (y := z_ret (z_cl E (d + 1) 8 [.ref 1, .int (nI b)] (161, (I, J, RF w))) 19 [some (.ref 0), some (.int (nI a)), some (.int (nI b)), some (.int (nI c))] []) (fun _ => rfl) ?_
  refine z_evK (v := .int (z_bo (¬ (nI b) < 0 ∧ (nI b) < I 1 1))) (z' := 161) (σ' := (I, J, RF w)) (x_rows_has E d I J w (nI b)) ?_
  refine z_evG 1 (y := if (z_bo (¬ (nI b) < 0 ∧ (nI b) < I 1 1)) = 0 then z_go 38 [some (.ref 0), some (.int (nI a)), some (.int (nI b)), some (.int (nI c))] [] 161 (I, J, RF w) else z_go 22 [some (.ref 0), some (.int (nI a)), some (.int (nI b)), some (.int (nI c))] [] 161 (I, J, RF w)) (fun _ => rfl) ?_
  refine z_evF (fun q => z_bo_0.mp q ⟨(mt (show _ ↔ b < 0 from z_ltN rfl rfl (by omega) (by omega)).mp (by omega)), ((show _ ↔ b < n from z_ltN rfl h_n (by omega) (by omega)).mpr (by omega))⟩) ?_
  refine z_evL ?_
  refine z_evG 3 (y := if (nI c) = (-1) then z_go 41 [some (.ref 0), some (.int (nI a)), some (.int (nI b)), some (.int (nI c))] [] 161 (I, J, RF w) else z_go 27 [some (.ref 0), some (.int (nI a)), some (.int (nI b)), some (.int (nI c))] [] 161 (I, J, RF w)) (fun _ => rfl) ?_
  refine z_evF (z_nneg rfl (by omega) (by decide)) ?_
  refine z_evL ?_
  refine z_evG 4 (y := z_ret (z_cl E (d + 1) 8 [.ref 1, .int (nI c)] (161, (I, J, RF w))) 35 [some (.ref 0), some (.int (nI a)), some (.int (nI b)), some (.int (nI c))] []) (fun _ => rfl) ?_
  refine z_evK (v := .int (z_bo (¬ (nI c) < 0 ∧ (nI c) < I 1 1))) (z' := 161) (σ' := (I, J, RF w)) (x_rows_has E d I J w (nI c)) ?_
  refine z_evG 1 (y := if (z_bo (¬ (nI c) < 0 ∧ (nI c) < I 1 1)) = 0 then z_go 38 [some (.ref 0), some (.int (nI a)), some (.int (nI b)), some (.int (nI c))] [] 161 (I, J, RF w) else z_go 41 [some (.ref 0), some (.int (nI a)), some (.int (nI b)), some (.int (nI c))] [] 161 (I, J, RF w)) (fun _ => rfl) ?_
  refine z_evF (fun q => z_bo_0.mp q ⟨(mt (show _ ↔ c < 0 from z_ltN rfl rfl (by omega) (by omega)).mp (by omega)), ((show _ ↔ c < n from z_ltN rfl h_n (by omega) (by omega)).mpr (by omega))⟩) ?_
  refine z_evL ?_
  refine z_evG 3 (y := z_ret (z_cl E (d + 1) 18 [.ref 65] (161, (I, J, RF w))) 48 [some (.ref 0), some (.int (nI a)), some (.int (nI b)), some (.int (nI c))] []) (fun _ => rfl) ?_
  refine z_evK (v := .int (z_bo (¬ I 65 3 < 8))) (z' := 161) (σ' := (I, J, RF w)) (x_eyes_isFull E d I J w) ?_
  refine z_evG 1 (y := if (z_bo (¬ I 65 3 < 8)) = 0 then z_go 56 [some (.ref 0), some (.int (nI a)), some (.int (nI b)), some (.int (nI c))] [] 161 (I, J, RF w) else z_go 51 [some (.ref 0), some (.int (nI a)), some (.int (nI b)), some (.int (nI c))] [] 161 (I, J, RF w)) (fun _ => rfl) ?_
  refine z_evT (z_bo_0.mpr (fun q => q ((show _ ↔ m < 8 from z_ltN h_m rfl (by omega) (by omega)).mpr (by omega)))) ?_
  refine z_evL ?_
  refine z_evG 6 (y := z_ret (z_cl E (d + 1) 19 [.ref 65, .int (nI a), .int (nI b), .int (nI c)] (161, (I, J, RF w))) 66 [some (.ref 0), some (.int (nI a)), some (.int (nI b)), some (.int (nI c))] []) (fun _ => rfl) ?_
  refine z_evK (v := .int (nI m)) (z' := 161) (σ' := ((z_u2 (z_u2 (z_u2 (z_u2 (z_u2 I (67 + m) 0 (nI a)) (67 + m) 1 (nI b)) (67 + m) 2 (nI c)) 75 m 3) 65 3 (nI (m + 1))), J, RF w)) (x_eyes_addT E d I J w (nI a) (nI b) (nI c) m h_m (by omega) (z_nneg rfl (by omega) (by decide))) ?_
  refine z_evG 1 (y := some (.inr (some (.int (nI m)), 161, (z_u2 (z_u2 (z_u2 (z_u2 (z_u2 I (67 + m) 0 (nI a)) (67 + m) 1 (nI b)) (67 + m) 2 (nI c)) 75 m 3) 65 3 (nI (m + 1))), J, RF w))) (fun _ => rfl) ?_
  exact z_evR rfl
set_option maxRecDepth 20000 in
/-- LampHouse.eye -/
theorem x_eye_ok2 (E : zE) (d : Nat) (I : Nat → Nat → Int32) (J : Nat → Nat → Int64) (w : Nat) (a b n m : Nat) (h_n : I 1 1 = nI n) (hm_n : n ≤ 30) (h_m : I 65 3 = nI m) (hm_m : m ≤ 8) (hl_a : a < n) (hl_b : b < n) (hf : m < 8) : z_cl E (d + 2) 137 [.ref 0, .int (nI a), .int (nI b), .int (-1)] (161, I, J, RF w) = some (some (.int (nI m)), 161, (z_u2 (z_u2 (z_u2 (z_u2 (z_u2 I (67 + m) 0 (nI a)) (67 + m) 1 (nI b)) (67 + m) 2 (-1)) 75 m 2) 65 3 (nI (m + 1))), J, RF w) := by
  refine z_call (d := d + 1) (M := z_m137) rfl rfl ?_
  refine z_evG 4 (y := z_ret (z_cl E (d + 1) 8 [.ref 1, .int (nI a)] (161, (I, J, RF w))) 8 [some (.ref 0), some (.int (nI a)), some (.int (nI b)), some (.int (-1))] []) (fun _ => rfl) ?_
  refine z_evK (v := .int (z_bo (¬ (nI a) < 0 ∧ (nI a) < I 1 1))) (z' := 161) (σ' := (I, J, RF w)) (x_rows_has E d I J w (nI a)) ?_
  refine z_evG 1 (y := if (z_bo (¬ (nI a) < 0 ∧ (nI a) < I 1 1)) = 0 then z_go 38 [some (.ref 0), some (.int (nI a)), some (.int (nI b)), some (.int (-1))] [] 161 (I, J, RF w) else z_go 11 [some (.ref 0), some (.int (nI a)), some (.int (nI b)), some (.int (-1))] [] 161 (I, J, RF w)) (fun _ => rfl) ?_
  refine z_evF (fun q => z_bo_0.mp q ⟨(mt (show _ ↔ a < 0 from z_ltN rfl rfl (by omega) (by omega)).mp (by omega)), ((show _ ↔ a < n from z_ltN rfl h_n (by omega) (by omega)).mpr (by omega))⟩) ?_
  refine z_evL ?_
  refine z_evG 4 (y := z_ret (z_cl E (d + 1) 8 [.ref 1, .int (nI b)] (161, (I, J, RF w))) 19 [some (.ref 0), some (.int (nI a)), some (.int (nI b)), some (.int (-1))] []) (fun _ => rfl) ?_
  refine z_evK (v := .int (z_bo (¬ (nI b) < 0 ∧ (nI b) < I 1 1))) (z' := 161) (σ' := (I, J, RF w)) (x_rows_has E d I J w (nI b)) ?_
  refine z_evG 1 (y := if (z_bo (¬ (nI b) < 0 ∧ (nI b) < I 1 1)) = 0 then z_go 38 [some (.ref 0), some (.int (nI a)), some (.int (nI b)), some (.int (-1))] [] 161 (I, J, RF w) else z_go 22 [some (.ref 0), some (.int (nI a)), some (.int (nI b)), some (.int (-1))] [] 161 (I, J, RF w)) (fun _ => rfl) ?_
  refine z_evF (fun q => z_bo_0.mp q ⟨(mt (show _ ↔ b < 0 from z_ltN rfl rfl (by omega) (by omega)).mp (by omega)), ((show _ ↔ b < n from z_ltN rfl h_n (by omega) (by omega)).mpr (by omega))⟩) ?_
  refine z_evL ?_
  refine z_evG 3 (y := if (-1) = (-1) then z_go 41 [some (.ref 0), some (.int (nI a)), some (.int (nI b)), some (.int (-1))] [] 161 (I, J, RF w) else z_go 27 [some (.ref 0), some (.int (nI a)), some (.int (nI b)), some (.int (-1))] [] 161 (I, J, RF w)) (fun _ => rfl) ?_
  refine z_evI (fun _ => ?_) (fun q => absurd (by decide) q)
  refine z_evL ?_
  refine z_evG 3 (y := z_ret (z_cl E (d + 1) 18 [.ref 65] (161, (I, J, RF w))) 48 [some (.ref 0), some (.int (nI a)), some (.int (nI b)), some (.int (-1))] []) (fun _ => rfl) ?_
  refine z_evK (v := .int (z_bo (¬ I 65 3 < 8))) (z' := 161) (σ' := (I, J, RF w)) (x_eyes_isFull E d I J w) ?_
  refine z_evG 1 (y := if (z_bo (¬ I 65 3 < 8)) = 0 then z_go 56 [some (.ref 0), some (.int (nI a)), some (.int (nI b)), some (.int (-1))] [] 161 (I, J, RF w) else z_go 51 [some (.ref 0), some (.int (nI a)), some (.int (nI b)), some (.int (-1))] [] 161 (I, J, RF w)) (fun _ => rfl) ?_
  refine z_evT (z_bo_0.mpr (fun q => q ((show _ ↔ m < 8 from z_ltN h_m rfl (by omega) (by omega)).mpr (by omega)))) ?_
  refine z_evL ?_
  refine z_evG 6 (y := z_ret (z_cl E (d + 1) 19 [.ref 65, .int (nI a), .int (nI b), .int (-1)] (161, (I, J, RF w))) 66 [some (.ref 0), some (.int (nI a)), some (.int (nI b)), some (.int (-1))] []) (fun _ => rfl) ?_
  refine z_evK (v := .int (nI m)) (z' := 161) (σ' := ((z_u2 (z_u2 (z_u2 (z_u2 (z_u2 I (67 + m) 0 (nI a)) (67 + m) 1 (nI b)) (67 + m) 2 (-1)) 75 m 2) 65 3 (nI (m + 1))), J, RF w)) (x_eyes_addF E d I J w (nI a) (nI b) m h_m (by omega)) ?_
  refine z_evG 1 (y := some (.inr (some (.int (nI m)), 161, (z_u2 (z_u2 (z_u2 (z_u2 (z_u2 I (67 + m) 0 (nI a)) (67 + m) 1 (nI b)) (67 + m) 2 (-1)) 75 m 2) 65 3 (nI (m + 1))), J, RF w))) (fun _ => rfl) ?_
  exact z_evR rfl
set_option maxRecDepth 20000 in
/-- LampHouseModel.eye -/
theorem m_eye_full3 (E : zE) (d : Nat) (I : Nat → Nat → Int32) (J : Nat → Nat → Int64) (w : Nat) (a b c n m : Nat) (h_n : I 127 1 = nI n) (hm_n : n ≤ 30) (h_m : I 127 11 = nI m) (hm_m : m ≤ 8) (hl_a : a < n) (hl_b : b < n) (hl_c : c < n) (hf : m = 8) : z_cl E (d + 3) 195 [.ref 127, .int (nI a), .int (nI b), .int (nI c)] (161, I, J, RF w) = some (some (.int (-4)), 161, I, J, RF w) := by
  refine z_call (d := d + 2) (M := z_m195) rfl rfl ?_
  refine z_evG 3 (y := z_ret (z_cl E (d + 2) 182 [.ref 127, .int (nI a)] (161, (I, J, RF w))) 5 [some (.ref 127), some (.int (nI a)), some (.int (nI b)), some (.int (nI c))] []) (fun _ => rfl) ?_
  refine z_evK (v := .int (z_bo (¬ (nI a) < 0 ∧ ¬ I 127 1 - 1 < (nI a)))) (z' := 161) (σ' := (I, J, RF w)) (m_isRow E d I J w (nI a)) ?_
  refine z_evG 1 (y := if (z_bo (¬ (nI a) < 0 ∧ ¬ I 127 1 - 1 < (nI a))) = 0 then z_go 29 [some (.ref 127), some (.int (nI a)), some (.int (nI b)), some (.int (nI c))] [] 161 (I, J, RF w) else z_go 8 [some (.ref 127), some (.int (nI a)), some (.int (nI b)), some (.int (nI c))] [] 161 (I, J, RF w)) (fun _ => rfl) ?_
  refine z_evF (fun q => z_bo_0.mp q ⟨(mt (show _ ↔ a < 0 from z_ltN rfl rfl (by omega) (by omega)).mp (by omega)), (z_plt h_n rfl (by omega) (by omega))⟩) ?_
  refine z_evL ?_
  refine z_evG 3 (y := z_ret (z_cl E (d + 2) 182 [.ref 127, .int (nI b)] (161, (I, J, RF w))) 13 [some (.ref 127), some (.int (nI a)), some (.int (nI b)), some (.int (nI c))] []) (fun _ => rfl) ?_
  refine z_evK (v := .int (z_bo (¬ (nI b) < 0 ∧ ¬ I 127 1 - 1 < (nI b)))) (z' := 161) (σ' := (I, J, RF w)) (m_isRow E d I J w (nI b)) ?_
  refine z_evG 1 (y := if (z_bo (¬ (nI b) < 0 ∧ ¬ I 127 1 - 1 < (nI b))) = 0 then z_go 29 [some (.ref 127), some (.int (nI a)), some (.int (nI b)), some (.int (nI c))] [] 161 (I, J, RF w) else z_go 16 [some (.ref 127), some (.int (nI a)), some (.int (nI b)), some (.int (nI c))] [] 161 (I, J, RF w)) (fun _ => rfl) ?_
  refine z_evF (fun q => z_bo_0.mp q ⟨(mt (show _ ↔ b < 0 from z_ltN rfl rfl (by omega) (by omega)).mp (by omega)), (z_plt h_n rfl (by omega) (by omega))⟩) ?_
  refine z_evL ?_
  refine z_evG 3 (y := if (nI c) = (-1) then z_go 32 [some (.ref 127), some (.int (nI a)), some (.int (nI b)), some (.int (nI c))] [] 161 (I, J, RF w) else z_go 21 [some (.ref 127), some (.int (nI a)), some (.int (nI b)), some (.int (nI c))] [] 161 (I, J, RF w)) (fun _ => rfl) ?_
  refine z_evF (z_nneg rfl (by omega) (by decide)) ?_
  refine z_evL ?_
  refine z_evG 3 (y := z_ret (z_cl E (d + 2) 182 [.ref 127, .int (nI c)] (161, (I, J, RF w))) 26 [some (.ref 127), some (.int (nI a)), some (.int (nI b)), some (.int (nI c))] []) (fun _ => rfl) ?_
  refine z_evK (v := .int (z_bo (¬ (nI c) < 0 ∧ ¬ I 127 1 - 1 < (nI c)))) (z' := 161) (σ' := (I, J, RF w)) (m_isRow E d I J w (nI c)) ?_
  refine z_evG 1 (y := if (z_bo (¬ (nI c) < 0 ∧ ¬ I 127 1 - 1 < (nI c))) = 0 then z_go 29 [some (.ref 127), some (.int (nI a)), some (.int (nI b)), some (.int (nI c))] [] 161 (I, J, RF w) else z_go 32 [some (.ref 127), some (.int (nI a)), some (.int (nI b)), some (.int (nI c))] [] 161 (I, J, RF w)) (fun _ => rfl) ?_
  refine z_evF (fun q => z_bo_0.mp q ⟨(mt (show _ ↔ c < 0 from z_ltN rfl rfl (by omega) (by omega)).mp (by omega)), (z_plt h_n rfl (by omega) (by omega))⟩) ?_
  refine z_evL ?_
  refine z_evG 4 (y := if (I 127 11) = 8 then z_go 41 [some (.ref 127), some (.int (nI a)), some (.int (nI b)), some (.int (nI c))] [] 161 (I, J, RF w) else z_go 44 [some (.ref 127), some (.int (nI a)), some (.int (nI b)), some (.int (nI c))] [] 161 (I, J, RF w)) (fun _ => rfl) ?_
  refine z_evT (((show _ ↔ m = 8 from z_eqN h_m rfl (by omega) (by omega)).mpr (by omega))) ?_
  refine z_evL ?_
  refine z_evG 2 (y := some (.inr (some (.int (-4)), 161, I, J, RF w))) (fun _ => rfl) ?_
  exact z_evR rfl
set_option maxRecDepth 20000 in
/-- LampHouseModel.eye -/
theorem m_eye_full2 (E : zE) (d : Nat) (I : Nat → Nat → Int32) (J : Nat → Nat → Int64) (w : Nat) (a b n m : Nat) (h_n : I 127 1 = nI n) (hm_n : n ≤ 30) (h_m : I 127 11 = nI m) (hm_m : m ≤ 8) (hl_a : a < n) (hl_b : b < n) (hf : m = 8) : z_cl E (d + 3) 195 [.ref 127, .int (nI a), .int (nI b), .int (-1)] (161, I, J, RF w) = some (some (.int (-4)), 161, I, J, RF w) := by
  refine z_call (d := d + 2) (M := z_m195) rfl rfl ?_
  refine z_evG 3 (y := z_ret (z_cl E (d + 2) 182 [.ref 127, .int (nI a)] (161, (I, J, RF w))) 5 [some (.ref 127), some (.int (nI a)), some (.int (nI b)), some (.int (-1))] []) (fun _ => rfl) ?_
  refine z_evK (v := .int (z_bo (¬ (nI a) < 0 ∧ ¬ I 127 1 - 1 < (nI a)))) (z' := 161) (σ' := (I, J, RF w)) (m_isRow E d I J w (nI a)) ?_
  refine z_evG 1 (y := if (z_bo (¬ (nI a) < 0 ∧ ¬ I 127 1 - 1 < (nI a))) = 0 then z_go 29 [some (.ref 127), some (.int (nI a)), some (.int (nI b)), some (.int (-1))] [] 161 (I, J, RF w) else z_go 8 [some (.ref 127), some (.int (nI a)), some (.int (nI b)), some (.int (-1))] [] 161 (I, J, RF w)) (fun _ => rfl) ?_
  refine z_evF (fun q => z_bo_0.mp q ⟨(mt (show _ ↔ a < 0 from z_ltN rfl rfl (by omega) (by omega)).mp (by omega)), (z_plt h_n rfl (by omega) (by omega))⟩) ?_
  refine z_evL ?_
  refine z_evG 3 (y := z_ret (z_cl E (d + 2) 182 [.ref 127, .int (nI b)] (161, (I, J, RF w))) 13 [some (.ref 127), some (.int (nI a)), some (.int (nI b)), some (.int (-1))] []) (fun _ => rfl) ?_
  refine z_evK (v := .int (z_bo (¬ (nI b) < 0 ∧ ¬ I 127 1 - 1 < (nI b)))) (z' := 161) (σ' := (I, J, RF w)) (m_isRow E d I J w (nI b)) ?_
  refine z_evG 1 (y := if (z_bo (¬ (nI b) < 0 ∧ ¬ I 127 1 - 1 < (nI b))) = 0 then z_go 29 [some (.ref 127), some (.int (nI a)), some (.int (nI b)), some (.int (-1))] [] 161 (I, J, RF w) else z_go 16 [some (.ref 127), some (.int (nI a)), some (.int (nI b)), some (.int (-1))] [] 161 (I, J, RF w)) (fun _ => rfl) ?_
  refine z_evF (fun q => z_bo_0.mp q ⟨(mt (show _ ↔ b < 0 from z_ltN rfl rfl (by omega) (by omega)).mp (by omega)), (z_plt h_n rfl (by omega) (by omega))⟩) ?_
  refine z_evL ?_
  refine z_evG 3 (y := if (-1) = (-1) then z_go 32 [some (.ref 127), some (.int (nI a)), some (.int (nI b)), some (.int (-1))] [] 161 (I, J, RF w) else z_go 21 [some (.ref 127), some (.int (nI a)), some (.int (nI b)), some (.int (-1))] [] 161 (I, J, RF w)) (fun _ => rfl) ?_
  refine z_evI (fun _ => ?_) (fun q => absurd (by decide) q)
  refine z_evL ?_
  refine z_evG 4 (y := if (I 127 11) = 8 then z_go 41 [some (.ref 127), some (.int (nI a)), some (.int (nI b)), some (.int (-1))] [] 161 (I, J, RF w) else z_go 44 [some (.ref 127), some (.int (nI a)), some (.int (nI b)), some (.int (-1))] [] 161 (I, J, RF w)) (fun _ => rfl) ?_
  refine z_evT (((show _ ↔ m = 8 from z_eqN h_m rfl (by omega) (by omega)).mpr (by omega))) ?_
  refine z_evL ?_
  refine z_evG 2 (y := some (.inr (some (.int (-4)), 161, I, J, RF w))) (fun _ => rfl) ?_
  exact z_evR rfl
set_option maxRecDepth 20000 in
/-- LampHouseModel.eye -/
theorem m_eye_ok3 (E : zE) (d : Nat) (I : Nat → Nat → Int32) (J : Nat → Nat → Int64) (w : Nat) (a b c n m : Nat) (h_n : I 127 1 = nI n) (hm_n : n ≤ 30) (h_m : I 127 11 = nI m) (hm_m : m ≤ 8) (hl_a : a < n) (hl_b : b < n) (hl_c : c < n) (hf : m < 8) : z_cl E (d + 3) 195 [.ref 127, .int (nI a), .int (nI b), .int (nI c)] (161, I, J, RF w) = some (some (.int (nI m)), 161, (z_u2 (z_u2 (z_u2 (z_u2 (z_u2 I 135 (3 * m) (nI a)) 135 (3 * m + 1) (nI b)) 135 (3 * m + 2) (nI c)) 136 m 3) 127 11 (nI (m + 1))), J, RF w) := by
  refine z_call (d := d + 2) (M := z_m195) rfl rfl ?_
  refine z_evG 3 (y := z_ret (z_cl E (d + 2) 182 [.ref 127, .int (nI a)] (161, (I, J, RF w))) 5 [some (.ref 127), some (.int (nI a)), some (.int (nI b)), some (.int (nI c))] []) (fun _ => rfl) ?_
  refine z_evK (v := .int (z_bo (¬ (nI a) < 0 ∧ ¬ I 127 1 - 1 < (nI a)))) (z' := 161) (σ' := (I, J, RF w)) (m_isRow E d I J w (nI a)) ?_
  refine z_evG 1 (y := if (z_bo (¬ (nI a) < 0 ∧ ¬ I 127 1 - 1 < (nI a))) = 0 then z_go 29 [some (.ref 127), some (.int (nI a)), some (.int (nI b)), some (.int (nI c))] [] 161 (I, J, RF w) else z_go 8 [some (.ref 127), some (.int (nI a)), some (.int (nI b)), some (.int (nI c))] [] 161 (I, J, RF w)) (fun _ => rfl) ?_
  refine z_evF (fun q => z_bo_0.mp q ⟨(mt (show _ ↔ a < 0 from z_ltN rfl rfl (by omega) (by omega)).mp (by omega)), (z_plt h_n rfl (by omega) (by omega))⟩) ?_
  refine z_evL ?_
  refine z_evG 3 (y := z_ret (z_cl E (d + 2) 182 [.ref 127, .int (nI b)] (161, (I, J, RF w))) 13 [some (.ref 127), some (.int (nI a)), some (.int (nI b)), some (.int (nI c))] []) (fun _ => rfl) ?_
  refine z_evK (v := .int (z_bo (¬ (nI b) < 0 ∧ ¬ I 127 1 - 1 < (nI b)))) (z' := 161) (σ' := (I, J, RF w)) (m_isRow E d I J w (nI b)) ?_
  refine z_evG 1 (y := if (z_bo (¬ (nI b) < 0 ∧ ¬ I 127 1 - 1 < (nI b))) = 0 then z_go 29 [some (.ref 127), some (.int (nI a)), some (.int (nI b)), some (.int (nI c))] [] 161 (I, J, RF w) else z_go 16 [some (.ref 127), some (.int (nI a)), some (.int (nI b)), some (.int (nI c))] [] 161 (I, J, RF w)) (fun _ => rfl) ?_
  refine z_evF (fun q => z_bo_0.mp q ⟨(mt (show _ ↔ b < 0 from z_ltN rfl rfl (by omega) (by omega)).mp (by omega)), (z_plt h_n rfl (by omega) (by omega))⟩) ?_
  refine z_evL ?_
  refine z_evG 3 (y := if (nI c) = (-1) then z_go 32 [some (.ref 127), some (.int (nI a)), some (.int (nI b)), some (.int (nI c))] [] 161 (I, J, RF w) else z_go 21 [some (.ref 127), some (.int (nI a)), some (.int (nI b)), some (.int (nI c))] [] 161 (I, J, RF w)) (fun _ => rfl) ?_
  refine z_evF (z_nneg rfl (by omega) (by decide)) ?_
  refine z_evL ?_
  refine z_evG 3 (y := z_ret (z_cl E (d + 2) 182 [.ref 127, .int (nI c)] (161, (I, J, RF w))) 26 [some (.ref 127), some (.int (nI a)), some (.int (nI b)), some (.int (nI c))] []) (fun _ => rfl) ?_
  refine z_evK (v := .int (z_bo (¬ (nI c) < 0 ∧ ¬ I 127 1 - 1 < (nI c)))) (z' := 161) (σ' := (I, J, RF w)) (m_isRow E d I J w (nI c)) ?_
  refine z_evG 1 (y := if (z_bo (¬ (nI c) < 0 ∧ ¬ I 127 1 - 1 < (nI c))) = 0 then z_go 29 [some (.ref 127), some (.int (nI a)), some (.int (nI b)), some (.int (nI c))] [] 161 (I, J, RF w) else z_go 32 [some (.ref 127), some (.int (nI a)), some (.int (nI b)), some (.int (nI c))] [] 161 (I, J, RF w)) (fun _ => rfl) ?_
  refine z_evF (fun q => z_bo_0.mp q ⟨(mt (show _ ↔ c < 0 from z_ltN rfl rfl (by omega) (by omega)).mp (by omega)), (z_plt h_n rfl (by omega) (by omega))⟩) ?_
  refine z_evL ?_
  refine z_evG 4 (y := if (I 127 11) = 8 then z_go 41 [some (.ref 127), some (.int (nI a)), some (.int (nI b)), some (.int (nI c))] [] 161 (I, J, RF w) else z_go 44 [some (.ref 127), some (.int (nI a)), some (.int (nI b)), some (.int (nI c))] [] 161 (I, J, RF w)) (fun _ => rfl) ?_
  refine z_evF ((mt (show _ ↔ m = 8 from z_eqN h_m rfl (by omega) (by omega)).mp (by omega))) ?_
  refine z_evL ?_
  refine z_evG 8 (y := z_ck (z_in (3 * (I 127 11)) 24) (z_go 56 [some (.ref 127), some (.int (nI a)), some (.int (nI b)), some (.int (nI c))] [] 161 ((z_u2 I 135 ((3 * (I 127 11)).toNatClampNeg) (nI a)), J, RF w))) (fun _ => rfl) ?_
  refine z_evC (z_inN (k := 3 * m) (z_mulE rfl h_m) (by omega) (by decide)) ?_
  refine z_evL ?_
  rw [show ((3 * (I 127 11) : Int32)).toNatClampNeg = 3 * m from z_natE (z_mulE rfl h_m) (by omega)]
  refine z_evG 10 (y := z_ck (z_in ((3 * (I 127 11)) + 1) 24) (z_go 70 [some (.ref 127), some (.int (nI a)), some (.int (nI b)), some (.int (nI c))] [] 161 ((z_u2 (z_u2 I 135 (3 * m) (nI a)) 135 (((3 * (I 127 11)) + 1).toNatClampNeg) (nI b)), J, RF w))) (fun _ => rfl) ?_
  refine z_evC (z_inN (k := 3 * m + 1) (z_addE (z_mulE rfl h_m) rfl) (by omega) (by decide)) ?_
  refine z_evL ?_
  rw [show (((3 * (I 127 11)) + 1 : Int32)).toNatClampNeg = 3 * m + 1 from z_natE (z_addE (z_mulE rfl h_m) rfl) (by omega)]
  refine z_evG 10 (y := z_ck (z_in ((3 * (I 127 11)) + 2) 24) (z_go 84 [some (.ref 127), some (.int (nI a)), some (.int (nI b)), some (.int (nI c))] [] 161 ((z_u2 (z_u2 (z_u2 I 135 (3 * m) (nI a)) 135 (3 * m + 1) (nI b)) 135 (((3 * (I 127 11)) + 2).toNatClampNeg) (nI c)), J, RF w))) (fun _ => rfl) ?_
  refine z_evC (z_inN (k := 3 * m + 2) (z_addE (z_mulE rfl h_m) rfl) (by omega) (by decide)) ?_
  refine z_evL ?_
  rw [show (((3 * (I 127 11)) + 2 : Int32)).toNatClampNeg = 3 * m + 2 from z_natE (z_addE (z_mulE rfl h_m) rfl) (by omega)]
  refine z_evG 7 (y := if (nI c) = (-1) then z_go 97 [some (.ref 127), some (.int (nI a)), some (.int (nI b)), some (.int (nI c))] [.int (I 127 11), .ref 136] 161 ((z_u2 (z_u2 (z_u2 I 135 (3 * m) (nI a)) 135 (3 * m + 1) (nI b)) 135 (3 * m + 2) (nI c)), J, RF w) else z_go 101 [some (.ref 127), some (.int (nI a)), some (.int (nI b)), some (.int (nI c))] [.int (I 127 11), .ref 136] 161 ((z_u2 (z_u2 (z_u2 I 135 (3 * m) (nI a)) 135 (3 * m + 1) (nI b)) 135 (3 * m + 2) (nI c)), J, RF w)) (fun _ => rfl) ?_
  refine z_evF (z_nneg rfl (by omega) (by decide)) ?_
  refine z_evL ?_
  refine z_evG 2 (y := z_ck (z_in (I 127 11) 8) (z_go 103 [some (.ref 127), some (.int (nI a)), some (.int (nI b)), some (.int (nI c))] [] 161 ((z_u2 (z_u2 (z_u2 (z_u2 I 135 (3 * m) (nI a)) 135 (3 * m + 1) (nI b)) 135 (3 * m + 2) (nI c)) 136 ((I 127 11).toNatClampNeg) 3), J, RF w))) (fun _ => rfl) ?_
  refine z_evC (z_inN (k := m) h_m (by omega) (by decide)) ?_
  refine z_evL ?_
  rw [show ((I 127 11 : Int32)).toNatClampNeg = m from z_natE h_m (by omega)]
  refine z_evG 11 (y := some (.inr (some (.int (((I 127 11) + 1) - 1)), 161, (z_u2 (z_u2 (z_u2 (z_u2 (z_u2 I 135 (3 * m) (nI a)) 135 (3 * m + 1) (nI b)) 135 (3 * m + 2) (nI c)) 136 m 3) 127 11 ((I 127 11) + 1)), J, RF w))) (fun _ => rfl) ?_
  rw [show (((I 127 11) + 1) - 1 : Int32) = nI m from (z_predE (z_addE h_m rfl))]
  rw [show ((I 127 11) + 1 : Int32) = nI (m + 1) from (z_addE h_m rfl)]
  exact z_evR rfl
set_option maxRecDepth 20000 in
/-- LampHouseModel.eye -/
theorem m_eye_ok2 (E : zE) (d : Nat) (I : Nat → Nat → Int32) (J : Nat → Nat → Int64) (w : Nat) (a b n m : Nat) (h_n : I 127 1 = nI n) (hm_n : n ≤ 30) (h_m : I 127 11 = nI m) (hm_m : m ≤ 8) (hl_a : a < n) (hl_b : b < n) (hf : m < 8) : z_cl E (d + 3) 195 [.ref 127, .int (nI a), .int (nI b), .int (-1)] (161, I, J, RF w) = some (some (.int (nI m)), 161, (z_u2 (z_u2 (z_u2 (z_u2 (z_u2 I 135 (3 * m) (nI a)) 135 (3 * m + 1) (nI b)) 135 (3 * m + 2) (-1)) 136 m 2) 127 11 (nI (m + 1))), J, RF w) := by
  refine z_call (d := d + 2) (M := z_m195) rfl rfl ?_
  refine z_evG 3 (y := z_ret (z_cl E (d + 2) 182 [.ref 127, .int (nI a)] (161, (I, J, RF w))) 5 [some (.ref 127), some (.int (nI a)), some (.int (nI b)), some (.int (-1))] []) (fun _ => rfl) ?_
  refine z_evK (v := .int (z_bo (¬ (nI a) < 0 ∧ ¬ I 127 1 - 1 < (nI a)))) (z' := 161) (σ' := (I, J, RF w)) (m_isRow E d I J w (nI a)) ?_
  refine z_evG 1 (y := if (z_bo (¬ (nI a) < 0 ∧ ¬ I 127 1 - 1 < (nI a))) = 0 then z_go 29 [some (.ref 127), some (.int (nI a)), some (.int (nI b)), some (.int (-1))] [] 161 (I, J, RF w) else z_go 8 [some (.ref 127), some (.int (nI a)), some (.int (nI b)), some (.int (-1))] [] 161 (I, J, RF w)) (fun _ => rfl) ?_
  refine z_evF (fun q => z_bo_0.mp q ⟨(mt (show _ ↔ a < 0 from z_ltN rfl rfl (by omega) (by omega)).mp (by omega)), (z_plt h_n rfl (by omega) (by omega))⟩) ?_
  refine z_evL ?_
  refine z_evG 3 (y := z_ret (z_cl E (d + 2) 182 [.ref 127, .int (nI b)] (161, (I, J, RF w))) 13 [some (.ref 127), some (.int (nI a)), some (.int (nI b)), some (.int (-1))] []) (fun _ => rfl) ?_
  refine z_evK (v := .int (z_bo (¬ (nI b) < 0 ∧ ¬ I 127 1 - 1 < (nI b)))) (z' := 161) (σ' := (I, J, RF w)) (m_isRow E d I J w (nI b)) ?_
  refine z_evG 1 (y := if (z_bo (¬ (nI b) < 0 ∧ ¬ I 127 1 - 1 < (nI b))) = 0 then z_go 29 [some (.ref 127), some (.int (nI a)), some (.int (nI b)), some (.int (-1))] [] 161 (I, J, RF w) else z_go 16 [some (.ref 127), some (.int (nI a)), some (.int (nI b)), some (.int (-1))] [] 161 (I, J, RF w)) (fun _ => rfl) ?_
  refine z_evF (fun q => z_bo_0.mp q ⟨(mt (show _ ↔ b < 0 from z_ltN rfl rfl (by omega) (by omega)).mp (by omega)), (z_plt h_n rfl (by omega) (by omega))⟩) ?_
  refine z_evL ?_
  refine z_evG 3 (y := if (-1) = (-1) then z_go 32 [some (.ref 127), some (.int (nI a)), some (.int (nI b)), some (.int (-1))] [] 161 (I, J, RF w) else z_go 21 [some (.ref 127), some (.int (nI a)), some (.int (nI b)), some (.int (-1))] [] 161 (I, J, RF w)) (fun _ => rfl) ?_
  refine z_evI (fun _ => ?_) (fun q => absurd (by decide) q)
  refine z_evL ?_
  refine z_evG 4 (y := if (I 127 11) = 8 then z_go 41 [some (.ref 127), some (.int (nI a)), some (.int (nI b)), some (.int (-1))] [] 161 (I, J, RF w) else z_go 44 [some (.ref 127), some (.int (nI a)), some (.int (nI b)), some (.int (-1))] [] 161 (I, J, RF w)) (fun _ => rfl) ?_
  refine z_evF ((mt (show _ ↔ m = 8 from z_eqN h_m rfl (by omega) (by omega)).mp (by omega))) ?_
  refine z_evL ?_
  refine z_evG 8 (y := z_ck (z_in (3 * (I 127 11)) 24) (z_go 56 [some (.ref 127), some (.int (nI a)), some (.int (nI b)), some (.int (-1))] [] 161 ((z_u2 I 135 ((3 * (I 127 11)).toNatClampNeg) (nI a)), J, RF w))) (fun _ => rfl) ?_
  refine z_evC (z_inN (k := 3 * m) (z_mulE rfl h_m) (by omega) (by decide)) ?_
  refine z_evL ?_
  rw [show ((3 * (I 127 11) : Int32)).toNatClampNeg = 3 * m from z_natE (z_mulE rfl h_m) (by omega)]
  refine z_evG 10 (y := z_ck (z_in ((3 * (I 127 11)) + 1) 24) (z_go 70 [some (.ref 127), some (.int (nI a)), some (.int (nI b)), some (.int (-1))] [] 161 ((z_u2 (z_u2 I 135 (3 * m) (nI a)) 135 (((3 * (I 127 11)) + 1).toNatClampNeg) (nI b)), J, RF w))) (fun _ => rfl) ?_
  refine z_evC (z_inN (k := 3 * m + 1) (z_addE (z_mulE rfl h_m) rfl) (by omega) (by decide)) ?_
  refine z_evL ?_
  rw [show (((3 * (I 127 11)) + 1 : Int32)).toNatClampNeg = 3 * m + 1 from z_natE (z_addE (z_mulE rfl h_m) rfl) (by omega)]
  refine z_evG 10 (y := z_ck (z_in ((3 * (I 127 11)) + 2) 24) (z_go 84 [some (.ref 127), some (.int (nI a)), some (.int (nI b)), some (.int (-1))] [] 161 ((z_u2 (z_u2 (z_u2 I 135 (3 * m) (nI a)) 135 (3 * m + 1) (nI b)) 135 (((3 * (I 127 11)) + 2).toNatClampNeg) (-1)), J, RF w))) (fun _ => rfl) ?_
  refine z_evC (z_inN (k := 3 * m + 2) (z_addE (z_mulE rfl h_m) rfl) (by omega) (by decide)) ?_
  refine z_evL ?_
  rw [show (((3 * (I 127 11)) + 2 : Int32)).toNatClampNeg = 3 * m + 2 from z_natE (z_addE (z_mulE rfl h_m) rfl) (by omega)]
  refine z_evG 7 (y := if (-1) = (-1) then z_go 97 [some (.ref 127), some (.int (nI a)), some (.int (nI b)), some (.int (-1))] [.int (I 127 11), .ref 136] 161 ((z_u2 (z_u2 (z_u2 I 135 (3 * m) (nI a)) 135 (3 * m + 1) (nI b)) 135 (3 * m + 2) (-1)), J, RF w) else z_go 101 [some (.ref 127), some (.int (nI a)), some (.int (nI b)), some (.int (-1))] [.int (I 127 11), .ref 136] 161 ((z_u2 (z_u2 (z_u2 I 135 (3 * m) (nI a)) 135 (3 * m + 1) (nI b)) 135 (3 * m + 2) (-1)), J, RF w)) (fun _ => rfl) ?_
  refine z_evI (fun _ => ?_) (fun q => absurd (by decide) q)
  refine z_evL ?_
  refine z_evG 3 (y := z_ck (z_in (I 127 11) 8) (z_go 103 [some (.ref 127), some (.int (nI a)), some (.int (nI b)), some (.int (-1))] [] 161 ((z_u2 (z_u2 (z_u2 (z_u2 I 135 (3 * m) (nI a)) 135 (3 * m + 1) (nI b)) 135 (3 * m + 2) (-1)) 136 ((I 127 11).toNatClampNeg) 2), J, RF w))) (fun _ => rfl) ?_
  refine z_evC (z_inN (k := m) h_m (by omega) (by decide)) ?_
  refine z_evL ?_
  rw [show ((I 127 11 : Int32)).toNatClampNeg = m from z_natE h_m (by omega)]
  refine z_evG 11 (y := some (.inr (some (.int (((I 127 11) + 1) - 1)), 161, (z_u2 (z_u2 (z_u2 (z_u2 (z_u2 I 135 (3 * m) (nI a)) 135 (3 * m + 1) (nI b)) 135 (3 * m + 2) (-1)) 136 m 2) 127 11 ((I 127 11) + 1)), J, RF w))) (fun _ => rfl) ?_
  rw [show (((I 127 11) + 1) - 1 : Int32) = nI m from (z_predE (z_addE h_m rfl))]
  rw [show ((I 127 11) + 1 : Int32) = nI (m + 1) from (z_addE h_m rfl)]
  exact z_evR rfl
set_option maxRecDepth 20000 in
/-- LampHouse.eye -/
theorem x_eye_badB (E : zE) (d : Nat) (I : Nat → Nat → Int32) (J : Nat → Nat → Int64) (w : Nat) (a b c : Int32) (hbad : ¬ ((¬ a < 0 ∧ a < I 1 1) ∧ (¬ b < 0 ∧ b < I 1 1) ∧ (¬ c = (-1) → (¬ c < 0 ∧ c < I 1 1)))) : z_cl E (d + 2) 137 [.ref 0, .int a, .int b, .int c] (161, I, J, RF w) = some (some (.int (-2)), 161, I, J, RF w) := by
  refine z_call (d := d + 1) (M := z_m137) rfl rfl ?_
  refine z_evG 4 (y := z_ret (z_cl E (d + 1) 8 [.ref 1, .int a] (161, (I, J, RF w))) 8 [some (.ref 0), some (.int a), some (.int b), some (.int c)] []) (fun _ => rfl) ?_
  refine z_evK (v := .int (z_bo (¬ a < 0 ∧ a < I 1 1))) (z' := 161) (σ' := (I, J, RF w)) (x_rows_has E d I J w a) ?_
  refine z_evG 1 (y := if (z_bo (¬ a < 0 ∧ a < I 1 1)) = 0 then z_go 38 [some (.ref 0), some (.int a), some (.int b), some (.int c)] [] 161 (I, J, RF w) else z_go 11 [some (.ref 0), some (.int a), some (.int b), some (.int c)] [] 161 (I, J, RF w)) (fun _ => rfl) ?_
  refine z_evO (fun h1 => ?_) (fun h1 => ?_)
  · refine z_evL ?_
    refine z_evG 2 (y := some (.inr (some (.int (-2)), 161, I, J, RF w))) (fun _ => rfl) ?_
    exact z_evR rfl
  · refine z_evL ?_
    refine z_evG 4 (y := z_ret (z_cl E (d + 1) 8 [.ref 1, .int b] (161, (I, J, RF w))) 19 [some (.ref 0), some (.int a), some (.int b), some (.int c)] []) (fun _ => rfl) ?_
    refine z_evK (v := .int (z_bo (¬ b < 0 ∧ b < I 1 1))) (z' := 161) (σ' := (I, J, RF w)) (x_rows_has E d I J w b) ?_
    refine z_evG 1 (y := if (z_bo (¬ b < 0 ∧ b < I 1 1)) = 0 then z_go 38 [some (.ref 0), some (.int a), some (.int b), some (.int c)] [] 161 (I, J, RF w) else z_go 22 [some (.ref 0), some (.int a), some (.int b), some (.int c)] [] 161 (I, J, RF w)) (fun _ => rfl) ?_
    refine z_evO (fun h2 => ?_) (fun h2 => ?_)
    · refine z_evL ?_
      refine z_evG 2 (y := some (.inr (some (.int (-2)), 161, I, J, RF w))) (fun _ => rfl) ?_
      exact z_evR rfl
    · refine z_evL ?_
      refine z_evG 3 (y := if c = (-1) then z_go 41 [some (.ref 0), some (.int a), some (.int b), some (.int c)] [] 161 (I, J, RF w) else z_go 27 [some (.ref 0), some (.int a), some (.int b), some (.int c)] [] 161 (I, J, RF w)) (fun _ => rfl) ?_
      refine z_evI (fun h3 => ?_) (fun h3 => ?_)
      · refine z_evL ?_
        exact absurd ⟨h1, h2, fun q => absurd h3 q⟩ hbad
      · refine z_evL ?_
        refine z_evG 4 (y := z_ret (z_cl E (d + 1) 8 [.ref 1, .int c] (161, (I, J, RF w))) 35 [some (.ref 0), some (.int a), some (.int b), some (.int c)] []) (fun _ => rfl) ?_
        refine z_evK (v := .int (z_bo (¬ c < 0 ∧ c < I 1 1))) (z' := 161) (σ' := (I, J, RF w)) (x_rows_has E d I J w c) ?_
        refine z_evG 1 (y := if (z_bo (¬ c < 0 ∧ c < I 1 1)) = 0 then z_go 38 [some (.ref 0), some (.int a), some (.int b), some (.int c)] [] 161 (I, J, RF w) else z_go 41 [some (.ref 0), some (.int a), some (.int b), some (.int c)] [] 161 (I, J, RF w)) (fun _ => rfl) ?_
        refine z_evO (fun h4 => ?_) (fun h4 => ?_)
        · refine z_evL ?_
          refine z_evG 2 (y := some (.inr (some (.int (-2)), 161, I, J, RF w))) (fun _ => rfl) ?_
          exact z_evR rfl
        · refine z_evL ?_
          exact absurd ⟨h1, h2, fun _ => h4⟩ hbad
set_option maxRecDepth 20000 in
/-- LampHouseModel.eye -/
theorem m_eye_badB (E : zE) (d : Nat) (I : Nat → Nat → Int32) (J : Nat → Nat → Int64) (w : Nat) (a b c : Int32) (hbad : ¬ ((¬ a < 0 ∧ ¬ I 127 1 - 1 < a) ∧ (¬ b < 0 ∧ ¬ I 127 1 - 1 < b) ∧ (¬ c = (-1) → (¬ c < 0 ∧ ¬ I 127 1 - 1 < c)))) : z_cl E (d + 3) 195 [.ref 127, .int a, .int b, .int c] (161, I, J, RF w) = some (some (.int (-2)), 161, I, J, RF w) := by
  refine z_call (d := d + 2) (M := z_m195) rfl rfl ?_
  refine z_evG 3 (y := z_ret (z_cl E (d + 2) 182 [.ref 127, .int a] (161, (I, J, RF w))) 5 [some (.ref 127), some (.int a), some (.int b), some (.int c)] []) (fun _ => rfl) ?_
  refine z_evK (v := .int (z_bo (¬ a < 0 ∧ ¬ I 127 1 - 1 < a))) (z' := 161) (σ' := (I, J, RF w)) (m_isRow E d I J w a) ?_
  refine z_evG 1 (y := if (z_bo (¬ a < 0 ∧ ¬ I 127 1 - 1 < a)) = 0 then z_go 29 [some (.ref 127), some (.int a), some (.int b), some (.int c)] [] 161 (I, J, RF w) else z_go 8 [some (.ref 127), some (.int a), some (.int b), some (.int c)] [] 161 (I, J, RF w)) (fun _ => rfl) ?_
  refine z_evO (fun h1 => ?_) (fun h1 => ?_)
  · refine z_evL ?_
    refine z_evG 2 (y := some (.inr (some (.int (-2)), 161, I, J, RF w))) (fun _ => rfl) ?_
    exact z_evR rfl
  · refine z_evL ?_
    refine z_evG 3 (y := z_ret (z_cl E (d + 2) 182 [.ref 127, .int b] (161, (I, J, RF w))) 13 [some (.ref 127), some (.int a), some (.int b), some (.int c)] []) (fun _ => rfl) ?_
    refine z_evK (v := .int (z_bo (¬ b < 0 ∧ ¬ I 127 1 - 1 < b))) (z' := 161) (σ' := (I, J, RF w)) (m_isRow E d I J w b) ?_
    refine z_evG 1 (y := if (z_bo (¬ b < 0 ∧ ¬ I 127 1 - 1 < b)) = 0 then z_go 29 [some (.ref 127), some (.int a), some (.int b), some (.int c)] [] 161 (I, J, RF w) else z_go 16 [some (.ref 127), some (.int a), some (.int b), some (.int c)] [] 161 (I, J, RF w)) (fun _ => rfl) ?_
    refine z_evO (fun h2 => ?_) (fun h2 => ?_)
    · refine z_evL ?_
      refine z_evG 2 (y := some (.inr (some (.int (-2)), 161, I, J, RF w))) (fun _ => rfl) ?_
      exact z_evR rfl
    · refine z_evL ?_
      refine z_evG 3 (y := if c = (-1) then z_go 32 [some (.ref 127), some (.int a), some (.int b), some (.int c)] [] 161 (I, J, RF w) else z_go 21 [some (.ref 127), some (.int a), some (.int b), some (.int c)] [] 161 (I, J, RF w)) (fun _ => rfl) ?_
      refine z_evI (fun h3 => ?_) (fun h3 => ?_)
      · refine z_evL ?_
        exact absurd ⟨h1, h2, fun q => absurd h3 q⟩ hbad
      · refine z_evL ?_
        refine z_evG 3 (y := z_ret (z_cl E (d + 2) 182 [.ref 127, .int c] (161, (I, J, RF w))) 26 [some (.ref 127), some (.int a), some (.int b), some (.int c)] []) (fun _ => rfl) ?_
        refine z_evK (v := .int (z_bo (¬ c < 0 ∧ ¬ I 127 1 - 1 < c))) (z' := 161) (σ' := (I, J, RF w)) (m_isRow E d I J w c) ?_
        refine z_evG 1 (y := if (z_bo (¬ c < 0 ∧ ¬ I 127 1 - 1 < c)) = 0 then z_go 29 [some (.ref 127), some (.int a), some (.int b), some (.int c)] [] 161 (I, J, RF w) else z_go 32 [some (.ref 127), some (.int a), some (.int b), some (.int c)] [] 161 (I, J, RF w)) (fun _ => rfl) ?_
        refine z_evO (fun h4 => ?_) (fun h4 => ?_)
        · refine z_evL ?_
          refine z_evG 2 (y := some (.inr (some (.int (-2)), 161, I, J, RF w))) (fun _ => rfl) ?_
          exact z_evR rfl
        · refine z_evL ?_
          exact absurd ⟨h1, h2, fun _ => h4⟩ hbad
