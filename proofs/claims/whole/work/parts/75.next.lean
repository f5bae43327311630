-- NEXT by the reference
def s_nxt (I : Nat → Nat → Int32) (at_ tk pl va : Int32) : Nat → Nat → Int32 := fun a k =>
  if a = 127 then if k = 23 then at_ else if k = 24 then tk else if k = 25 then pl else if k = 26 then va else I a k else I a k
def s_mtk (t : Nat) : Int32 := if t = 1 then -1 else if t = 2 then 1 else if 3 ≤ t ∧ t < 8 then nI (t + 7) else if 8 ≤ t ∧ t ≤ 13 then 2 else nI t
def s_wva (I : Nat → Nat → Int32) (t : Nat) : Int32 := if 8 ≤ t then I 141 (t - 8) else I 127 26
set_option maxRecDepth 20000 in
theorem m_rw_like (E : zE) (d : Nat) (I : Nat → Nat → Int32) (J : Nat → Nat → Int64) (w : Nat) (x : Int32) : z_Ev E (d + 1) z_m203 64 [some (.ref 127), some (.long 402789), none, some (.int x)] [] 161 (I, J, RF w) (none, 161, (z_u2 (z_u2 I 127 24 2) 127 24 10), J, RF w) := by
  refine z_evG 7 (y := if (lg_cmp 402789 1) = 0 then z_go 91 [some (.ref 127), some (.long 402789), none, some (.int x)] [] 161 ((z_u2 I 127 24 2), J, RF w) else z_go 75 [some (.ref 127), some (.long 402789), none, some (.int x)] [] 161 ((z_u2 I 127 24 2), J, RF w)) (fun _ => rfl) ?_
  refine z_evF (by decide) ?_
  refine z_evL ?_
  refine z_evG 4 (y := if (lg_cmp 402789 2) = 0 then z_go 91 [some (.ref 127), some (.long 402789), none, some (.int x)] [] 161 ((z_u2 I 127 24 2), J, RF w) else z_go 83 [some (.ref 127), some (.long 402789), none, some (.int x)] [] 161 ((z_u2 I 127 24 2), J, RF w)) (fun _ => rfl) ?_
  refine z_evF (by decide) ?_
  refine z_evL ?_
  refine z_evG 4 (y := if (lg_cmp 402789 3) = 0 then z_go 91 [some (.ref 127), some (.long 402789), none, some (.int x)] [] 161 ((z_u2 I 127 24 2), J, RF w) else z_go 107 [some (.ref 127), some (.long 402789), none, some (.int x)] [] 161 ((z_u2 I 127 24 2), J, RF w)) (fun _ => rfl) ?_
  refine z_evF (by decide) ?_
  refine z_evL ?_
  refine z_evG 4 (y := if (lg_cmp 402789 20141) = 0 then z_go 115 [some (.ref 127), some (.long 402789), none, some (.int x)] [] 161 ((z_u2 I 127 24 2), J, RF w) else z_go 128 [some (.ref 127), some (.long 402789), none, some (.int x)] [] 161 ((z_u2 I 127 24 2), J, RF w)) (fun _ => rfl) ?_
  refine z_evF (by decide) ?_
  refine z_evL ?_
  refine z_evG 4 (y := if (lg_cmp 402789 370116) = 0 then z_go 136 [some (.ref 127), some (.long 402789), none, some (.int x)] [] 161 ((z_u2 I 127 24 2), J, RF w) else z_go 149 [some (.ref 127), some (.long 402789), none, some (.int x)] [] 161 ((z_u2 I 127 24 2), J, RF w)) (fun _ => rfl) ?_
  refine z_evF (by decide) ?_
  refine z_evL ?_
  refine z_evG 4 (y := if (lg_cmp 402789 278194) = 0 then z_go 157 [some (.ref 127), some (.long 402789), none, some (.int x)] [] 161 ((z_u2 I 127 24 2), J, RF w) else z_go 170 [some (.ref 127), some (.long 402789), none, some (.int x)] [] 161 ((z_u2 I 127 24 2), J, RF w)) (fun _ => rfl) ?_
  refine z_evF (by decide) ?_
  refine z_evL ?_
  refine z_evG 5 (y := if (lg_cmp 402789 402789) = 0 then z_go 179 [some (.ref 127), some (.long 402789), none, some (.int x)] [.ref 127] 161 ((z_u2 I 127 24 2), J, RF w) else z_go 184 [some (.ref 127), some (.long 402789), none, some (.int x)] [.ref 127] 161 ((z_u2 I 127 24 2), J, RF w)) (fun _ => rfl) ?_
  refine z_evT (by decide) ?_
  refine z_evL ?_
  refine z_evG 4 (y := some (.inr (none, 161, (z_u2 (z_u2 I 127 24 2) 127 24 10), J, RF w))) (fun _ => rfl) ?_
  exact z_evR rfl
set_option maxRecDepth 20000 in
theorem m_rw_true (E : zE) (d : Nat) (I : Nat → Nat → Int32) (J : Nat → Nat → Int64) (w : Nat) (x : Int32) : z_Ev E (d + 1) z_m203 64 [some (.ref 127), some (.long 674469), none, some (.int x)] [] 161 (I, J, RF w) (none, 161, (z_u2 (z_u2 I 127 24 2) 127 24 11), J, RF w) := by
  refine z_evG 7 (y := if (lg_cmp 674469 1) = 0 then z_go 91 [some (.ref 127), some (.long 674469), none, some (.int x)] [] 161 ((z_u2 I 127 24 2), J, RF w) else z_go 75 [some (.ref 127), some (.long 674469), none, some (.int x)] [] 161 ((z_u2 I 127 24 2), J, RF w)) (fun _ => rfl) ?_
  refine z_evF (by decide) ?_
  refine z_evL ?_
  refine z_evG 4 (y := if (lg_cmp 674469 2) = 0 then z_go 91 [some (.ref 127), some (.long 674469), none, some (.int x)] [] 161 ((z_u2 I 127 24 2), J, RF w) else z_go 83 [some (.ref 127), some (.long 674469), none, some (.int x)] [] 161 ((z_u2 I 127 24 2), J, RF w)) (fun _ => rfl) ?_
  refine z_evF (by decide) ?_
  refine z_evL ?_
  refine z_evG 4 (y := if (lg_cmp 674469 3) = 0 then z_go 91 [some (.ref 127), some (.long 674469), none, some (.int x)] [] 161 ((z_u2 I 127 24 2), J, RF w) else z_go 107 [some (.ref 127), some (.long 674469), none, some (.int x)] [] 161 ((z_u2 I 127 24 2), J, RF w)) (fun _ => rfl) ?_
  refine z_evF (by decide) ?_
  refine z_evL ?_
  refine z_evG 4 (y := if (lg_cmp 674469 20141) = 0 then z_go 115 [some (.ref 127), some (.long 674469), none, some (.int x)] [] 161 ((z_u2 I 127 24 2), J, RF w) else z_go 128 [some (.ref 127), some (.long 674469), none, some (.int x)] [] 161 ((z_u2 I 127 24 2), J, RF w)) (fun _ => rfl) ?_
  refine z_evF (by decide) ?_
  refine z_evL ?_
  refine z_evG 4 (y := if (lg_cmp 674469 370116) = 0 then z_go 136 [some (.ref 127), some (.long 674469), none, some (.int x)] [] 161 ((z_u2 I 127 24 2), J, RF w) else z_go 149 [some (.ref 127), some (.long 674469), none, some (.int x)] [] 161 ((z_u2 I 127 24 2), J, RF w)) (fun _ => rfl) ?_
  refine z_evF (by decide) ?_
  refine z_evL ?_
  refine z_evG 4 (y := if (lg_cmp 674469 278194) = 0 then z_go 157 [some (.ref 127), some (.long 674469), none, some (.int x)] [] 161 ((z_u2 I 127 24 2), J, RF w) else z_go 170 [some (.ref 127), some (.long 674469), none, some (.int x)] [] 161 ((z_u2 I 127 24 2), J, RF w)) (fun _ => rfl) ?_
  refine z_evF (by decide) ?_
  refine z_evL ?_
  refine z_evG 5 (y := if (lg_cmp 674469 402789) = 0 then z_go 179 [some (.ref 127), some (.long 674469), none, some (.int x)] [.ref 127] 161 ((z_u2 I 127 24 2), J, RF w) else z_go 184 [some (.ref 127), some (.long 674469), none, some (.int x)] [.ref 127] 161 ((z_u2 I 127 24 2), J, RF w)) (fun _ => rfl) ?_
  refine z_evF (by decide) ?_
  refine z_evL ?_
  refine z_evG 4 (y := if (lg_cmp 674469 674469) = 0 then z_go 192 [some (.ref 127), some (.long 674469), none, some (.int x)] [.ref 127] 161 ((z_u2 I 127 24 2), J, RF w) else z_go 197 [some (.ref 127), some (.long 674469), none, some (.int x)] [.ref 127] 161 ((z_u2 I 127 24 2), J, RF w)) (fun _ => rfl) ?_
  refine z_evT (by decide) ?_
  refine z_evL ?_
  refine z_evG 4 (y := some (.inr (none, 161, (z_u2 (z_u2 I 127 24 2) 127 24 11), J, RF w))) (fun _ => rfl) ?_
  exact z_evR rfl
set_option maxRecDepth 20000 in
theorem m_rw_or (E : zE) (d : Nat) (I : Nat → Nat → Int32) (J : Nat → Nat → Int64) (w : Nat) (x : Int32) : z_Ev E (d + 1) z_m203 64 [some (.ref 127), some (.long 498), none, some (.int x)] [] 161 (I, J, RF w) (none, 161, (z_u2 (z_u2 I 127 24 2) 127 24 12), J, RF w) := by
  refine z_evG 7 (y := if (lg_cmp 498 1) = 0 then z_go 91 [some (.ref 127), some (.long 498), none, some (.int x)] [] 161 ((z_u2 I 127 24 2), J, RF w) else z_go 75 [some (.ref 127), some (.long 498), none, some (.int x)] [] 161 ((z_u2 I 127 24 2), J, RF w)) (fun _ => rfl) ?_
  refine z_evF (by decide) ?_
  refine z_evL ?_
  refine z_evG 4 (y := if (lg_cmp 498 2) = 0 then z_go 91 [some (.ref 127), some (.long 498), none, some (.int x)] [] 161 ((z_u2 I 127 24 2), J, RF w) else z_go 83 [some (.ref 127), some (.long 498), none, some (.int x)] [] 161 ((z_u2 I 127 24 2), J, RF w)) (fun _ => rfl) ?_
  refine z_evF (by decide) ?_
  refine z_evL ?_
  refine z_evG 4 (y := if (lg_cmp 498 3) = 0 then z_go 91 [some (.ref 127), some (.long 498), none, some (.int x)] [] 161 ((z_u2 I 127 24 2), J, RF w) else z_go 107 [some (.ref 127), some (.long 498), none, some (.int x)] [] 161 ((z_u2 I 127 24 2), J, RF w)) (fun _ => rfl) ?_
  refine z_evF (by decide) ?_
  refine z_evL ?_
  refine z_evG 4 (y := if (lg_cmp 498 20141) = 0 then z_go 115 [some (.ref 127), some (.long 498), none, some (.int x)] [] 161 ((z_u2 I 127 24 2), J, RF w) else z_go 128 [some (.ref 127), some (.long 498), none, some (.int x)] [] 161 ((z_u2 I 127 24 2), J, RF w)) (fun _ => rfl) ?_
  refine z_evF (by decide) ?_
  refine z_evL ?_
  refine z_evG 4 (y := if (lg_cmp 498 370116) = 0 then z_go 136 [some (.ref 127), some (.long 498), none, some (.int x)] [] 161 ((z_u2 I 127 24 2), J, RF w) else z_go 149 [some (.ref 127), some (.long 498), none, some (.int x)] [] 161 ((z_u2 I 127 24 2), J, RF w)) (fun _ => rfl) ?_
  refine z_evF (by decide) ?_
  refine z_evL ?_
  refine z_evG 4 (y := if (lg_cmp 498 278194) = 0 then z_go 157 [some (.ref 127), some (.long 498), none, some (.int x)] [] 161 ((z_u2 I 127 24 2), J, RF w) else z_go 170 [some (.ref 127), some (.long 498), none, some (.int x)] [] 161 ((z_u2 I 127 24 2), J, RF w)) (fun _ => rfl) ?_
  refine z_evF (by decide) ?_
  refine z_evL ?_
  refine z_evG 5 (y := if (lg_cmp 498 402789) = 0 then z_go 179 [some (.ref 127), some (.long 498), none, some (.int x)] [.ref 127] 161 ((z_u2 I 127 24 2), J, RF w) else z_go 184 [some (.ref 127), some (.long 498), none, some (.int x)] [.ref 127] 161 ((z_u2 I 127 24 2), J, RF w)) (fun _ => rfl) ?_
  refine z_evF (by decide) ?_
  refine z_evL ?_
  refine z_evG 4 (y := if (lg_cmp 498 674469) = 0 then z_go 192 [some (.ref 127), some (.long 498), none, some (.int x)] [.ref 127] 161 ((z_u2 I 127 24 2), J, RF w) else z_go 197 [some (.ref 127), some (.long 498), none, some (.int x)] [.ref 127] 161 ((z_u2 I 127 24 2), J, RF w)) (fun _ => rfl) ?_
  refine z_evF (by decide) ?_
  refine z_evL ?_
  refine z_evG 4 (y := if (lg_cmp 498 498) = 0 then z_go 205 [some (.ref 127), some (.long 498), none, some (.int x)] [.ref 127] 161 ((z_u2 I 127 24 2), J, RF w) else z_go 210 [some (.ref 127), some (.long 498), none, some (.int x)] [.ref 127] 161 ((z_u2 I 127 24 2), J, RF w)) (fun _ => rfl) ?_
  refine z_evT (by decide) ?_
  refine z_evL ?_
  refine z_evG 4 (y := some (.inr (none, 161, (z_u2 (z_u2 I 127 24 2) 127 24 12), J, RF w))) (fun _ => rfl) ?_
  exact z_evR rfl
set_option maxRecDepth 20000 in
theorem m_rw_and (E : zE) (d : Nat) (I : Nat → Nat → Int32) (J : Nat → Nat → Int64) (w : Nat) (x : Int32) : z_Ev E (d + 1) z_m203 64 [some (.ref 127), some (.long 1476), none, some (.int x)] [] 161 (I, J, RF w) (none, 161, (z_u2 (z_u2 I 127 24 2) 127 24 13), J, RF w) := by
  refine z_evG 7 (y := if (lg_cmp 1476 1) = 0 then z_go 91 [some (.ref 127), some (.long 1476), none, some (.int x)] [] 161 ((z_u2 I 127 24 2), J, RF w) else z_go 75 [some (.ref 127), some (.long 1476), none, some (.int x)] [] 161 ((z_u2 I 127 24 2), J, RF w)) (fun _ => rfl) ?_
  refine z_evF (by decide) ?_
  refine z_evL ?_
  refine z_evG 4 (y := if (lg_cmp 1476 2) = 0 then z_go 91 [some (.ref 127), some (.long 1476), none, some (.int x)] [] 161 ((z_u2 I 127 24 2), J, RF w) else z_go 83 [some (.ref 127), some (.long 1476), none, some (.int x)] [] 161 ((z_u2 I 127 24 2), J, RF w)) (fun _ => rfl) ?_
  refine z_evF (by decide) ?_
  refine z_evL ?_
  refine z_evG 4 (y := if (lg_cmp 1476 3) = 0 then z_go 91 [some (.ref 127), some (.long 1476), none, some (.int x)] [] 161 ((z_u2 I 127 24 2), J, RF w) else z_go 107 [some (.ref 127), some (.long 1476), none, some (.int x)] [] 161 ((z_u2 I 127 24 2), J, RF w)) (fun _ => rfl) ?_
  refine z_evF (by decide) ?_
  refine z_evL ?_
  refine z_evG 4 (y := if (lg_cmp 1476 20141) = 0 then z_go 115 [some (.ref 127), some (.long 1476), none, some (.int x)] [] 161 ((z_u2 I 127 24 2), J, RF w) else z_go 128 [some (.ref 127), some (.long 1476), none, some (.int x)] [] 161 ((z_u2 I 127 24 2), J, RF w)) (fun _ => rfl) ?_
  refine z_evF (by decide) ?_
  refine z_evL ?_
  refine z_evG 4 (y := if (lg_cmp 1476 370116) = 0 then z_go 136 [some (.ref 127), some (.long 1476), none, some (.int x)] [] 161 ((z_u2 I 127 24 2), J, RF w) else z_go 149 [some (.ref 127), some (.long 1476), none, some (.int x)] [] 161 ((z_u2 I 127 24 2), J, RF w)) (fun _ => rfl) ?_
  refine z_evF (by decide) ?_
  refine z_evL ?_
  refine z_evG 4 (y := if (lg_cmp 1476 278194) = 0 then z_go 157 [some (.ref 127), some (.long 1476), none, some (.int x)] [] 161 ((z_u2 I 127 24 2), J, RF w) else z_go 170 [some (.ref 127), some (.long 1476), none, some (.int x)] [] 161 ((z_u2 I 127 24 2), J, RF w)) (fun _ => rfl) ?_
  refine z_evF (by decide) ?_
  refine z_evL ?_
  refine z_evG 5 (y := if (lg_cmp 1476 402789) = 0 then z_go 179 [some (.ref 127), some (.long 1476), none, some (.int x)] [.ref 127] 161 ((z_u2 I 127 24 2), J, RF w) else z_go 184 [some (.ref 127), some (.long 1476), none, some (.int x)] [.ref 127] 161 ((z_u2 I 127 24 2), J, RF w)) (fun _ => rfl) ?_
  refine z_evF (by decide) ?_
  refine z_evL ?_
  refine z_evG 4 (y := if (lg_cmp 1476 674469) = 0 then z_go 192 [some (.ref 127), some (.long 1476), none, some (.int x)] [.ref 127] 161 ((z_u2 I 127 24 2), J, RF w) else z_go 197 [some (.ref 127), some (.long 1476), none, some (.int x)] [.ref 127] 161 ((z_u2 I 127 24 2), J, RF w)) (fun _ => rfl) ?_
  refine z_evF (by decide) ?_
  refine z_evL ?_
  refine z_evG 4 (y := if (lg_cmp 1476 498) = 0 then z_go 205 [some (.ref 127), some (.long 1476), none, some (.int x)] [.ref 127] 161 ((z_u2 I 127 24 2), J, RF w) else z_go 210 [some (.ref 127), some (.long 1476), none, some (.int x)] [.ref 127] 161 ((z_u2 I 127 24 2), J, RF w)) (fun _ => rfl) ?_
  refine z_evF (by decide) ?_
  refine z_evL ?_
  refine z_evG 4 (y := if (lg_cmp 1476 1476) = 0 then z_go 218 [some (.ref 127), some (.long 1476), none, some (.int x)] [.ref 127] 161 ((z_u2 I 127 24 2), J, RF w) else z_go 223 [some (.ref 127), some (.long 1476), none, some (.int x)] [.ref 127] 161 ((z_u2 I 127 24 2), J, RF w)) (fun _ => rfl) ?_
  refine z_evT (by decide) ?_
  refine z_evL ?_
  refine z_evG 4 (y := some (.inr (none, 161, (z_u2 (z_u2 I 127 24 2) 127 24 13), J, RF w))) (fun _ => rfl) ?_
  exact z_evR rfl
set_option maxRecDepth 20000 in
theorem m_rw_not (E : zE) (d : Nat) (I : Nat → Nat → Int32) (J : Nat → Nat → Int64) (w : Nat) (x : Int32) : z_Ev E (d + 1) z_m203 64 [some (.ref 127), some (.long 14836), none, some (.int x)] [] 161 (I, J, RF w) (none, 161, (z_u2 (z_u2 I 127 24 2) 127 24 14), J, RF w) := by
  refine z_evG 7 (y := if (lg_cmp 14836 1) = 0 then z_go 91 [some (.ref 127), some (.long 14836), none, some (.int x)] [] 161 ((z_u2 I 127 24 2), J, RF w) else z_go 75 [some (.ref 127), some (.long 14836), none, some (.int x)] [] 161 ((z_u2 I 127 24 2), J, RF w)) (fun _ => rfl) ?_
  refine z_evF (by decide) ?_
  refine z_evL ?_
  refine z_evG 4 (y := if (lg_cmp 14836 2) = 0 then z_go 91 [some (.ref 127), some (.long 14836), none, some (.int x)] [] 161 ((z_u2 I 127 24 2), J, RF w) else z_go 83 [some (.ref 127), some (.long 14836), none, some (.int x)] [] 161 ((z_u2 I 127 24 2), J, RF w)) (fun _ => rfl) ?_
  refine z_evF (by decide) ?_
  refine z_evL ?_
  refine z_evG 4 (y := if (lg_cmp 14836 3) = 0 then z_go 91 [some (.ref 127), some (.long 14836), none, some (.int x)] [] 161 ((z_u2 I 127 24 2), J, RF w) else z_go 107 [some (.ref 127), some (.long 14836), none, some (.int x)] [] 161 ((z_u2 I 127 24 2), J, RF w)) (fun _ => rfl) ?_
  refine z_evF (by decide) ?_
  refine z_evL ?_
  refine z_evG 4 (y := if (lg_cmp 14836 20141) = 0 then z_go 115 [some (.ref 127), some (.long 14836), none, some (.int x)] [] 161 ((z_u2 I 127 24 2), J, RF w) else z_go 128 [some (.ref 127), some (.long 14836), none, some (.int x)] [] 161 ((z_u2 I 127 24 2), J, RF w)) (fun _ => rfl) ?_
  refine z_evF (by decide) ?_
  refine z_evL ?_
  refine z_evG 4 (y := if (lg_cmp 14836 370116) = 0 then z_go 136 [some (.ref 127), some (.long 14836), none, some (.int x)] [] 161 ((z_u2 I 127 24 2), J, RF w) else z_go 149 [some (.ref 127), some (.long 14836), none, some (.int x)] [] 161 ((z_u2 I 127 24 2), J, RF w)) (fun _ => rfl) ?_
  refine z_evF (by decide) ?_
  refine z_evL ?_
  refine z_evG 4 (y := if (lg_cmp 14836 278194) = 0 then z_go 157 [some (.ref 127), some (.long 14836), none, some (.int x)] [] 161 ((z_u2 I 127 24 2), J, RF w) else z_go 170 [some (.ref 127), some (.long 14836), none, some (.int x)] [] 161 ((z_u2 I 127 24 2), J, RF w)) (fun _ => rfl) ?_
  refine z_evF (by decide) ?_
  refine z_evL ?_
  refine z_evG 5 (y := if (lg_cmp 14836 402789) = 0 then z_go 179 [some (.ref 127), some (.long 14836), none, some (.int x)] [.ref 127] 161 ((z_u2 I 127 24 2), J, RF w) else z_go 184 [some (.ref 127), some (.long 14836), none, some (.int x)] [.ref 127] 161 ((z_u2 I 127 24 2), J, RF w)) (fun _ => rfl) ?_
  refine z_evF (by decide) ?_
  refine z_evL ?_
  refine z_evG 4 (y := if (lg_cmp 14836 674469) = 0 then z_go 192 [some (.ref 127), some (.long 14836), none, some (.int x)] [.ref 127] 161 ((z_u2 I 127 24 2), J, RF w) else z_go 197 [some (.ref 127), some (.long 14836), none, some (.int x)] [.ref 127] 161 ((z_u2 I 127 24 2), J, RF w)) (fun _ => rfl) ?_
  refine z_evF (by decide) ?_
  refine z_evL ?_
  refine z_evG 4 (y := if (lg_cmp 14836 498) = 0 then z_go 205 [some (.ref 127), some (.long 14836), none, some (.int x)] [.ref 127] 161 ((z_u2 I 127 24 2), J, RF w) else z_go 210 [some (.ref 127), some (.long 14836), none, some (.int x)] [.ref 127] 161 ((z_u2 I 127 24 2), J, RF w)) (fun _ => rfl) ?_
  refine z_evF (by decide) ?_
  refine z_evL ?_
  refine z_evG 4 (y := if (lg_cmp 14836 1476) = 0 then z_go 218 [some (.ref 127), some (.long 14836), none, some (.int x)] [.ref 127] 161 ((z_u2 I 127 24 2), J, RF w) else z_go 223 [some (.ref 127), some (.long 14836), none, some (.int x)] [.ref 127] 161 ((z_u2 I 127 24 2), J, RF w)) (fun _ => rfl) ?_
  refine z_evF (by decide) ?_
  refine z_evL ?_
  refine z_evG 4 (y := if (lg_cmp 14836 14836) = 0 then z_go 231 [some (.ref 127), some (.long 14836), none, some (.int x)] [.ref 127] 161 ((z_u2 I 127 24 2), J, RF w) else z_go 236 [some (.ref 127), some (.long 14836), none, some (.int x)] [.ref 127] 161 ((z_u2 I 127 24 2), J, RF w)) (fun _ => rfl) ?_
  refine z_evT (by decide) ?_
  refine z_evL ?_
  refine z_evG 4 (y := some (.inr (none, 161, (z_u2 (z_u2 I 127 24 2) 127 24 14), J, RF w))) (fun _ => rfl) ?_
  exact z_evR rfl
set_option maxRecDepth 20000 in
theorem m_rw_a (E : zE) (d : Nat) (I : Nat → Nat → Int32) (J : Nat → Nat → Int64) (w : Nat) (x : Int32) : z_Ev E (d + 1) z_m203 64 [some (.ref 127), some (.long 1), none, some (.int x)] [] 161 (I, J, RF w) (none, 161, (z_u2 (z_u2 I 127 24 2) 127 26 (I 141 0)), J, RF w) := by
  refine z_evG 7 (y := if (lg_cmp 1 1) = 0 then z_go 91 [some (.ref 127), some (.long 1), none, some (.int x)] [] 161 ((z_u2 I 127 24 2), J, RF w) else z_go 75 [some (.ref 127), some (.long 1), none, some (.int x)] [] 161 ((z_u2 I 127 24 2), J, RF w)) (fun _ => rfl) ?_
  refine z_evT (by decide) ?_
  refine z_evL ?_
  refine z_evG 8 (y := z_ild (z_ia E 161 ((z_u2 I 127 24 2), J, RF w) 141) (((1 : Int64).toInt32) - 1) fun vv => z_go 101 [some (.ref 127), some (.long 1), none, some (.int x)] [.int vv, .ref 127] 161 ((z_u2 I 127 24 2), J, RF w)) (fun _ => rfl) ?_
  refine z_evBn (N := 6) (f := ((z_u2 I 127 24 2) 141)) (k := 0) rfl rfl (by decide) ?_
  refine z_evL ?_
  refine z_evG 3 (y := some (.inr (none, 161, (z_u2 (z_u2 I 127 24 2) 127 26 (I 141 0)), J, RF w))) (fun _ => rfl) ?_
  exact z_evR rfl
set_option maxRecDepth 20000 in
theorem m_rw_b (E : zE) (d : Nat) (I : Nat → Nat → Int32) (J : Nat → Nat → Int64) (w : Nat) (x : Int32) : z_Ev E (d + 1) z_m203 64 [some (.ref 127), some (.long 2), none, some (.int x)] [] 161 (I, J, RF w) (none, 161, (z_u2 (z_u2 I 127 24 2) 127 26 (I 141 1)), J, RF w) := by
  refine z_evG 7 (y := if (lg_cmp 2 1) = 0 then z_go 91 [some (.ref 127), some (.long 2), none, some (.int x)] [] 161 ((z_u2 I 127 24 2), J, RF w) else z_go 75 [some (.ref 127), some (.long 2), none, some (.int x)] [] 161 ((z_u2 I 127 24 2), J, RF w)) (fun _ => rfl) ?_
  refine z_evF (by decide) ?_
  refine z_evL ?_
  refine z_evG 4 (y := if (lg_cmp 2 2) = 0 then z_go 91 [some (.ref 127), some (.long 2), none, some (.int x)] [] 161 ((z_u2 I 127 24 2), J, RF w) else z_go 83 [some (.ref 127), some (.long 2), none, some (.int x)] [] 161 ((z_u2 I 127 24 2), J, RF w)) (fun _ => rfl) ?_
  refine z_evT (by decide) ?_
  refine z_evL ?_
  refine z_evG 8 (y := z_ild (z_ia E 161 ((z_u2 I 127 24 2), J, RF w) 141) (((2 : Int64).toInt32) - 1) fun vv => z_go 101 [some (.ref 127), some (.long 2), none, some (.int x)] [.int vv, .ref 127] 161 ((z_u2 I 127 24 2), J, RF w)) (fun _ => rfl) ?_
  refine z_evBn (N := 6) (f := ((z_u2 I 127 24 2) 141)) (k := 1) rfl rfl (by decide) ?_
  refine z_evL ?_
  refine z_evG 3 (y := some (.inr (none, 161, (z_u2 (z_u2 I 127 24 2) 127 26 (I 141 1)), J, RF w))) (fun _ => rfl) ?_
  exact z_evR rfl
set_option maxRecDepth 20000 in
theorem m_rw_c (E : zE) (d : Nat) (I : Nat → Nat → Int32) (J : Nat → Nat → Int64) (w : Nat) (x : Int32) : z_Ev E (d + 1) z_m203 64 [some (.ref 127), some (.long 3), none, some (.int x)] [] 161 (I, J, RF w) (none, 161, (z_u2 (z_u2 I 127 24 2) 127 26 (I 141 2)), J, RF w) := by
  refine z_evG 7 (y := if (lg_cmp 3 1) = 0 then z_go 91 [some (.ref 127), some (.long 3), none, some (.int x)] [] 161 ((z_u2 I 127 24 2), J, RF w) else z_go 75 [some (.ref 127), some (.long 3), none, some (.int x)] [] 161 ((z_u2 I 127 24 2), J, RF w)) (fun _ => rfl) ?_
  refine z_evF (by decide) ?_
  refine z_evL ?_
  refine z_evG 4 (y := if (lg_cmp 3 2) = 0 then z_go 91 [some (.ref 127), some (.long 3), none, some (.int x)] [] 161 ((z_u2 I 127 24 2), J, RF w) else z_go 83 [some (.ref 127), some (.long 3), none, some (.int x)] [] 161 ((z_u2 I 127 24 2), J, RF w)) (fun _ => rfl) ?_
  refine z_evF (by decide) ?_
  refine z_evL ?_
  refine z_evG 4 (y := if (lg_cmp 3 3) = 0 then z_go 91 [some (.ref 127), some (.long 3), none, some (.int x)] [] 161 ((z_u2 I 127 24 2), J, RF w) else z_go 107 [some (.ref 127), some (.long 3), none, some (.int x)] [] 161 ((z_u2 I 127 24 2), J, RF w)) (fun _ => rfl) ?_
  refine z_evT (by decide) ?_
  refine z_evL ?_
  refine z_evG 8 (y := z_ild (z_ia E 161 ((z_u2 I 127 24 2), J, RF w) 141) (((3 : Int64).toInt32) - 1) fun vv => z_go 101 [some (.ref 127), some (.long 3), none, some (.int x)] [.int vv, .ref 127] 161 ((z_u2 I 127 24 2), J, RF w)) (fun _ => rfl) ?_
  refine z_evBn (N := 6) (f := ((z_u2 I 127 24 2) 141)) (k := 2) rfl rfl (by decide) ?_
  refine z_evL ?_
  refine z_evG 3 (y := some (.inr (none, 161, (z_u2 (z_u2 I 127 24 2) 127 26 (I 141 2)), J, RF w))) (fun _ => rfl) ?_
  exact z_evR rfl
set_option maxRecDepth 20000 in
theorem m_rw_sum (E : zE) (d : Nat) (I : Nat → Nat → Int32) (J : Nat → Nat → Int64) (w : Nat) (x : Int32) : z_Ev E (d + 1) z_m203 64 [some (.ref 127), some (.long 20141), none, some (.int x)] [] 161 (I, J, RF w) (none, 161, (z_u2 (z_u2 I 127 24 2) 127 26 (I 141 3)), J, RF w) := by
  refine z_evG 7 (y := if (lg_cmp 20141 1) = 0 then z_go 91 [some (.ref 127), some (.long 20141), none, some (.int x)] [] 161 ((z_u2 I 127 24 2), J, RF w) else z_go 75 [some (.ref 127), some (.long 20141), none, some (.int x)] [] 161 ((z_u2 I 127 24 2), J, RF w)) (fun _ => rfl) ?_
  refine z_evF (by decide) ?_
  refine z_evL ?_
  refine z_evG 4 (y := if (lg_cmp 20141 2) = 0 then z_go 91 [some (.ref 127), some (.long 20141), none, some (.int x)] [] 161 ((z_u2 I 127 24 2), J, RF w) else z_go 83 [some (.ref 127), some (.long 20141), none, some (.int x)] [] 161 ((z_u2 I 127 24 2), J, RF w)) (fun _ => rfl) ?_
  refine z_evF (by decide) ?_
  refine z_evL ?_
  refine z_evG 4 (y := if (lg_cmp 20141 3) = 0 then z_go 91 [some (.ref 127), some (.long 20141), none, some (.int x)] [] 161 ((z_u2 I 127 24 2), J, RF w) else z_go 107 [some (.ref 127), some (.long 20141), none, some (.int x)] [] 161 ((z_u2 I 127 24 2), J, RF w)) (fun _ => rfl) ?_
  refine z_evF (by decide) ?_
  refine z_evL ?_
  refine z_evG 4 (y := if (lg_cmp 20141 20141) = 0 then z_go 115 [some (.ref 127), some (.long 20141), none, some (.int x)] [] 161 ((z_u2 I 127 24 2), J, RF w) else z_go 128 [some (.ref 127), some (.long 20141), none, some (.int x)] [] 161 ((z_u2 I 127 24 2), J, RF w)) (fun _ => rfl) ?_
  refine z_evT (by decide) ?_
  refine z_evL ?_
  refine z_evG 5 (y := z_ild (z_ia E 161 ((z_u2 I 127 24 2), J, RF w) 141) 3 fun vv => z_go 122 [some (.ref 127), some (.long 20141), none, some (.int x)] [.int vv, .ref 127] 161 ((z_u2 I 127 24 2), J, RF w)) (fun _ => rfl) ?_
  refine z_evBn (N := 6) (f := ((z_u2 I 127 24 2) 141)) (k := 3) rfl rfl (by decide) ?_
  refine z_evL ?_
  refine z_evG 3 (y := some (.inr (none, 161, (z_u2 (z_u2 I 127 24 2) 127 26 (I 141 3)), J, RF w))) (fun _ => rfl) ?_
  exact z_evR rfl
set_option maxRecDepth 20000 in
theorem m_rw_kind (E : zE) (d : Nat) (I : Nat → Nat → Int32) (J : Nat → Nat → Int64) (w : Nat) (x : Int32) : z_Ev E (d + 1) z_m203 64 [some (.ref 127), some (.long 370116), none, some (.int x)] [] 161 (I, J, RF w) (none, 161, (z_u2 (z_u2 I 127 24 2) 127 26 (I 141 4)), J, RF w) := by
  refine z_evG 7 (y := if (lg_cmp 370116 1) = 0 then z_go 91 [some (.ref 127), some (.long 370116), none, some (.int x)] [] 161 ((z_u2 I 127 24 2), J, RF w) else z_go 75 [some (.ref 127), some (.long 370116), none, some (.int x)] [] 161 ((z_u2 I 127 24 2), J, RF w)) (fun _ => rfl) ?_
  refine z_evF (by decide) ?_
  refine z_evL ?_
  refine z_evG 4 (y := if (lg_cmp 370116 2) = 0 then z_go 91 [some (.ref 127), some (.long 370116), none, some (.int x)] [] 161 ((z_u2 I 127 24 2), J, RF w) else z_go 83 [some (.ref 127), some (.long 370116), none, some (.int x)] [] 161 ((z_u2 I 127 24 2), J, RF w)) (fun _ => rfl) ?_
  refine z_evF (by decide) ?_
  refine z_evL ?_
  refine z_evG 4 (y := if (lg_cmp 370116 3) = 0 then z_go 91 [some (.ref 127), some (.long 370116), none, some (.int x)] [] 161 ((z_u2 I 127 24 2), J, RF w) else z_go 107 [some (.ref 127), some (.long 370116), none, some (.int x)] [] 161 ((z_u2 I 127 24 2), J, RF w)) (fun _ => rfl) ?_
  refine z_evF (by decide) ?_
  refine z_evL ?_
  refine z_evG 4 (y := if (lg_cmp 370116 20141) = 0 then z_go 115 [some (.ref 127), some (.long 370116), none, some (.int x)] [] 161 ((z_u2 I 127 24 2), J, RF w) else z_go 128 [some (.ref 127), some (.long 370116), none, some (.int x)] [] 161 ((z_u2 I 127 24 2), J, RF w)) (fun _ => rfl) ?_
  refine z_evF (by decide) ?_
  refine z_evL ?_
  refine z_evG 4 (y := if (lg_cmp 370116 370116) = 0 then z_go 136 [some (.ref 127), some (.long 370116), none, some (.int x)] [] 161 ((z_u2 I 127 24 2), J, RF w) else z_go 149 [some (.ref 127), some (.long 370116), none, some (.int x)] [] 161 ((z_u2 I 127 24 2), J, RF w)) (fun _ => rfl) ?_
  refine z_evT (by decide) ?_
  refine z_evL ?_
  refine z_evG 5 (y := z_ild (z_ia E 161 ((z_u2 I 127 24 2), J, RF w) 141) 4 fun vv => z_go 143 [some (.ref 127), some (.long 370116), none, some (.int x)] [.int vv, .ref 127] 161 ((z_u2 I 127 24 2), J, RF w)) (fun _ => rfl) ?_
  refine z_evBn (N := 6) (f := ((z_u2 I 127 24 2) 141)) (k := 4) rfl rfl (by decide) ?_
  refine z_evL ?_
  refine z_evG 3 (y := some (.inr (none, 161, (z_u2 (z_u2 I 127 24 2) 127 26 (I 141 4)), J, RF w))) (fun _ => rfl) ?_
  exact z_evR rfl
set_option maxRecDepth 20000 in
theorem m_rw_hour (E : zE) (d : Nat) (I : Nat → Nat → Int32) (J : Nat → Nat → Int64) (w : Nat) (x : Int32) : z_Ev E (d + 1) z_m203 64 [some (.ref 127), some (.long 278194), none, some (.int x)] [] 161 (I, J, RF w) (none, 161, (z_u2 (z_u2 I 127 24 2) 127 26 (I 141 5)), J, RF w) := by
  refine z_evG 7 (y := if (lg_cmp 278194 1) = 0 then z_go 91 [some (.ref 127), some (.long 278194), none, some (.int x)] [] 161 ((z_u2 I 127 24 2), J, RF w) else z_go 75 [some (.ref 127), some (.long 278194), none, some (.int x)] [] 161 ((z_u2 I 127 24 2), J, RF w)) (fun _ => rfl) ?_
  refine z_evF (by decide) ?_
  refine z_evL ?_
  refine z_evG 4 (y := if (lg_cmp 278194 2) = 0 then z_go 91 [some (.ref 127), some (.long 278194), none, some (.int x)] [] 161 ((z_u2 I 127 24 2), J, RF w) else z_go 83 [some (.ref 127), some (.long 278194), none, some (.int x)] [] 161 ((z_u2 I 127 24 2), J, RF w)) (fun _ => rfl) ?_
  refine z_evF (by decide) ?_
  refine z_evL ?_
  refine z_evG 4 (y := if (lg_cmp 278194 3) = 0 then z_go 91 [some (.ref 127), some (.long 278194), none, some (.int x)] [] 161 ((z_u2 I 127 24 2), J, RF w) else z_go 107 [some (.ref 127), some (.long 278194), none, some (.int x)] [] 161 ((z_u2 I 127 24 2), J, RF w)) (fun _ => rfl) ?_
  refine z_evF (by decide) ?_
  refine z_evL ?_
  refine z_evG 4 (y := if (lg_cmp 278194 20141) = 0 then z_go 115 [some (.ref 127), some (.long 278194), none, some (.int x)] [] 161 ((z_u2 I 127 24 2), J, RF w) else z_go 128 [some (.ref 127), some (.long 278194), none, some (.int x)] [] 161 ((z_u2 I 127 24 2), J, RF w)) (fun _ => rfl) ?_
  refine z_evF (by decide) ?_
  refine z_evL ?_
  refine z_evG 4 (y := if (lg_cmp 278194 370116) = 0 then z_go 136 [some (.ref 127), some (.long 278194), none, some (.int x)] [] 161 ((z_u2 I 127 24 2), J, RF w) else z_go 149 [some (.ref 127), some (.long 278194), none, some (.int x)] [] 161 ((z_u2 I 127 24 2), J, RF w)) (fun _ => rfl) ?_
  refine z_evF (by decide) ?_
  refine z_evL ?_
  refine z_evG 4 (y := if (lg_cmp 278194 278194) = 0 then z_go 157 [some (.ref 127), some (.long 278194), none, some (.int x)] [] 161 ((z_u2 I 127 24 2), J, RF w) else z_go 170 [some (.ref 127), some (.long 278194), none, some (.int x)] [] 161 ((z_u2 I 127 24 2), J, RF w)) (fun _ => rfl) ?_
  refine z_evT (by decide) ?_
  refine z_evL ?_
  refine z_evG 5 (y := z_ild (z_ia E 161 ((z_u2 I 127 24 2), J, RF w) 141) 5 fun vv => z_go 164 [some (.ref 127), some (.long 278194), none, some (.int x)] [.int vv, .ref 127] 161 ((z_u2 I 127 24 2), J, RF w)) (fun _ => rfl) ?_
  refine z_evBn (N := 6) (f := ((z_u2 I 127 24 2) 141)) (k := 5) rfl rfl (by decide) ?_
  refine z_evL ?_
  refine z_evG 3 (y := some (.inr (none, 161, (z_u2 (z_u2 I 127 24 2) 127 26 (I 141 5)), J, RF w))) (fun _ => rfl) ?_
  exact z_evR rfl
set_option maxRecDepth 20000 in
theorem m_rw_none (E : zE) (d : Nat) (I : Nat → Nat → Int32) (J : Nat → Nat → Int64) (w : Nat) (x : Int32) (W : Int64) (hW0 : ¬ W = 1) (hW1 : ¬ W = 2) (hW2 : ¬ W = 3) (hW3 : ¬ W = 20141) (hW4 : ¬ W = 370116) (hW5 : ¬ W = 278194) (hW6 : ¬ W = 402789) (hW7 : ¬ W = 674469) (hW8 : ¬ W = 498) (hW9 : ¬ W = 1476) (hW10 : ¬ W = 14836) : z_Ev E (d + 1) z_m203 64 [some (.ref 127), some (.long W), none, some (.int x)] [] 161 (I, J, RF w) (none, 161, (z_u2 (z_u2 I 127 24 2) 127 24 (-1)), J, RF w) := by
  refine z_evG 7 (y := if (lg_cmp W 1) = 0 then z_go 91 [some (.ref 127), some (.long W), none, some (.int x)] [] 161 ((z_u2 I 127 24 2), J, RF w) else z_go 75 [some (.ref 127), some (.long W), none, some (.int x)] [] 161 ((z_u2 I 127 24 2), J, RF w)) (fun _ => rfl) ?_
  refine z_evF (mt (lg_cmp_eq _ _).mp hW0) ?_
  refine z_evL ?_
  refine z_evG 4 (y := if (lg_cmp W 2) = 0 then z_go 91 [some (.ref 127), some (.long W), none, some (.int x)] [] 161 ((z_u2 I 127 24 2), J, RF w) else z_go 83 [some (.ref 127), some (.long W), none, some (.int x)] [] 161 ((z_u2 I 127 24 2), J, RF w)) (fun _ => rfl) ?_
  refine z_evF (mt (lg_cmp_eq _ _).mp hW1) ?_
  refine z_evL ?_
  refine z_evG 4 (y := if (lg_cmp W 3) = 0 then z_go 91 [some (.ref 127), some (.long W), none, some (.int x)] [] 161 ((z_u2 I 127 24 2), J, RF w) else z_go 107 [some (.ref 127), some (.long W), none, some (.int x)] [] 161 ((z_u2 I 127 24 2), J, RF w)) (fun _ => rfl) ?_
  refine z_evF (mt (lg_cmp_eq _ _).mp hW2) ?_
  refine z_evL ?_
  refine z_evG 4 (y := if (lg_cmp W 20141) = 0 then z_go 115 [some (.ref 127), some (.long W), none, some (.int x)] [] 161 ((z_u2 I 127 24 2), J, RF w) else z_go 128 [some (.ref 127), some (.long W), none, some (.int x)] [] 161 ((z_u2 I 127 24 2), J, RF w)) (fun _ => rfl) ?_
  refine z_evF (mt (lg_cmp_eq _ _).mp hW3) ?_
  refine z_evL ?_
  refine z_evG 4 (y := if (lg_cmp W 370116) = 0 then z_go 136 [some (.ref 127), some (.long W), none, some (.int x)] [] 161 ((z_u2 I 127 24 2), J, RF w) else z_go 149 [some (.ref 127), some (.long W), none, some (.int x)] [] 161 ((z_u2 I 127 24 2), J, RF w)) (fun _ => rfl) ?_
  refine z_evF (mt (lg_cmp_eq _ _).mp hW4) ?_
  refine z_evL ?_
  refine z_evG 4 (y := if (lg_cmp W 278194) = 0 then z_go 157 [some (.ref 127), some (.long W), none, some (.int x)] [] 161 ((z_u2 I 127 24 2), J, RF w) else z_go 170 [some (.ref 127), some (.long W), none, some (.int x)] [] 161 ((z_u2 I 127 24 2), J, RF w)) (fun _ => rfl) ?_
  refine z_evF (mt (lg_cmp_eq _ _).mp hW5) ?_
  refine z_evL ?_
  refine z_evG 5 (y := if (lg_cmp W 402789) = 0 then z_go 179 [some (.ref 127), some (.long W), none, some (.int x)] [.ref 127] 161 ((z_u2 I 127 24 2), J, RF w) else z_go 184 [some (.ref 127), some (.long W), none, some (.int x)] [.ref 127] 161 ((z_u2 I 127 24 2), J, RF w)) (fun _ => rfl) ?_
  refine z_evF (mt (lg_cmp_eq _ _).mp hW6) ?_
  refine z_evL ?_
  refine z_evG 4 (y := if (lg_cmp W 674469) = 0 then z_go 192 [some (.ref 127), some (.long W), none, some (.int x)] [.ref 127] 161 ((z_u2 I 127 24 2), J, RF w) else z_go 197 [some (.ref 127), some (.long W), none, some (.int x)] [.ref 127] 161 ((z_u2 I 127 24 2), J, RF w)) (fun _ => rfl) ?_
  refine z_evF (mt (lg_cmp_eq _ _).mp hW7) ?_
  refine z_evL ?_
  refine z_evG 4 (y := if (lg_cmp W 498) = 0 then z_go 205 [some (.ref 127), some (.long W), none, some (.int x)] [.ref 127] 161 ((z_u2 I 127 24 2), J, RF w) else z_go 210 [some (.ref 127), some (.long W), none, some (.int x)] [.ref 127] 161 ((z_u2 I 127 24 2), J, RF w)) (fun _ => rfl) ?_
  refine z_evF (mt (lg_cmp_eq _ _).mp hW8) ?_
  refine z_evL ?_
  refine z_evG 4 (y := if (lg_cmp W 1476) = 0 then z_go 218 [some (.ref 127), some (.long W), none, some (.int x)] [.ref 127] 161 ((z_u2 I 127 24 2), J, RF w) else z_go 223 [some (.ref 127), some (.long W), none, some (.int x)] [.ref 127] 161 ((z_u2 I 127 24 2), J, RF w)) (fun _ => rfl) ?_
  refine z_evF (mt (lg_cmp_eq _ _).mp hW9) ?_
  refine z_evL ?_
  refine z_evG 4 (y := if (lg_cmp W 14836) = 0 then z_go 231 [some (.ref 127), some (.long W), none, some (.int x)] [.ref 127] 161 ((z_u2 I 127 24 2), J, RF w) else z_go 236 [some (.ref 127), some (.long W), none, some (.int x)] [.ref 127] 161 ((z_u2 I 127 24 2), J, RF w)) (fun _ => rfl) ?_
  refine z_evF (mt (lg_cmp_eq _ _).mp hW10) ?_
  refine z_evL ?_
  refine z_evG 3 (y := some (.inr (none, 161, (z_u2 (z_u2 I 127 24 2) 127 24 (-1)), J, RF w))) (fun _ => rfl) ?_
  exact z_evR rfl
theorem z_nxA (I : Nat → Nat → Int32) (a x t : Int32) : z_u2 (z_u2 (z_u2 I 127 23 a) 127 24 x) 127 24 t = s_nxt I a t (I 127 25) (I 127 26) := by
  funext c k
  unfold s_nxt z_u2
  by_cases hc : c = 127
  · subst hc
    by_cases h23 : k = 23
    · simp [h23]
    · by_cases h24 : k = 24
      · simp [h24]
      · by_cases h25 : k = 25
        · simp [h25]
        · by_cases h26 : k = 26
          · simp [h26]
          · simp [h23, h24, h25, h26]
  · simp [hc]
theorem z_nxB (I : Nat → Nat → Int32) (a t v : Int32) : z_u2 (z_u2 (z_u2 I 127 23 a) 127 24 t) 127 26 v = s_nxt I a t (I 127 25) v := by
  funext c k
  unfold s_nxt z_u2
  by_cases hc : c = 127
  · subst hc
    by_cases h23 : k = 23
    · simp [h23]
    · by_cases h24 : k = 24
      · simp [h24]
      · by_cases h25 : k = 25
        · simp [h25]
        · by_cases h26 : k = 26
          · simp [h26]
          · simp [h23, h24, h25, h26]
  · simp [hc]
theorem m_readWord (E : zE) (d : Nat) (I : Nat → Nat → Int32) (J : Nat → Nat → Int64) (w : Nat) (b : Nat → Nat) (n s : Nat) (hB : s_by I b n) (h_s : I 127 23 = nI s) (hsn : s < n) (ha : s_al b s = true) : z_cl E (d + 2) 203 [.ref 127] (161, I, J, RF w) = some (none, 161, s_nxt I (nI (s + s_rn (s_al b) n s)) (s_mtk (s_wtok (s_first (s_isw b s (s + s_rn (s_al b) n s)) 11))) (I 127 25) (s_wva I (s_wtok (s_first (s_isw b s (s + s_rn (s_al b) n s)) 11))), J, RF w) := by
  refine z_call (d := d + 1) (M := z_m203) rfl rfl ?_
  refine m_readWord_pre E d I J w b n s hB h_s (by omega) ?_
  have h1 : 1 ≤ s_rn (s_al b) n s := s_rn_pos hsn ha
  have hl : ∀ j, j < s_rn (s_al b) n s → 97 ≤ b (s + j) ∧ b (s + j) ≤ 122 := fun j hj => of_decide_eq_true (s_rn_lt hj).2
  have hk := z_wk h1 hl
  generalize s_rn (s_al b) n s = K at *
  cases q : s_first (s_isw b s (s + K)) 11 with
  | some k =>
    obtain ⟨k1, _, k2⟩ := s_first_some q
    rw [(hk k k1).mp k2]
    rcases (by omega : k = 0 ∨ k = 1 ∨ k = 2 ∨ k = 3 ∨ k = 4 ∨ k = 5 ∨ k = 6 ∨ k = 7 ∨ k = 8 ∨ k = 9 ∨ k = 10) with e | e | e | e | e | e | e | e | e | e | e <;> subst e
    · have t := m_rw_like E d (z_u2 I 127 23 (nI (s + K))) J w (nI K)
      rw [z_nxA] at t
      exact t
    · have t := m_rw_true E d (z_u2 I 127 23 (nI (s + K))) J w (nI K)
      rw [z_nxA] at t
      exact t
    · have t := m_rw_or E d (z_u2 I 127 23 (nI (s + K))) J w (nI K)
      rw [z_nxA] at t
      exact t
    · have t := m_rw_and E d (z_u2 I 127 23 (nI (s + K))) J w (nI K)
      rw [z_nxA] at t
      exact t
    · have t := m_rw_not E d (z_u2 I 127 23 (nI (s + K))) J w (nI K)
      rw [z_nxA] at t
      exact t
    · have t := m_rw_a E d (z_u2 I 127 23 (nI (s + K))) J w (nI K)
      rw [z_nxB] at t
      exact t
    · have t := m_rw_b E d (z_u2 I 127 23 (nI (s + K))) J w (nI K)
      rw [z_nxB] at t
      exact t
    · have t := m_rw_c E d (z_u2 I 127 23 (nI (s + K))) J w (nI K)
      rw [z_nxB] at t
      exact t
    · have t := m_rw_sum E d (z_u2 I 127 23 (nI (s + K))) J w (nI K)
      rw [z_nxB] at t
      exact t
    · have t := m_rw_kind E d (z_u2 I 127 23 (nI (s + K))) J w (nI K)
      rw [z_nxB] at t
      exact t
    · have t := m_rw_hour E d (z_u2 I 127 23 (nI (s + K))) J w (nI K)
      rw [z_nxB] at t
      exact t
  | none =>
    have hn : ∀ k, k < 11 → ¬ s_w b s K = Int64.ofNat (z_cd.getD k 0) := fun k k1 e => by
      have := s_first_none q (k + 1) k1
      rw [s_first_t (s_first_none q k (by omega)) ((hk k k1).mpr e)] at this
      cases this
    have t := m_rw_none E d (z_u2 I 127 23 (nI (s + K))) J w (nI K) (s_w b s K) (hn 5 (by decide)) (hn 6 (by decide)) (hn 7 (by decide)) (hn 8 (by decide)) (hn 9 (by decide)) (hn 10 (by decide)) (hn 0 (by decide)) (hn 1 (by decide)) (hn 2 (by decide)) (hn 3 (by decide)) (hn 4 (by decide))
    rw [z_nxA] at t
    exact t
set_option maxRecDepth 20000 in
theorem m_next_pre (E : zE) (d : Nat) (I : Nat → Nat → Int32) (J : Nat → Nat → Int64) (w : Nat) {r : zR} (b : Nat → Nat) (n p : Nat) (hB : s_by I b n) (h_p : I 127 23 = nI p) (hpn : p ≤ n) (hz : z_Ev E (d + 2) z_m204 31 [some (.ref 127), none, none] [] 161 ((z_u2 I 127 23 (nI (p + (s_rn (s_bl b) n p)))), J, RF w) r) : z_Ev E (d + 2) z_m204 0 [some (.ref 127), none, none] [] 161 (I, J, RF w) r := by
  obtain ⟨_, h160, h256, _⟩ := id hB
  have st0 : ∀ m0, m0 = 0 → ∀ qz, z_Ev E (d + 2) z_m204 0 [some (.ref 127), none, none] [] 161 ((z_u2 I 127 23 (nI (p + m0))), J, RF w) qz → z_Ev E (d + 2) z_m204 0 [some (.ref 127), none, none] [] 161 (I, J, RF w) qz := by intro m0 hm0 qz h; rw [hm0, z_u2_id (show I 127 23 = nI (p + 0) from h_p)] at h; subst hm0; exact h
  refine st0 0 rfl _ ?_
  refine z_loop (F := fun k => ([some (.ref 127), none, none], ((z_u2 I 127 23 (nI (p + k))), J, RF w))) (P := fun k => True) (s_rn (s_bl b) n p) trivial (fun hP => ?_) (fun k hk hP next => ?_)
  · show z_Ev E (d + 2) z_m204 0 [some (.ref 127), none, none] [] 161 ((z_u2 I 127 23 (nI (p + (s_rn (s_bl b) n p)))), J, RF w) _
    have hle := s_rn_le (s_bl b) (n := n) (p := p) (by omega)
    refine z_evG 2 (y := z_ret (z_cl E (d + 2) 202 [.ref 127] (161, ((z_u2 I 127 23 (nI (p + (s_rn (s_bl b) n p)))), J, RF w))) 4 [some (.ref 127), none, none] []) (fun _ => rfl) ?_
    refine z_evK (v := .int (s_hr b n (p + (s_rn (s_bl b) n p)))) (z' := 161) (σ' := ((z_u2 I 127 23 (nI (p + (s_rn (s_bl b) n p)))), J, RF w)) (m_here E (d + 1) (z_u2 I 127 23 (nI (p + (s_rn (s_bl b) n p)))) J w b n (p + (s_rn (s_bl b) n p)) hB rfl (by omega)) ?_
    refine z_evG 2 (y := if (s_hr b n (p + (s_rn (s_bl b) n p))) = 32 then z_go 18 [some (.ref 127), none, none] [] 161 ((z_u2 I 127 23 (nI (p + (s_rn (s_bl b) n p)))), J, RF w) else z_go 9 [some (.ref 127), none, none] [] 161 ((z_u2 I 127 23 (nI (p + (s_rn (s_bl b) n p)))), J, RF w)) (fun _ => rfl) ?_
    refine z_evIN (s_hr_eq (c := 32) h256 rfl (by decide)) (fun h1 => ?_) (fun h1 => ?_)
    · refine z_evL ?_
      exact absurd (show p + s_rn (s_bl b) n p < n ∧ s_bl b (p + s_rn (s_bl b) n p) = true from ⟨h1.1, decide_eq_true (Or.inl h1.2)⟩) (s_rn_end _ _ _)
    · refine z_evL ?_
      refine z_evG 2 (y := z_ret (z_cl E (d + 2) 202 [.ref 127] (161, ((z_u2 I 127 23 (nI (p + (s_rn (s_bl b) n p)))), J, RF w))) 13 [some (.ref 127), none, none] []) (fun _ => rfl) ?_
      refine z_evK (v := .int (s_hr b n (p + (s_rn (s_bl b) n p)))) (z' := 161) (σ' := ((z_u2 I 127 23 (nI (p + (s_rn (s_bl b) n p)))), J, RF w)) (m_here E (d + 1) (z_u2 I 127 23 (nI (p + (s_rn (s_bl b) n p)))) J w b n (p + (s_rn (s_bl b) n p)) hB rfl (by omega)) ?_
      refine z_evG 2 (y := if (s_hr b n (p + (s_rn (s_bl b) n p))) = 10 then z_go 18 [some (.ref 127), none, none] [] 161 ((z_u2 I 127 23 (nI (p + (s_rn (s_bl b) n p)))), J, RF w) else z_go 31 [some (.ref 127), none, none] [] 161 ((z_u2 I 127 23 (nI (p + (s_rn (s_bl b) n p)))), J, RF w)) (fun _ => rfl) ?_
      refine z_evIN (s_hr_eq (c := 10) h256 rfl (by decide)) (fun h2 => ?_) (fun h2 => ?_)
      · refine z_evL ?_
        exact absurd (show p + s_rn (s_bl b) n p < n ∧ s_bl b (p + s_rn (s_bl b) n p) = true from ⟨h2.1, decide_eq_true (Or.inr h2.2)⟩) (s_rn_end _ _ _)
      · refine z_evL ?_
        exact hz
  · show z_Ev E (d + 2) z_m204 0 [some (.ref 127), none, none] [] 161 ((z_u2 I 127 23 (nI (p + k))), J, RF w) _
    have hx := s_rn_lt hk
    have nx : (True) → z_Ev E (d + 2) z_m204 0 [some (.ref 127), none, none] [] 161 ((z_u2 I 127 23 (nI (p + (k + 1)))), J, RF w) _ := next
    refine z_evG 2 (y := z_ret (z_cl E (d + 2) 202 [.ref 127] (161, ((z_u2 I 127 23 (nI (p + k))), J, RF w))) 4 [some (.ref 127), none, none] []) (fun _ => rfl) ?_
    refine z_evK (v := .int (s_hr b n (p + k))) (z' := 161) (σ' := ((z_u2 I 127 23 (nI (p + k))), J, RF w)) (m_here E (d + 1) (z_u2 I 127 23 (nI (p + k))) J w b n (p + k) hB rfl (by omega)) ?_
    refine z_evG 2 (y := if (s_hr b n (p + k)) = 32 then z_go 18 [some (.ref 127), none, none] [] 161 ((z_u2 I 127 23 (nI (p + k))), J, RF w) else z_go 9 [some (.ref 127), none, none] [] 161 ((z_u2 I 127 23 (nI (p + k))), J, RF w)) (fun _ => rfl) ?_
    refine z_evIN (s_hr_eq (c := 32) h256 rfl (by decide)) (fun h3 => ?_) (fun h3 => ?_)
    · refine z_evL ?_
      refine z_evG 7 (y := z_go 0 [some (.ref 127), none, none] [] 161 ((z_u2 (z_u2 I 127 23 (nI (p + k))) 127 23 ((nI (p + k)) + 1)), J, RF w)) (fun _ => rfl) ?_
      refine z_evL ?_
      rw [nI_1 (p + k), z_u2u]
      exact nx trivial
    · refine z_evL ?_
      refine z_evG 2 (y := z_ret (z_cl E (d + 2) 202 [.ref 127] (161, ((z_u2 I 127 23 (nI (p + k))), J, RF w))) 13 [some (.ref 127), none, none] []) (fun _ => rfl) ?_
      refine z_evK (v := .int (s_hr b n (p + k))) (z' := 161) (σ' := ((z_u2 I 127 23 (nI (p + k))), J, RF w)) (m_here E (d + 1) (z_u2 I 127 23 (nI (p + k))) J w b n (p + k) hB rfl (by omega)) ?_
      refine z_evG 2 (y := if (s_hr b n (p + k)) = 10 then z_go 18 [some (.ref 127), none, none] [] 161 ((z_u2 I 127 23 (nI (p + k))), J, RF w) else z_go 31 [some (.ref 127), none, none] [] 161 ((z_u2 I 127 23 (nI (p + k))), J, RF w)) (fun _ => rfl) ?_
      refine z_evT ((s_hr_eq (c := 10) h256 rfl (by decide)).mpr ⟨hx.1, z_bl10 hx.2 (fun q0 => absurd (show p + k < n ∧ b (p + k) = 32 from ⟨hx.1, q0⟩) (by assumption))⟩) ?_
      refine z_evL ?_
      refine z_evG 7 (y := z_go 0 [some (.ref 127), none, none] [] 161 ((z_u2 (z_u2 I 127 23 (nI (p + k))) 127 23 ((nI (p + k)) + 1)), J, RF w)) (fun _ => rfl) ?_
      refine z_evL ?_
      rw [nI_1 (p + k), z_u2u]
      exact nx trivial
set_option maxRecDepth 20000 in
theorem m_next_end (E : zE) (d : Nat) (I : Nat → Nat → Int32) (J : Nat → Nat → Int64) (w : Nat) (b : Nat → Nat) (n s : Nat) (hB : s_by I b n) (h_s : I 127 23 = nI s) (hsn : s ≤ n) (hz : n ≤ s) : z_Ev E (d + 2) z_m204 31 [some (.ref 127), none, none] [] 161 (I, J, RF w) (none, 161, (z_u2 (z_u2 I 127 25 (nI s)) 127 24 0), J, RF w) := by
  obtain ⟨_, h160, h256, _⟩ := id hB
  refine z_evG 6 (y := z_ret (z_cl E (d + 2) 202 [.ref 127] (161, ((z_u2 I 127 25 (I 127 23)), J, RF w))) 43 [some (.ref 127), none, none] []) (fun _ => rfl) ?_
  refine z_evK (v := .int (s_hr b n s)) (z' := 161) (σ' := ((z_u2 I 127 25 (I 127 23)), J, RF w)) (m_here E (d + 1) (z_u2 I 127 25 (I 127 23)) J w b n s hB h_s (by omega)) ?_
  refine z_evG 3 (y := if (s_hr b n s) < 0 then z_go 48 [some (.ref 127), some (.int (s_hr b n s)), none] [] 161 ((z_u2 I 127 25 (I 127 23)), J, RF w) else z_go 56 [some (.ref 127), some (.int (s_hr b n s)), none] [] 161 ((z_u2 I 127 25 (I 127 23)), J, RF w)) (fun _ => rfl) ?_
  refine z_evT (show s_hr b n s < 0 by unfold s_hr; rw [if_neg (by omega)]; decide) ?_
  refine z_evL ?_
  refine z_evG 5 (y := some (.inr (none, 161, (z_u2 (z_u2 I 127 25 (I 127 23)) 127 24 0), J, RF w))) (fun _ => rfl) ?_
  rw [show (I 127 23 : Int32) = nI s from h_s]
  exact z_evR rfl
set_option maxRecDepth 20000 in
theorem m_next_word (E : zE) (d : Nat) (I : Nat → Nat → Int32) (J : Nat → Nat → Int64) (w : Nat) (b : Nat → Nat) (n s : Nat) (hB : s_by I b n) (h_s : I 127 23 = nI s) (hsn : s ≤ n) (hz : s < n) (ha : s_al b s = true) : z_Ev E (d + 2) z_m204 31 [some (.ref 127), none, none] [] 161 (I, J, RF w) (none, 161, (s_nxt (z_u2 I 127 25 (I 127 23)) (nI (s + s_rn (s_al b) n s)) (s_mtk (s_wtok (s_first (s_isw b s (s + s_rn (s_al b) n s)) 11))) (I 127 23) (s_wva I (s_wtok (s_first (s_isw b s (s + s_rn (s_al b) n s)) 11)))), J, RF w) := by
  obtain ⟨_, h160, h256, _⟩ := id hB
  refine z_evG 6 (y := z_ret (z_cl E (d + 2) 202 [.ref 127] (161, ((z_u2 I 127 25 (I 127 23)), J, RF w))) 43 [some (.ref 127), none, none] []) (fun _ => rfl) ?_
  refine z_evK (v := .int (s_hr b n s)) (z' := 161) (σ' := ((z_u2 I 127 25 (I 127 23)), J, RF w)) (m_here E (d + 1) (z_u2 I 127 25 (I 127 23)) J w b n s hB h_s (by omega)) ?_
  refine z_evG 3 (y := if (s_hr b n s) < 0 then z_go 48 [some (.ref 127), some (.int (s_hr b n s)), none] [] 161 ((z_u2 I 127 25 (I 127 23)), J, RF w) else z_go 56 [some (.ref 127), some (.int (s_hr b n s)), none] [] 161 ((z_u2 I 127 25 (I 127 23)), J, RF w)) (fun _ => rfl) ?_
  refine z_evF (show ¬ s_hr b n s < 0 by unfold s_hr; rw [if_pos hz]; exact nI_pos (by have := h256 s hz; omega)) ?_
  refine z_evL ?_
  refine z_evG 4 (y := z_ret (z_cl E (d + 2) 178 [.int (s_hr b n s), .int 97, .int 122] (161, ((z_u2 I 127 25 (I 127 23)), J, RF w))) 64 [some (.ref 127), some (.int (s_hr b n s)), none] []) (fun _ => rfl) ?_
  refine z_evK (v := .int (z_bo (¬ (s_hr b n s) < 97 ∧ ¬ 122 < (s_hr b n s)))) (z' := 161) (σ' := ((z_u2 I 127 25 (I 127 23)), J, RF w)) (m_in E (d + 1) (z_u2 I 127 25 (I 127 23)) J w (s_hr b n s) 97 122) ?_
  refine z_evG 1 (y := if (z_bo (¬ (s_hr b n s) < 97 ∧ ¬ 122 < (s_hr b n s))) = 0 then z_go 74 [some (.ref 127), some (.int (s_hr b n s)), none] [] 161 ((z_u2 I 127 25 (I 127 23)), J, RF w) else z_go 67 [some (.ref 127), some (.int (s_hr b n s)), none] [] 161 ((z_u2 I 127 25 (I 127 23)), J, RF w)) (fun _ => rfl) ?_
  refine z_evF (fun q0 => z_bo_0.mp q0 ((s_hr_in h256 97 122 (by decide) (by decide) rfl rfl).mpr ⟨hz, of_decide_eq_true ha⟩)) ?_
  refine z_evL ?_
  refine z_evG 2 (y := z_ret (z_cl E (d + 2) 203 [.ref 127] (161, ((z_u2 I 127 25 (I 127 23)), J, RF w))) 71 [some (.ref 127), some (.int (s_hr b n s)), none] []) (fun _ => rfl) ?_
  refine z_evV (z' := 161) (σ' := ((s_nxt (z_u2 I 127 25 (I 127 23)) (nI (s + s_rn (s_al b) n s)) (s_mtk (s_wtok (s_first (s_isw b s (s + s_rn (s_al b) n s)) 11))) (I 127 23) (s_wva I (s_wtok (s_first (s_isw b s (s + s_rn (s_al b) n s)) 11)))), J, RF w)) (m_readWord E d (z_u2 I 127 25 (I 127 23)) J w b n s hB h_s hz ha) ?_
  refine z_evG 2 (y := some (.inr (none, 161, (s_nxt (z_u2 I 127 25 (I 127 23)) (nI (s + s_rn (s_al b) n s)) (s_mtk (s_wtok (s_first (s_isw b s (s + s_rn (s_al b) n s)) 11))) (I 127 23) (s_wva I (s_wtok (s_first (s_isw b s (s + s_rn (s_al b) n s)) 11)))), J, RF w))) (fun _ => rfl) ?_
  exact z_evR rfl
def s_dc4 (b : Nat → Nat) (s k : Nat) : Int32 := z_fo (fun j a => if j < 4 then 10 * a + nI (b (s + j)) - 48 else a) 0 k
theorem s_dc4_eq (b : Nat → Nat) (s : Nat) : ∀ k, k ≤ 4 → s_dc4 b s k = s_dec b s k
  | 0, _ => rfl
  | k + 1, h => by
    have e : s_dc4 b s (k + 1) = 10 * s_dc4 b s k + nI (b (s + k)) - 48 := if_pos (by omega)
    rw [e, s_dc4_eq b s k (by omega), Int32.mul_comm]
    rfl
set_option maxRecDepth 20000 in
theorem m_next_num_ok (E : zE) (d : Nat) (I : Nat → Nat → Int32) (J : Nat → Nat → Int64) (w : Nat) (b : Nat → Nat) (n s : Nat) (hB : s_by I b n) (h_s : I 127 23 = nI s) (hsn : s ≤ n) (hz : s < n) (ha : ¬ s_al b s = true) (hd : s_dg b s = true) (hq : ¬ 4 < s_rn (s_dg b) n s) : z_Ev E (d + 2) z_m204 31 [some (.ref 127), none, none] [] 161 (I, J, RF w) (none, 161, (z_u2 (z_u2 (z_u2 (z_u2 I 127 25 (nI s)) 127 26 (s_dc4 b s (s_rn (s_dg b) n s))) 127 23 (nI (s + (s_rn (s_dg b) n s)))) 127 24 1), J, RF w) := by
  obtain ⟨_, h160, h256, _⟩ := id hB
  refine z_evG 6 (y := z_ret (z_cl E (d + 2) 202 [.ref 127] (161, ((z_u2 I 127 25 (I 127 23)), J, RF w))) 43 [some (.ref 127), none, none] []) (fun _ => rfl) ?_
  refine z_evK (v := .int (s_hr b n s)) (z' := 161) (σ' := ((z_u2 I 127 25 (I 127 23)), J, RF w)) (m_here E (d + 1) (z_u2 I 127 25 (I 127 23)) J w b n s hB h_s (by omega)) ?_
  refine z_evG 3 (y := if (s_hr b n s) < 0 then z_go 48 [some (.ref 127), some (.int (s_hr b n s)), none] [] 161 ((z_u2 I 127 25 (I 127 23)), J, RF w) else z_go 56 [some (.ref 127), some (.int (s_hr b n s)), none] [] 161 ((z_u2 I 127 25 (I 127 23)), J, RF w)) (fun _ => rfl) ?_
  refine z_evF (show ¬ s_hr b n s < 0 by unfold s_hr; rw [if_pos hz]; exact nI_pos (by have := h256 s hz; omega)) ?_
  refine z_evL ?_
  refine z_evG 4 (y := z_ret (z_cl E (d + 2) 178 [.int (s_hr b n s), .int 97, .int 122] (161, ((z_u2 I 127 25 (I 127 23)), J, RF w))) 64 [some (.ref 127), some (.int (s_hr b n s)), none] []) (fun _ => rfl) ?_
  refine z_evK (v := .int (z_bo (¬ (s_hr b n s) < 97 ∧ ¬ 122 < (s_hr b n s)))) (z' := 161) (σ' := ((z_u2 I 127 25 (I 127 23)), J, RF w)) (m_in E (d + 1) (z_u2 I 127 25 (I 127 23)) J w (s_hr b n s) 97 122) ?_
  refine z_evG 1 (y := if (z_bo (¬ (s_hr b n s) < 97 ∧ ¬ 122 < (s_hr b n s))) = 0 then z_go 74 [some (.ref 127), some (.int (s_hr b n s)), none] [] 161 ((z_u2 I 127 25 (I 127 23)), J, RF w) else z_go 67 [some (.ref 127), some (.int (s_hr b n s)), none] [] 161 ((z_u2 I 127 25 (I 127 23)), J, RF w)) (fun _ => rfl) ?_
  refine z_evT (z_bo_0.mpr (fun q0 => ha (decide_eq_true ((s_hr_in h256 97 122 (by decide) (by decide) rfl rfl).mp q0).2))) ?_
  refine z_evL ?_
  refine z_evG 4 (y := z_ret (z_cl E (d + 2) 178 [.int (s_hr b n s), .int 48, .int 57] (161, ((z_u2 I 127 25 (I 127 23)), J, RF w))) 82 [some (.ref 127), some (.int (s_hr b n s)), none] []) (fun _ => rfl) ?_
  refine z_evK (v := .int (z_bo (¬ (s_hr b n s) < 48 ∧ ¬ 57 < (s_hr b n s)))) (z' := 161) (σ' := ((z_u2 I 127 25 (I 127 23)), J, RF w)) (m_in E (d + 1) (z_u2 I 127 25 (I 127 23)) J w (s_hr b n s) 48 57) ?_
  refine z_evG 1 (y := if (z_bo (¬ (s_hr b n s) < 48 ∧ ¬ 57 < (s_hr b n s))) = 0 then z_go 170 [some (.ref 127), some (.int (s_hr b n s)), none] [] 161 ((z_u2 I 127 25 (I 127 23)), J, RF w) else z_go 85 [some (.ref 127), some (.int (s_hr b n s)), none] [] 161 ((z_u2 I 127 25 (I 127 23)), J, RF w)) (fun _ => rfl) ?_
  refine z_evF (fun q0 => z_bo_0.mp q0 ((s_hr_in h256 48 57 (by decide) (by decide) rfl rfl).mpr ⟨hz, of_decide_eq_true hd⟩)) ?_
  refine z_evL ?_
  refine z_evG 5 (y := z_go 92 [some (.ref 127), some (.int (s_hr b n s)), some (.int 0)] [] 161 ((z_u2 (z_u2 I 127 25 (I 127 23)) 127 26 0), J, RF w)) (fun _ => rfl) ?_
  refine z_evL ?_
  have st0 : ∀ m0, m0 = 0 → ∀ qz, z_Ev E (d + 2) z_m204 92 [some (.ref 127), some (.int (s_hr b n s)), some (.int (nI m0))] [] 161 ((z_u2 (z_u2 (z_u2 I 127 25 (nI s)) 127 26 (s_dc4 b s m0)) 127 23 (nI (s + m0))), J, RF w) qz → z_Ev E (d + 2) z_m204 92 [some (.ref 127), some (.int (s_hr b n s)), some (.int 0)] [] 161 ((z_u2 (z_u2 I 127 25 (I 127 23)) 127 26 0), J, RF w) qz := by intro m0 hm0 qz h; rw [hm0, z_u2_id (show (z_u2 (z_u2 I 127 25 (nI s)) 127 26 (s_dc4 b s 0)) 127 23 = nI (s + 0) from h_s), ← h_s] at h; subst hm0; exact h
  refine st0 0 rfl _ ?_
  refine z_loop (F := fun k => ([some (.ref 127), some (.int (s_hr b n s)), some (.int (nI k))], ((z_u2 (z_u2 (z_u2 I 127 25 (nI s)) 127 26 (s_dc4 b s k)) 127 23 (nI (s + k))), J, RF w))) (P := fun k => True) (s_rn (s_dg b) n s) trivial (fun hP => ?_) (fun k hk hP next => ?_)
  · show z_Ev E (d + 2) z_m204 92 [some (.ref 127), some (.int (s_hr b n s)), some (.int (nI (s_rn (s_dg b) n s)))] [] 161 ((z_u2 (z_u2 (z_u2 I 127 25 (nI s)) 127 26 (s_dc4 b s (s_rn (s_dg b) n s))) 127 23 (nI (s + (s_rn (s_dg b) n s)))), J, RF w) _
    have hle := s_rn_le (s_dg b) (n := n) (p := s) (by omega)
    refine z_evG 2 (y := z_ret (z_cl E (d + 2) 202 [.ref 127] (161, ((z_u2 (z_u2 (z_u2 I 127 25 (nI s)) 127 26 (s_dc4 b s (s_rn (s_dg b) n s))) 127 23 (nI (s + (s_rn (s_dg b) n s)))), J, RF w))) 96 [some (.ref 127), some (.int (s_hr b n s)), some (.int (nI (s_rn (s_dg b) n s)))] []) (fun _ => rfl) ?_
    refine z_evK (v := .int (s_hr b n (s + (s_rn (s_dg b) n s)))) (z' := 161) (σ' := ((z_u2 (z_u2 (z_u2 I 127 25 (nI s)) 127 26 (s_dc4 b s (s_rn (s_dg b) n s))) 127 23 (nI (s + (s_rn (s_dg b) n s)))), J, RF w)) (m_here E (d + 1) (z_u2 (z_u2 (z_u2 I 127 25 (nI s)) 127 26 (s_dc4 b s (s_rn (s_dg b) n s))) 127 23 (nI (s + (s_rn (s_dg b) n s)))) J w b n (s + (s_rn (s_dg b) n s)) hB rfl (by omega)) ?_
    refine z_evG 3 (y := z_ret (z_cl E (d + 2) 178 [.int (s_hr b n (s + (s_rn (s_dg b) n s))), .int 48, .int 57] (161, ((z_u2 (z_u2 (z_u2 I 127 25 (nI s)) 127 26 (s_dc4 b s (s_rn (s_dg b) n s))) 127 23 (nI (s + (s_rn (s_dg b) n s)))), J, RF w))) 103 [some (.ref 127), some (.int (s_hr b n s)), some (.int (nI (s_rn (s_dg b) n s)))] []) (fun _ => rfl) ?_
    refine z_evK (v := .int (z_bo (¬ (s_hr b n (s + (s_rn (s_dg b) n s))) < 48 ∧ ¬ 57 < (s_hr b n (s + (s_rn (s_dg b) n s)))))) (z' := 161) (σ' := ((z_u2 (z_u2 (z_u2 I 127 25 (nI s)) 127 26 (s_dc4 b s (s_rn (s_dg b) n s))) 127 23 (nI (s + (s_rn (s_dg b) n s)))), J, RF w)) (m_in E (d + 1) (z_u2 (z_u2 (z_u2 I 127 25 (nI s)) 127 26 (s_dc4 b s (s_rn (s_dg b) n s))) 127 23 (nI (s + (s_rn (s_dg b) n s)))) J w (s_hr b n (s + (s_rn (s_dg b) n s))) 48 57) ?_
    refine z_evG 1 (y := if (z_bo (¬ (s_hr b n (s + (s_rn (s_dg b) n s))) < 48 ∧ ¬ 57 < (s_hr b n (s + (s_rn (s_dg b) n s))))) = 0 then z_go 153 [some (.ref 127), some (.int (s_hr b n s)), some (.int (nI (s_rn (s_dg b) n s)))] [] 161 ((z_u2 (z_u2 (z_u2 I 127 25 (nI s)) 127 26 (s_dc4 b s (s_rn (s_dg b) n s))) 127 23 (nI (s + (s_rn (s_dg b) n s)))), J, RF w) else z_go 106 [some (.ref 127), some (.int (s_hr b n s)), some (.int (nI (s_rn (s_dg b) n s)))] [] 161 ((z_u2 (z_u2 (z_u2 I 127 25 (nI s)) 127 26 (s_dc4 b s (s_rn (s_dg b) n s))) 127 23 (nI (s + (s_rn (s_dg b) n s)))), J, RF w)) (fun _ => rfl) ?_
    refine z_evO (fun h4 => ?_) (fun h4 => ?_)
    · refine z_evL ?_
      refine z_evG 4 (y := if 4 < (nI (s_rn (s_dg b) n s)) then z_go 159 [some (.ref 127), some (.int (s_hr b n s)), some (.int (nI (s_rn (s_dg b) n s)))] [.ref 127] 161 ((z_u2 (z_u2 (z_u2 I 127 25 (nI s)) 127 26 (s_dc4 b s (s_rn (s_dg b) n s))) 127 23 (nI (s + (s_rn (s_dg b) n s)))), J, RF w) else z_go 163 [some (.ref 127), some (.int (s_hr b n s)), some (.int (nI (s_rn (s_dg b) n s)))] [.ref 127] 161 ((z_u2 (z_u2 (z_u2 I 127 25 (nI s)) 127 26 (s_dc4 b s (s_rn (s_dg b) n s))) 127 23 (nI (s + (s_rn (s_dg b) n s)))), J, RF w)) (fun _ => rfl) ?_
      refine z_evF (mt (show _ ↔ 4 < s_rn (s_dg b) n s from z_ltN rfl rfl (by decide) (by omega)).mp hq) ?_
      refine z_evL ?_
      refine z_evG 4 (y := some (.inr (none, 161, (z_u2 (z_u2 (z_u2 (z_u2 I 127 25 (nI s)) 127 26 (s_dc4 b s (s_rn (s_dg b) n s))) 127 23 (nI (s + (s_rn (s_dg b) n s)))) 127 24 1), J, RF w))) (fun _ => rfl) ?_
      exact z_evR rfl
    · refine z_evL ?_
      exact absurd (by have := (s_hr_in h256 48 57 (by decide) (by decide) rfl rfl).mp h4; exact ⟨this.1, decide_eq_true this.2⟩) (s_rn_end (s_dg b) n s)
  · show z_Ev E (d + 2) z_m204 92 [some (.ref 127), some (.int (s_hr b n s)), some (.int (nI k))] [] 161 ((z_u2 (z_u2 (z_u2 I 127 25 (nI s)) 127 26 (s_dc4 b s k)) 127 23 (nI (s + k))), J, RF w) _
    have hx := s_rn_lt hk
    have nx : (True) → z_Ev E (d + 2) z_m204 92 [some (.ref 127), some (.int (s_hr b n s)), some (.int (nI (k + 1)))] [] 161 ((z_u2 (z_u2 (z_u2 I 127 25 (nI s)) 127 26 (s_dc4 b s (k + 1))) 127 23 (nI (s + (k + 1)))), J, RF w) _ := next
    refine z_evG 2 (y := z_ret (z_cl E (d + 2) 202 [.ref 127] (161, ((z_u2 (z_u2 (z_u2 I 127 25 (nI s)) 127 26 (s_dc4 b s k)) 127 23 (nI (s + k))), J, RF w))) 96 [some (.ref 127), some (.int (s_hr b n s)), some (.int (nI k))] []) (fun _ => rfl) ?_
    refine z_evK (v := .int (s_hr b n (s + k))) (z' := 161) (σ' := ((z_u2 (z_u2 (z_u2 I 127 25 (nI s)) 127 26 (s_dc4 b s k)) 127 23 (nI (s + k))), J, RF w)) (m_here E (d + 1) (z_u2 (z_u2 (z_u2 I 127 25 (nI s)) 127 26 (s_dc4 b s k)) 127 23 (nI (s + k))) J w b n (s + k) hB rfl (by omega)) ?_
    refine z_evG 3 (y := z_ret (z_cl E (d + 2) 178 [.int (s_hr b n (s + k)), .int 48, .int 57] (161, ((z_u2 (z_u2 (z_u2 I 127 25 (nI s)) 127 26 (s_dc4 b s k)) 127 23 (nI (s + k))), J, RF w))) 103 [some (.ref 127), some (.int (s_hr b n s)), some (.int (nI k))] []) (fun _ => rfl) ?_
    refine z_evK (v := .int (z_bo (¬ (s_hr b n (s + k)) < 48 ∧ ¬ 57 < (s_hr b n (s + k))))) (z' := 161) (σ' := ((z_u2 (z_u2 (z_u2 I 127 25 (nI s)) 127 26 (s_dc4 b s k)) 127 23 (nI (s + k))), J, RF w)) (m_in E (d + 1) (z_u2 (z_u2 (z_u2 I 127 25 (nI s)) 127 26 (s_dc4 b s k)) 127 23 (nI (s + k))) J w (s_hr b n (s + k)) 48 57) ?_
    refine z_evG 1 (y := if (z_bo (¬ (s_hr b n (s + k)) < 48 ∧ ¬ 57 < (s_hr b n (s + k)))) = 0 then z_go 153 [some (.ref 127), some (.int (s_hr b n s)), some (.int (nI k))] [] 161 ((z_u2 (z_u2 (z_u2 I 127 25 (nI s)) 127 26 (s_dc4 b s k)) 127 23 (nI (s + k))), J, RF w) else z_go 106 [some (.ref 127), some (.int (s_hr b n s)), some (.int (nI k))] [] 161 ((z_u2 (z_u2 (z_u2 I 127 25 (nI s)) 127 26 (s_dc4 b s k)) 127 23 (nI (s + k))), J, RF w)) (fun _ => rfl) ?_
    refine z_evF (fun q0 => z_bo_0.mp q0 ((s_hr_in h256 48 57 (by decide) (by decide) rfl rfl).mpr ⟨hx.1, of_decide_eq_true hx.2⟩)) ?_
    refine z_evL ?_
    refine z_evG 4 (y := if (nI k) < 4 then z_go 112 [some (.ref 127), some (.int (s_hr b n s)), some (.int (nI k))] [.ref 127] 161 ((z_u2 (z_u2 (z_u2 I 127 25 (nI s)) 127 26 (s_dc4 b s k)) 127 23 (nI (s + k))), J, RF w) else z_go 130 [some (.ref 127), some (.int (s_hr b n s)), some (.int (nI k))] [.ref 127] 161 ((z_u2 (z_u2 (z_u2 I 127 25 (nI s)) 127 26 (s_dc4 b s k)) 127 23 (nI (s + k))), J, RF w)) (fun _ => rfl) ?_
    refine z_evIN (show _ ↔ k < 4 from z_ltN rfl rfl (by omega) (by omega)) (fun h7 => ?_) (fun h7 => ?_)
    · refine z_evL ?_
      refine z_evG 6 (y := z_ret (z_cl E (d + 2) 202 [.ref 127] (161, ((z_u2 (z_u2 (z_u2 I 127 25 (nI s)) 127 26 (s_dc4 b s k)) 127 23 (nI (s + k))), J, RF w))) 123 [some (.ref 127), some (.int (s_hr b n s)), some (.int (nI k))] [.int (10 * (s_dc4 b s k)), .ref 127]) (fun _ => rfl) ?_
      refine z_evK (v := .int (s_hr b n (s + k))) (z' := 161) (σ' := ((z_u2 (z_u2 (z_u2 I 127 25 (nI s)) 127 26 (s_dc4 b s k)) 127 23 (nI (s + k))), J, RF w)) (m_here E (d + 1) (z_u2 (z_u2 (z_u2 I 127 25 (nI s)) 127 26 (s_dc4 b s k)) 127 23 (nI (s + k))) J w b n (s + k) hB rfl (by omega)) ?_
      refine z_evG 13 (y := z_go 92 [some (.ref 127), some (.int (s_hr b n s)), some (.int ((nI k) + 1))] [] 161 ((z_u2 (z_u2 (z_u2 (z_u2 (z_u2 I 127 25 (nI s)) 127 26 (s_dc4 b s k)) 127 23 (nI (s + k))) 127 26 (((10 * (s_dc4 b s k)) + (s_hr b n (s + k))) - 48)) 127 23 ((nI (s + k)) + 1)), J, RF w)) (fun _ => rfl) ?_
      refine z_evL ?_
      rw [show s_dc4 b s (k + 1) = 10 * s_dc4 b s k + nI (b (s + k)) - 48 from if_pos h7] at nx
      rw [show s_hr b n (s + k) = nI (b (s + k)) from if_pos hx.1]
      rw [nI_1 k, nI_1 (s + k), z_u22 _ _ _ _ _ (by decide)]
      exact nx trivial
    · refine z_evL ?_
      refine z_evG 11 (y := z_go 92 [some (.ref 127), some (.int (s_hr b n s)), some (.int ((nI k) + 1))] [] 161 ((z_u2 (z_u2 (z_u2 (z_u2 (z_u2 I 127 25 (nI s)) 127 26 (s_dc4 b s k)) 127 23 (nI (s + k))) 127 26 (s_dc4 b s k)) 127 23 ((nI (s + k)) + 1)), J, RF w)) (fun _ => rfl) ?_
      refine z_evL ?_
      rw [show s_dc4 b s (k + 1) = s_dc4 b s k from if_neg h7] at nx
      rw [nI_1 k, nI_1 (s + k), z_u22 _ _ _ _ _ (by decide)]
      exact nx trivial
set_option maxRecDepth 20000 in
theorem m_next_num_far (E : zE) (d : Nat) (I : Nat → Nat → Int32) (J : Nat → Nat → Int64) (w : Nat) (b : Nat → Nat) (n s : Nat) (hB : s_by I b n) (h_s : I 127 23 = nI s) (hsn : s ≤ n) (hz : s < n) (ha : ¬ s_al b s = true) (hd : s_dg b s = true) (hq : 4 < s_rn (s_dg b) n s) : z_Ev E (d + 2) z_m204 31 [some (.ref 127), none, none] [] 161 (I, J, RF w) (none, 161, (z_u2 (z_u2 (z_u2 (z_u2 I 127 25 (nI s)) 127 26 (s_dc4 b s (s_rn (s_dg b) n s))) 127 23 (nI (s + (s_rn (s_dg b) n s)))) 127 24 (-1)), J, RF w) := by
  obtain ⟨_, h160, h256, _⟩ := id hB
  refine z_evG 6 (y := z_ret (z_cl E (d + 2) 202 [.ref 127] (161, ((z_u2 I 127 25 (I 127 23)), J, RF w))) 43 [some (.ref 127), none, none] []) (fun _ => rfl) ?_
  refine z_evK (v := .int (s_hr b n s)) (z' := 161) (σ' := ((z_u2 I 127 25 (I 127 23)), J, RF w)) (m_here E (d + 1) (z_u2 I 127 25 (I 127 23)) J w b n s hB h_s (by omega)) ?_
  refine z_evG 3 (y := if (s_hr b n s) < 0 then z_go 48 [some (.ref 127), some (.int (s_hr b n s)), none] [] 161 ((z_u2 I 127 25 (I 127 23)), J, RF w) else z_go 56 [some (.ref 127), some (.int (s_hr b n s)), none] [] 161 ((z_u2 I 127 25 (I 127 23)), J, RF w)) (fun _ => rfl) ?_
  refine z_evF (show ¬ s_hr b n s < 0 by unfold s_hr; rw [if_pos hz]; exact nI_pos (by have := h256 s hz; omega)) ?_
  refine z_evL ?_
  refine z_evG 4 (y := z_ret (z_cl E (d + 2) 178 [.int (s_hr b n s), .int 97, .int 122] (161, ((z_u2 I 127 25 (I 127 23)), J, RF w))) 64 [some (.ref 127), some (.int (s_hr b n s)), none] []) (fun _ => rfl) ?_
  refine z_evK (v := .int (z_bo (¬ (s_hr b n s) < 97 ∧ ¬ 122 < (s_hr b n s)))) (z' := 161) (σ' := ((z_u2 I 127 25 (I 127 23)), J, RF w)) (m_in E (d + 1) (z_u2 I 127 25 (I 127 23)) J w (s_hr b n s) 97 122) ?_
  refine z_evG 1 (y := if (z_bo (¬ (s_hr b n s) < 97 ∧ ¬ 122 < (s_hr b n s))) = 0 then z_go 74 [some (.ref 127), some (.int (s_hr b n s)), none] [] 161 ((z_u2 I 127 25 (I 127 23)), J, RF w) else z_go 67 [some (.ref 127), some (.int (s_hr b n s)), none] [] 161 ((z_u2 I 127 25 (I 127 23)), J, RF w)) (fun _ => rfl) ?_
  refine z_evT (z_bo_0.mpr (fun q0 => ha (decide_eq_true ((s_hr_in h256 97 122 (by decide) (by decide) rfl rfl).mp q0).2))) ?_
  refine z_evL ?_
  refine z_evG 4 (y := z_ret (z_cl E (d + 2) 178 [.int (s_hr b n s), .int 48, .int 57] (161, ((z_u2 I 127 25 (I 127 23)), J, RF w))) 82 [some (.ref 127), some (.int (s_hr b n s)), none] []) (fun _ => rfl) ?_
  refine z_evK (v := .int (z_bo (¬ (s_hr b n s) < 48 ∧ ¬ 57 < (s_hr b n s)))) (z' := 161) (σ' := ((z_u2 I 127 25 (I 127 23)), J, RF w)) (m_in E (d + 1) (z_u2 I 127 25 (I 127 23)) J w (s_hr b n s) 48 57) ?_
  refine z_evG 1 (y := if (z_bo (¬ (s_hr b n s) < 48 ∧ ¬ 57 < (s_hr b n s))) = 0 then z_go 170 [some (.ref 127), some (.int (s_hr b n s)), none] [] 161 ((z_u2 I 127 25 (I 127 23)), J, RF w) else z_go 85 [some (.ref 127), some (.int (s_hr b n s)), none] [] 161 ((z_u2 I 127 25 (I 127 23)), J, RF w)) (fun _ => rfl) ?_
  refine z_evF (fun q0 => z_bo_0.mp q0 ((s_hr_in h256 48 57 (by decide) (by decide) rfl rfl).mpr ⟨hz, of_decide_eq_true hd⟩)) ?_
  refine z_evL ?_
  refine z_evG 5 (y := z_go 92 [some (.ref 127), some (.int (s_hr b n s)), some (.int 0)] [] 161 ((z_u2 (z_u2 I 127 25 (I 127 23)) 127 26 0), J, RF w)) (fun _ => rfl) ?_
  refine z_evL ?_
  have st0 : ∀ m0, m0 = 0 → ∀ qz, z_Ev E (d + 2) z_m204 92 [some (.ref 127), some (.int (s_hr b n s)), some (.int (nI m0))] [] 161 ((z_u2 (z_u2 (z_u2 I 127 25 (nI s)) 127 26 (s_dc4 b s m0)) 127 23 (nI (s + m0))), J, RF w) qz → z_Ev E (d + 2) z_m204 92 [some (.ref 127), some (.int (s_hr b n s)), some (.int 0)] [] 161 ((z_u2 (z_u2 I 127 25 (I 127 23)) 127 26 0), J, RF w) qz := by intro m0 hm0 qz h; rw [hm0, z_u2_id (show (z_u2 (z_u2 I 127 25 (nI s)) 127 26 (s_dc4 b s 0)) 127 23 = nI (s + 0) from h_s), ← h_s] at h; subst hm0; exact h
  refine st0 0 rfl _ ?_
  refine z_loop (F := fun k => ([some (.ref 127), some (.int (s_hr b n s)), some (.int (nI k))], ((z_u2 (z_u2 (z_u2 I 127 25 (nI s)) 127 26 (s_dc4 b s k)) 127 23 (nI (s + k))), J, RF w))) (P := fun k => True) (s_rn (s_dg b) n s) trivial (fun hP => ?_) (fun k hk hP next => ?_)
  · show z_Ev E (d + 2) z_m204 92 [some (.ref 127), some (.int (s_hr b n s)), some (.int (nI (s_rn (s_dg b) n s)))] [] 161 ((z_u2 (z_u2 (z_u2 I 127 25 (nI s)) 127 26 (s_dc4 b s (s_rn (s_dg b) n s))) 127 23 (nI (s + (s_rn (s_dg b) n s)))), J, RF w) _
    have hle := s_rn_le (s_dg b) (n := n) (p := s) (by omega)
    refine z_evG 2 (y := z_ret (z_cl E (d + 2) 202 [.ref 127] (161, ((z_u2 (z_u2 (z_u2 I 127 25 (nI s)) 127 26 (s_dc4 b s (s_rn (s_dg b) n s))) 127 23 (nI (s + (s_rn (s_dg b) n s)))), J, RF w))) 96 [some (.ref 127), some (.int (s_hr b n s)), some (.int (nI (s_rn (s_dg b) n s)))] []) (fun _ => rfl) ?_
    refine z_evK (v := .int (s_hr b n (s + (s_rn (s_dg b) n s)))) (z' := 161) (σ' := ((z_u2 (z_u2 (z_u2 I 127 25 (nI s)) 127 26 (s_dc4 b s (s_rn (s_dg b) n s))) 127 23 (nI (s + (s_rn (s_dg b) n s)))), J, RF w)) (m_here E (d + 1) (z_u2 (z_u2 (z_u2 I 127 25 (nI s)) 127 26 (s_dc4 b s (s_rn (s_dg b) n s))) 127 23 (nI (s + (s_rn (s_dg b) n s)))) J w b n (s + (s_rn (s_dg b) n s)) hB rfl (by omega)) ?_
    refine z_evG 3 (y := z_ret (z_cl E (d + 2) 178 [.int (s_hr b n (s + (s_rn (s_dg b) n s))), .int 48, .int 57] (161, ((z_u2 (z_u2 (z_u2 I 127 25 (nI s)) 127 26 (s_dc4 b s (s_rn (s_dg b) n s))) 127 23 (nI (s + (s_rn (s_dg b) n s)))), J, RF w))) 103 [some (.ref 127), some (.int (s_hr b n s)), some (.int (nI (s_rn (s_dg b) n s)))] []) (fun _ => rfl) ?_
    refine z_evK (v := .int (z_bo (¬ (s_hr b n (s + (s_rn (s_dg b) n s))) < 48 ∧ ¬ 57 < (s_hr b n (s + (s_rn (s_dg b) n s)))))) (z' := 161) (σ' := ((z_u2 (z_u2 (z_u2 I 127 25 (nI s)) 127 26 (s_dc4 b s (s_rn (s_dg b) n s))) 127 23 (nI (s + (s_rn (s_dg b) n s)))), J, RF w)) (m_in E (d + 1) (z_u2 (z_u2 (z_u2 I 127 25 (nI s)) 127 26 (s_dc4 b s (s_rn (s_dg b) n s))) 127 23 (nI (s + (s_rn (s_dg b) n s)))) J w (s_hr b n (s + (s_rn (s_dg b) n s))) 48 57) ?_
    refine z_evG 1 (y := if (z_bo (¬ (s_hr b n (s + (s_rn (s_dg b) n s))) < 48 ∧ ¬ 57 < (s_hr b n (s + (s_rn (s_dg b) n s))))) = 0 then z_go 153 [some (.ref 127), some (.int (s_hr b n s)), some (.int (nI (s_rn (s_dg b) n s)))] [] 161 ((z_u2 (z_u2 (z_u2 I 127 25 (nI s)) 127 26 (s_dc4 b s (s_rn (s_dg b) n s))) 127 23 (nI (s + (s_rn (s_dg b) n s)))), J, RF w) else z_go 106 [some (.ref 127), some (.int (s_hr b n s)), some (.int (nI (s_rn (s_dg b) n s)))] [] 161 ((z_u2 (z_u2 (z_u2 I 127 25 (nI s)) 127 26 (s_dc4 b s (s_rn (s_dg b) n s))) 127 23 (nI (s + (s_rn (s_dg b) n s)))), J, RF w)) (fun _ => rfl) ?_
    refine z_evO (fun h4 => ?_) (fun h4 => ?_)
    · refine z_evL ?_
      refine z_evG 4 (y := if 4 < (nI (s_rn (s_dg b) n s)) then z_go 159 [some (.ref 127), some (.int (s_hr b n s)), some (.int (nI (s_rn (s_dg b) n s)))] [.ref 127] 161 ((z_u2 (z_u2 (z_u2 I 127 25 (nI s)) 127 26 (s_dc4 b s (s_rn (s_dg b) n s))) 127 23 (nI (s + (s_rn (s_dg b) n s)))), J, RF w) else z_go 163 [some (.ref 127), some (.int (s_hr b n s)), some (.int (nI (s_rn (s_dg b) n s)))] [.ref 127] 161 ((z_u2 (z_u2 (z_u2 I 127 25 (nI s)) 127 26 (s_dc4 b s (s_rn (s_dg b) n s))) 127 23 (nI (s + (s_rn (s_dg b) n s)))), J, RF w)) (fun _ => rfl) ?_
      refine z_evT ((show _ ↔ 4 < s_rn (s_dg b) n s from z_ltN rfl rfl (by decide) (by omega)).mpr hq) ?_
      refine z_evL ?_
      refine z_evG 5 (y := some (.inr (none, 161, (z_u2 (z_u2 (z_u2 (z_u2 I 127 25 (nI s)) 127 26 (s_dc4 b s (s_rn (s_dg b) n s))) 127 23 (nI (s + (s_rn (s_dg b) n s)))) 127 24 (-1)), J, RF w))) (fun _ => rfl) ?_
      exact z_evR rfl
    · refine z_evL ?_
      exact absurd (by have := (s_hr_in h256 48 57 (by decide) (by decide) rfl rfl).mp h4; exact ⟨this.1, decide_eq_true this.2⟩) (s_rn_end (s_dg b) n s)
  · show z_Ev E (d + 2) z_m204 92 [some (.ref 127), some (.int (s_hr b n s)), some (.int (nI k))] [] 161 ((z_u2 (z_u2 (z_u2 I 127 25 (nI s)) 127 26 (s_dc4 b s k)) 127 23 (nI (s + k))), J, RF w) _
    have hx := s_rn_lt hk
    have nx : (True) → z_Ev E (d + 2) z_m204 92 [some (.ref 127), some (.int (s_hr b n s)), some (.int (nI (k + 1)))] [] 161 ((z_u2 (z_u2 (z_u2 I 127 25 (nI s)) 127 26 (s_dc4 b s (k + 1))) 127 23 (nI (s + (k + 1)))), J, RF w) _ := next
    refine z_evG 2 (y := z_ret (z_cl E (d + 2) 202 [.ref 127] (161, ((z_u2 (z_u2 (z_u2 I 127 25 (nI s)) 127 26 (s_dc4 b s k)) 127 23 (nI (s + k))), J, RF w))) 96 [some (.ref 127), some (.int (s_hr b n s)), some (.int (nI k))] []) (fun _ => rfl) ?_
    refine z_evK (v := .int (s_hr b n (s + k))) (z' := 161) (σ' := ((z_u2 (z_u2 (z_u2 I 127 25 (nI s)) 127 26 (s_dc4 b s k)) 127 23 (nI (s + k))), J, RF w)) (m_here E (d + 1) (z_u2 (z_u2 (z_u2 I 127 25 (nI s)) 127 26 (s_dc4 b s k)) 127 23 (nI (s + k))) J w b n (s + k) hB rfl (by omega)) ?_
    refine z_evG 3 (y := z_ret (z_cl E (d + 2) 178 [.int (s_hr b n (s + k)), .int 48, .int 57] (161, ((z_u2 (z_u2 (z_u2 I 127 25 (nI s)) 127 26 (s_dc4 b s k)) 127 23 (nI (s + k))), J, RF w))) 103 [some (.ref 127), some (.int (s_hr b n s)), some (.int (nI k))] []) (fun _ => rfl) ?_
    refine z_evK (v := .int (z_bo (¬ (s_hr b n (s + k)) < 48 ∧ ¬ 57 < (s_hr b n (s + k))))) (z' := 161) (σ' := ((z_u2 (z_u2 (z_u2 I 127 25 (nI s)) 127 26 (s_dc4 b s k)) 127 23 (nI (s + k))), J, RF w)) (m_in E (d + 1) (z_u2 (z_u2 (z_u2 I 127 25 (nI s)) 127 26 (s_dc4 b s k)) 127 23 (nI (s + k))) J w (s_hr b n (s + k)) 48 57) ?_
    refine z_evG 1 (y := if (z_bo (¬ (s_hr b n (s + k)) < 48 ∧ ¬ 57 < (s_hr b n (s + k)))) = 0 then z_go 153 [some (.ref 127), some (.int (s_hr b n s)), some (.int (nI k))] [] 161 ((z_u2 (z_u2 (z_u2 I 127 25 (nI s)) 127 26 (s_dc4 b s k)) 127 23 (nI (s + k))), J, RF w) else z_go 106 [some (.ref 127), some (.int (s_hr b n s)), some (.int (nI k))] [] 161 ((z_u2 (z_u2 (z_u2 I 127 25 (nI s)) 127 26 (s_dc4 b s k)) 127 23 (nI (s + k))), J, RF w)) (fun _ => rfl) ?_
    refine z_evF (fun q0 => z_bo_0.mp q0 ((s_hr_in h256 48 57 (by decide) (by decide) rfl rfl).mpr ⟨hx.1, of_decide_eq_true hx.2⟩)) ?_
    refine z_evL ?_
    refine z_evG 4 (y := if (nI k) < 4 then z_go 112 [some (.ref 127), some (.int (s_hr b n s)), some (.int (nI k))] [.ref 127] 161 ((z_u2 (z_u2 (z_u2 I 127 25 (nI s)) 127 26 (s_dc4 b s k)) 127 23 (nI (s + k))), J, RF w) else z_go 130 [some (.ref 127), some (.int (s_hr b n s)), some (.int (nI k))] [.ref 127] 161 ((z_u2 (z_u2 (z_u2 I 127 25 (nI s)) 127 26 (s_dc4 b s k)) 127 23 (nI (s + k))), J, RF w)) (fun _ => rfl) ?_
    refine z_evIN (show _ ↔ k < 4 from z_ltN rfl rfl (by omega) (by omega)) (fun h7 => ?_) (fun h7 => ?_)
    · refine z_evL ?_
      refine z_evG 6 (y := z_ret (z_cl E (d + 2) 202 [.ref 127] (161, ((z_u2 (z_u2 (z_u2 I 127 25 (nI s)) 127 26 (s_dc4 b s k)) 127 23 (nI (s + k))), J, RF w))) 123 [some (.ref 127), some (.int (s_hr b n s)), some (.int (nI k))] [.int (10 * (s_dc4 b s k)), .ref 127]) (fun _ => rfl) ?_
      refine z_evK (v := .int (s_hr b n (s + k))) (z' := 161) (σ' := ((z_u2 (z_u2 (z_u2 I 127 25 (nI s)) 127 26 (s_dc4 b s k)) 127 23 (nI (s + k))), J, RF w)) (m_here E (d + 1) (z_u2 (z_u2 (z_u2 I 127 25 (nI s)) 127 26 (s_dc4 b s k)) 127 23 (nI (s + k))) J w b n (s + k) hB rfl (by omega)) ?_
      refine z_evG 13 (y := z_go 92 [some (.ref 127), some (.int (s_hr b n s)), some (.int ((nI k) + 1))] [] 161 ((z_u2 (z_u2 (z_u2 (z_u2 (z_u2 I 127 25 (nI s)) 127 26 (s_dc4 b s k)) 127 23 (nI (s + k))) 127 26 (((10 * (s_dc4 b s k)) + (s_hr b n (s + k))) - 48)) 127 23 ((nI (s + k)) + 1)), J, RF w)) (fun _ => rfl) ?_
      refine z_evL ?_
      rw [show s_dc4 b s (k + 1) = 10 * s_dc4 b s k + nI (b (s + k)) - 48 from if_pos h7] at nx
      rw [show s_hr b n (s + k) = nI (b (s + k)) from if_pos hx.1]
      rw [nI_1 k, nI_1 (s + k), z_u22 _ _ _ _ _ (by decide)]
      exact nx trivial
    · refine z_evL ?_
      refine z_evG 11 (y := z_go 92 [some (.ref 127), some (.int (s_hr b n s)), some (.int ((nI k) + 1))] [] 161 ((z_u2 (z_u2 (z_u2 (z_u2 (z_u2 I 127 25 (nI s)) 127 26 (s_dc4 b s k)) 127 23 (nI (s + k))) 127 26 (s_dc4 b s k)) 127 23 ((nI (s + k)) + 1)), J, RF w)) (fun _ => rfl) ?_
      refine z_evL ?_
      rw [show s_dc4 b s (k + 1) = s_dc4 b s k from if_neg h7] at nx
      rw [nI_1 k, nI_1 (s + k), z_u22 _ _ _ _ _ (by decide)]
      exact nx trivial
set_option maxRecDepth 20000 in
theorem m_next_sign (E : zE) (d : Nat) (I : Nat → Nat → Int32) (J : Nat → Nat → Int64) (w : Nat) (b : Nat → Nat) (n s : Nat) (hB : s_by I b n) (h_s : I 127 23 = nI s) (hsn : s ≤ n) (hz : s < n) (ha : ¬ s_al b s = true) (hd : ¬ s_dg b s = true) (hg : s_sg (b s) = true) : z_Ev E (d + 2) z_m204 31 [some (.ref 127), none, none] [] 161 (I, J, RF w) (none, 161, (z_u2 (z_u2 (z_u2 I 127 25 (nI s)) 127 24 (nI (b s))) 127 23 (nI (s + 1))), J, RF w) := by
  obtain ⟨_, h160, h256, _⟩ := id hB
  have hbs := h256 s hz
  refine z_evG 6 (y := z_ret (z_cl E (d + 2) 202 [.ref 127] (161, ((z_u2 I 127 25 (I 127 23)), J, RF w))) 43 [some (.ref 127), none, none] []) (fun _ => rfl) ?_
  refine z_evK (v := .int (s_hr b n s)) (z' := 161) (σ' := ((z_u2 I 127 25 (I 127 23)), J, RF w)) (m_here E (d + 1) (z_u2 I 127 25 (I 127 23)) J w b n s hB h_s (by omega)) ?_
  refine z_evG 3 (y := if (s_hr b n s) < 0 then z_go 48 [some (.ref 127), some (.int (s_hr b n s)), none] [] 161 ((z_u2 I 127 25 (I 127 23)), J, RF w) else z_go 56 [some (.ref 127), some (.int (s_hr b n s)), none] [] 161 ((z_u2 I 127 25 (I 127 23)), J, RF w)) (fun _ => rfl) ?_
  refine z_evF (show ¬ s_hr b n s < 0 by unfold s_hr; rw [if_pos hz]; exact nI_pos (by have := h256 s hz; omega)) ?_
  refine z_evL ?_
  refine z_evG 4 (y := z_ret (z_cl E (d + 2) 178 [.int (s_hr b n s), .int 97, .int 122] (161, ((z_u2 I 127 25 (I 127 23)), J, RF w))) 64 [some (.ref 127), some (.int (s_hr b n s)), none] []) (fun _ => rfl) ?_
  refine z_evK (v := .int (z_bo (¬ (s_hr b n s) < 97 ∧ ¬ 122 < (s_hr b n s)))) (z' := 161) (σ' := ((z_u2 I 127 25 (I 127 23)), J, RF w)) (m_in E (d + 1) (z_u2 I 127 25 (I 127 23)) J w (s_hr b n s) 97 122) ?_
  refine z_evG 1 (y := if (z_bo (¬ (s_hr b n s) < 97 ∧ ¬ 122 < (s_hr b n s))) = 0 then z_go 74 [some (.ref 127), some (.int (s_hr b n s)), none] [] 161 ((z_u2 I 127 25 (I 127 23)), J, RF w) else z_go 67 [some (.ref 127), some (.int (s_hr b n s)), none] [] 161 ((z_u2 I 127 25 (I 127 23)), J, RF w)) (fun _ => rfl) ?_
  refine z_evT (z_bo_0.mpr (fun q0 => ha (decide_eq_true ((s_hr_in h256 97 122 (by decide) (by decide) rfl rfl).mp q0).2))) ?_
  refine z_evL ?_
  refine z_evG 4 (y := z_ret (z_cl E (d + 2) 178 [.int (s_hr b n s), .int 48, .int 57] (161, ((z_u2 I 127 25 (I 127 23)), J, RF w))) 82 [some (.ref 127), some (.int (s_hr b n s)), none] []) (fun _ => rfl) ?_
  refine z_evK (v := .int (z_bo (¬ (s_hr b n s) < 48 ∧ ¬ 57 < (s_hr b n s)))) (z' := 161) (σ' := ((z_u2 I 127 25 (I 127 23)), J, RF w)) (m_in E (d + 1) (z_u2 I 127 25 (I 127 23)) J w (s_hr b n s) 48 57) ?_
  refine z_evG 1 (y := if (z_bo (¬ (s_hr b n s) < 48 ∧ ¬ 57 < (s_hr b n s))) = 0 then z_go 170 [some (.ref 127), some (.int (s_hr b n s)), none] [] 161 ((z_u2 I 127 25 (I 127 23)), J, RF w) else z_go 85 [some (.ref 127), some (.int (s_hr b n s)), none] [] 161 ((z_u2 I 127 25 (I 127 23)), J, RF w)) (fun _ => rfl) ?_
  refine z_evT (z_bo_0.mpr (fun q0 => hd (decide_eq_true ((s_hr_in h256 48 57 (by decide) (by decide) rfl rfl).mp q0).2))) ?_
  refine z_evL ?_
  refine z_evG 3 (y := if (s_hr b n s) = 40 then z_go 218 [some (.ref 127), some (.int (s_hr b n s)), none] [] 161 ((z_u2 I 127 25 (I 127 23)), J, RF w) else z_go 176 [some (.ref 127), some (.int (s_hr b n s)), none] [] 161 ((z_u2 I 127 25 (I 127 23)), J, RF w)) (fun _ => rfl) ?_
  refine z_evIN (show _ ↔ (b s) = 40 from z_eqN (if_pos hz) rfl (by omega) (by omega)) (fun h4 => ?_) (fun h4 => ?_)
  · refine z_evL ?_
    refine z_evG 6 (y := if 1 = 0 then z_go 233 [some (.ref 127), some (.int (s_hr b n s)), some (.int 1)] [.ref 127] 161 ((z_u2 I 127 25 (I 127 23)), J, RF w) else z_go 229 [some (.ref 127), some (.int (s_hr b n s)), some (.int 1)] [.ref 127] 161 ((z_u2 I 127 25 (I 127 23)), J, RF w)) (fun _ => rfl) ?_
    refine z_evI (fun q => absurd q (by decide)) (fun _ => ?_)
    refine z_evL ?_
    refine z_evG 10 (y := some (.inr (none, 161, (z_u2 (z_u2 (z_u2 I 127 25 (I 127 23)) 127 24 (s_hr b n s)) 127 23 ((I 127 23) + 1)), J, RF w))) (fun _ => rfl) ?_
    rw [show ((I 127 23) + 1 : Int32) = nI (s + 1) from (z_addE h_s rfl)]
    rw [show (s_hr b n s : Int32) = nI (b s) from (if_pos hz)]
    rw [show (I 127 23 : Int32) = nI s from h_s]
    exact z_evR rfl
  · refine z_evL ?_
    refine z_evG 3 (y := if (s_hr b n s) = 41 then z_go 218 [some (.ref 127), some (.int (s_hr b n s)), none] [] 161 ((z_u2 I 127 25 (I 127 23)), J, RF w) else z_go 182 [some (.ref 127), some (.int (s_hr b n s)), none] [] 161 ((z_u2 I 127 25 (I 127 23)), J, RF w)) (fun _ => rfl) ?_
    refine z_evIN (show _ ↔ (b s) = 41 from z_eqN (if_pos hz) rfl (by omega) (by omega)) (fun h6 => ?_) (fun h6 => ?_)
    · refine z_evL ?_
      refine z_evG 6 (y := if 1 = 0 then z_go 233 [some (.ref 127), some (.int (s_hr b n s)), some (.int 1)] [.ref 127] 161 ((z_u2 I 127 25 (I 127 23)), J, RF w) else z_go 229 [some (.ref 127), some (.int (s_hr b n s)), some (.int 1)] [.ref 127] 161 ((z_u2 I 127 25 (I 127 23)), J, RF w)) (fun _ => rfl) ?_
      refine z_evI (fun q => absurd q (by decide)) (fun _ => ?_)
      refine z_evL ?_
      refine z_evG 10 (y := some (.inr (none, 161, (z_u2 (z_u2 (z_u2 I 127 25 (I 127 23)) 127 24 (s_hr b n s)) 127 23 ((I 127 23) + 1)), J, RF w))) (fun _ => rfl) ?_
      rw [show ((I 127 23) + 1 : Int32) = nI (s + 1) from (z_addE h_s rfl)]
      rw [show (s_hr b n s : Int32) = nI (b s) from (if_pos hz)]
      rw [show (I 127 23 : Int32) = nI s from h_s]
      exact z_evR rfl
    · refine z_evL ?_
      refine z_evG 3 (y := if (s_hr b n s) = 59 then z_go 218 [some (.ref 127), some (.int (s_hr b n s)), none] [] 161 ((z_u2 I 127 25 (I 127 23)), J, RF w) else z_go 188 [some (.ref 127), some (.int (s_hr b n s)), none] [] 161 ((z_u2 I 127 25 (I 127 23)), J, RF w)) (fun _ => rfl) ?_
      refine z_evIN (show _ ↔ (b s) = 59 from z_eqN (if_pos hz) rfl (by omega) (by omega)) (fun h8 => ?_) (fun h8 => ?_)
      · refine z_evL ?_
        refine z_evG 6 (y := if 1 = 0 then z_go 233 [some (.ref 127), some (.int (s_hr b n s)), some (.int 1)] [.ref 127] 161 ((z_u2 I 127 25 (I 127 23)), J, RF w) else z_go 229 [some (.ref 127), some (.int (s_hr b n s)), some (.int 1)] [.ref 127] 161 ((z_u2 I 127 25 (I 127 23)), J, RF w)) (fun _ => rfl) ?_
        refine z_evI (fun q => absurd q (by decide)) (fun _ => ?_)
        refine z_evL ?_
        refine z_evG 10 (y := some (.inr (none, 161, (z_u2 (z_u2 (z_u2 I 127 25 (I 127 23)) 127 24 (s_hr b n s)) 127 23 ((I 127 23) + 1)), J, RF w))) (fun _ => rfl) ?_
        rw [show ((I 127 23) + 1 : Int32) = nI (s + 1) from (z_addE h_s rfl)]
        rw [show (s_hr b n s : Int32) = nI (b s) from (if_pos hz)]
        rw [show (I 127 23 : Int32) = nI s from h_s]
        exact z_evR rfl
      · refine z_evL ?_
        refine z_evG 3 (y := if (s_hr b n s) = 43 then z_go 218 [some (.ref 127), some (.int (s_hr b n s)), none] [] 161 ((z_u2 I 127 25 (I 127 23)), J, RF w) else z_go 194 [some (.ref 127), some (.int (s_hr b n s)), none] [] 161 ((z_u2 I 127 25 (I 127 23)), J, RF w)) (fun _ => rfl) ?_
        refine z_evIN (show _ ↔ (b s) = 43 from z_eqN (if_pos hz) rfl (by omega) (by omega)) (fun h10 => ?_) (fun h10 => ?_)
        · refine z_evL ?_
          refine z_evG 6 (y := if 1 = 0 then z_go 233 [some (.ref 127), some (.int (s_hr b n s)), some (.int 1)] [.ref 127] 161 ((z_u2 I 127 25 (I 127 23)), J, RF w) else z_go 229 [some (.ref 127), some (.int (s_hr b n s)), some (.int 1)] [.ref 127] 161 ((z_u2 I 127 25 (I 127 23)), J, RF w)) (fun _ => rfl) ?_
          refine z_evI (fun q => absurd q (by decide)) (fun _ => ?_)
          refine z_evL ?_
          refine z_evG 10 (y := some (.inr (none, 161, (z_u2 (z_u2 (z_u2 I 127 25 (I 127 23)) 127 24 (s_hr b n s)) 127 23 ((I 127 23) + 1)), J, RF w))) (fun _ => rfl) ?_
          rw [show ((I 127 23) + 1 : Int32) = nI (s + 1) from (z_addE h_s rfl)]
          rw [show (s_hr b n s : Int32) = nI (b s) from (if_pos hz)]
          rw [show (I 127 23 : Int32) = nI s from h_s]
          exact z_evR rfl
        · refine z_evL ?_
          refine z_evG 3 (y := if (s_hr b n s) = 45 then z_go 218 [some (.ref 127), some (.int (s_hr b n s)), none] [] 161 ((z_u2 I 127 25 (I 127 23)), J, RF w) else z_go 200 [some (.ref 127), some (.int (s_hr b n s)), none] [] 161 ((z_u2 I 127 25 (I 127 23)), J, RF w)) (fun _ => rfl) ?_
          refine z_evIN (show _ ↔ (b s) = 45 from z_eqN (if_pos hz) rfl (by omega) (by omega)) (fun h12 => ?_) (fun h12 => ?_)
          · refine z_evL ?_
            refine z_evG 6 (y := if 1 = 0 then z_go 233 [some (.ref 127), some (.int (s_hr b n s)), some (.int 1)] [.ref 127] 161 ((z_u2 I 127 25 (I 127 23)), J, RF w) else z_go 229 [some (.ref 127), some (.int (s_hr b n s)), some (.int 1)] [.ref 127] 161 ((z_u2 I 127 25 (I 127 23)), J, RF w)) (fun _ => rfl) ?_
            refine z_evI (fun q => absurd q (by decide)) (fun _ => ?_)
            refine z_evL ?_
            refine z_evG 10 (y := some (.inr (none, 161, (z_u2 (z_u2 (z_u2 I 127 25 (I 127 23)) 127 24 (s_hr b n s)) 127 23 ((I 127 23) + 1)), J, RF w))) (fun _ => rfl) ?_
            rw [show ((I 127 23) + 1 : Int32) = nI (s + 1) from (z_addE h_s rfl)]
            rw [show (s_hr b n s : Int32) = nI (b s) from (if_pos hz)]
            rw [show (I 127 23 : Int32) = nI s from h_s]
            exact z_evR rfl
          · refine z_evL ?_
            refine z_evG 3 (y := if (s_hr b n s) = 42 then z_go 218 [some (.ref 127), some (.int (s_hr b n s)), none] [] 161 ((z_u2 I 127 25 (I 127 23)), J, RF w) else z_go 206 [some (.ref 127), some (.int (s_hr b n s)), none] [] 161 ((z_u2 I 127 25 (I 127 23)), J, RF w)) (fun _ => rfl) ?_
            refine z_evIN (show _ ↔ (b s) = 42 from z_eqN (if_pos hz) rfl (by omega) (by omega)) (fun h14 => ?_) (fun h14 => ?_)
            · refine z_evL ?_
              refine z_evG 6 (y := if 1 = 0 then z_go 233 [some (.ref 127), some (.int (s_hr b n s)), some (.int 1)] [.ref 127] 161 ((z_u2 I 127 25 (I 127 23)), J, RF w) else z_go 229 [some (.ref 127), some (.int (s_hr b n s)), some (.int 1)] [.ref 127] 161 ((z_u2 I 127 25 (I 127 23)), J, RF w)) (fun _ => rfl) ?_
              refine z_evI (fun q => absurd q (by decide)) (fun _ => ?_)
              refine z_evL ?_
              refine z_evG 10 (y := some (.inr (none, 161, (z_u2 (z_u2 (z_u2 I 127 25 (I 127 23)) 127 24 (s_hr b n s)) 127 23 ((I 127 23) + 1)), J, RF w))) (fun _ => rfl) ?_
              rw [show ((I 127 23) + 1 : Int32) = nI (s + 1) from (z_addE h_s rfl)]
              rw [show (s_hr b n s : Int32) = nI (b s) from (if_pos hz)]
              rw [show (I 127 23 : Int32) = nI s from h_s]
              exact z_evR rfl
            · refine z_evL ?_
              refine z_evG 3 (y := if (s_hr b n s) = 60 then z_go 218 [some (.ref 127), some (.int (s_hr b n s)), none] [] 161 ((z_u2 I 127 25 (I 127 23)), J, RF w) else z_go 212 [some (.ref 127), some (.int (s_hr b n s)), none] [] 161 ((z_u2 I 127 25 (I 127 23)), J, RF w)) (fun _ => rfl) ?_
              refine z_evIN (show _ ↔ (b s) = 60 from z_eqN (if_pos hz) rfl (by omega) (by omega)) (fun h16 => ?_) (fun h16 => ?_)
              · refine z_evL ?_
                refine z_evG 6 (y := if 1 = 0 then z_go 233 [some (.ref 127), some (.int (s_hr b n s)), some (.int 1)] [.ref 127] 161 ((z_u2 I 127 25 (I 127 23)), J, RF w) else z_go 229 [some (.ref 127), some (.int (s_hr b n s)), some (.int 1)] [.ref 127] 161 ((z_u2 I 127 25 (I 127 23)), J, RF w)) (fun _ => rfl) ?_
                refine z_evI (fun q => absurd q (by decide)) (fun _ => ?_)
                refine z_evL ?_
                refine z_evG 10 (y := some (.inr (none, 161, (z_u2 (z_u2 (z_u2 I 127 25 (I 127 23)) 127 24 (s_hr b n s)) 127 23 ((I 127 23) + 1)), J, RF w))) (fun _ => rfl) ?_
                rw [show ((I 127 23) + 1 : Int32) = nI (s + 1) from (z_addE h_s rfl)]
                rw [show (s_hr b n s : Int32) = nI (b s) from (if_pos hz)]
                rw [show (I 127 23 : Int32) = nI s from h_s]
                exact z_evR rfl
              · refine z_evL ?_
                refine z_evG 3 (y := if (s_hr b n s) = 61 then z_go 218 [some (.ref 127), some (.int (s_hr b n s)), none] [] 161 ((z_u2 I 127 25 (I 127 23)), J, RF w) else z_go 222 [some (.ref 127), some (.int (s_hr b n s)), none] [] 161 ((z_u2 I 127 25 (I 127 23)), J, RF w)) (fun _ => rfl) ?_
                refine z_evIN (show _ ↔ (b s) = 61 from z_eqN (if_pos hz) rfl (by omega) (by omega)) (fun h18 => ?_) (fun h18 => ?_)
                · refine z_evL ?_
                  refine z_evG 6 (y := if 1 = 0 then z_go 233 [some (.ref 127), some (.int (s_hr b n s)), some (.int 1)] [.ref 127] 161 ((z_u2 I 127 25 (I 127 23)), J, RF w) else z_go 229 [some (.ref 127), some (.int (s_hr b n s)), some (.int 1)] [.ref 127] 161 ((z_u2 I 127 25 (I 127 23)), J, RF w)) (fun _ => rfl) ?_
                  refine z_evI (fun q => absurd q (by decide)) (fun _ => ?_)
                  refine z_evL ?_
                  refine z_evG 10 (y := some (.inr (none, 161, (z_u2 (z_u2 (z_u2 I 127 25 (I 127 23)) 127 24 (s_hr b n s)) 127 23 ((I 127 23) + 1)), J, RF w))) (fun _ => rfl) ?_
                  rw [show ((I 127 23) + 1 : Int32) = nI (s + 1) from (z_addE h_s rfl)]
                  rw [show (s_hr b n s : Int32) = nI (b s) from (if_pos hz)]
                  rw [show (I 127 23 : Int32) = nI s from h_s]
                  exact z_evR rfl
                · refine z_evL ?_
                  exact absurd hg (by simp [s_sg, h4, h6, h8, h10, h12, h14, h16, h18])
set_option maxRecDepth 20000 in
theorem m_next_odd (E : zE) (d : Nat) (I : Nat → Nat → Int32) (J : Nat → Nat → Int64) (w : Nat) (b : Nat → Nat) (n s : Nat) (hB : s_by I b n) (h_s : I 127 23 = nI s) (hsn : s ≤ n) (hz : s < n) (ha : ¬ s_al b s = true) (hd : ¬ s_dg b s = true) (hg : ¬ s_sg (b s) = true) : z_Ev E (d + 2) z_m204 31 [some (.ref 127), none, none] [] 161 (I, J, RF w) (none, 161, (z_u2 (z_u2 (z_u2 I 127 25 (nI s)) 127 24 (-1)) 127 23 (nI (s + 1))), J, RF w) := by
  obtain ⟨_, h160, h256, _⟩ := id hB
  have hbs := h256 s hz
  refine z_evG 6 (y := z_ret (z_cl E (d + 2) 202 [.ref 127] (161, ((z_u2 I 127 25 (I 127 23)), J, RF w))) 43 [some (.ref 127), none, none] []) (fun _ => rfl) ?_
  refine z_evK (v := .int (s_hr b n s)) (z' := 161) (σ' := ((z_u2 I 127 25 (I 127 23)), J, RF w)) (m_here E (d + 1) (z_u2 I 127 25 (I 127 23)) J w b n s hB h_s (by omega)) ?_
  refine z_evG 3 (y := if (s_hr b n s) < 0 then z_go 48 [some (.ref 127), some (.int (s_hr b n s)), none] [] 161 ((z_u2 I 127 25 (I 127 23)), J, RF w) else z_go 56 [some (.ref 127), some (.int (s_hr b n s)), none] [] 161 ((z_u2 I 127 25 (I 127 23)), J, RF w)) (fun _ => rfl) ?_
  refine z_evF (show ¬ s_hr b n s < 0 by unfold s_hr; rw [if_pos hz]; exact nI_pos (by have := h256 s hz; omega)) ?_
  refine z_evL ?_
  refine z_evG 4 (y := z_ret (z_cl E (d + 2) 178 [.int (s_hr b n s), .int 97, .int 122] (161, ((z_u2 I 127 25 (I 127 23)), J, RF w))) 64 [some (.ref 127), some (.int (s_hr b n s)), none] []) (fun _ => rfl) ?_
  refine z_evK (v := .int (z_bo (¬ (s_hr b n s) < 97 ∧ ¬ 122 < (s_hr b n s)))) (z' := 161) (σ' := ((z_u2 I 127 25 (I 127 23)), J, RF w)) (m_in E (d + 1) (z_u2 I 127 25 (I 127 23)) J w (s_hr b n s) 97 122) ?_
  refine z_evG 1 (y := if (z_bo (¬ (s_hr b n s) < 97 ∧ ¬ 122 < (s_hr b n s))) = 0 then z_go 74 [some (.ref 127), some (.int (s_hr b n s)), none] [] 161 ((z_u2 I 127 25 (I 127 23)), J, RF w) else z_go 67 [some (.ref 127), some (.int (s_hr b n s)), none] [] 161 ((z_u2 I 127 25 (I 127 23)), J, RF w)) (fun _ => rfl) ?_
  refine z_evT (z_bo_0.mpr (fun q0 => ha (decide_eq_true ((s_hr_in h256 97 122 (by decide) (by decide) rfl rfl).mp q0).2))) ?_
  refine z_evL ?_
  refine z_evG 4 (y := z_ret (z_cl E (d + 2) 178 [.int (s_hr b n s), .int 48, .int 57] (161, ((z_u2 I 127 25 (I 127 23)), J, RF w))) 82 [some (.ref 127), some (.int (s_hr b n s)), none] []) (fun _ => rfl) ?_
  refine z_evK (v := .int (z_bo (¬ (s_hr b n s) < 48 ∧ ¬ 57 < (s_hr b n s)))) (z' := 161) (σ' := ((z_u2 I 127 25 (I 127 23)), J, RF w)) (m_in E (d + 1) (z_u2 I 127 25 (I 127 23)) J w (s_hr b n s) 48 57) ?_
  refine z_evG 1 (y := if (z_bo (¬ (s_hr b n s) < 48 ∧ ¬ 57 < (s_hr b n s))) = 0 then z_go 170 [some (.ref 127), some (.int (s_hr b n s)), none] [] 161 ((z_u2 I 127 25 (I 127 23)), J, RF w) else z_go 85 [some (.ref 127), some (.int (s_hr b n s)), none] [] 161 ((z_u2 I 127 25 (I 127 23)), J, RF w)) (fun _ => rfl) ?_
  refine z_evT (z_bo_0.mpr (fun q0 => hd (decide_eq_true ((s_hr_in h256 48 57 (by decide) (by decide) rfl rfl).mp q0).2))) ?_
  refine z_evL ?_
  refine z_evG 3 (y := if (s_hr b n s) = 40 then z_go 218 [some (.ref 127), some (.int (s_hr b n s)), none] [] 161 ((z_u2 I 127 25 (I 127 23)), J, RF w) else z_go 176 [some (.ref 127), some (.int (s_hr b n s)), none] [] 161 ((z_u2 I 127 25 (I 127 23)), J, RF w)) (fun _ => rfl) ?_
  refine z_evIN (show _ ↔ (b s) = 40 from z_eqN (if_pos hz) rfl (by omega) (by omega)) (fun h4 => ?_) (fun h4 => ?_)
  · refine z_evL ?_
    exact absurd (by simp [s_sg, h4]) hg
  · refine z_evL ?_
    refine z_evG 3 (y := if (s_hr b n s) = 41 then z_go 218 [some (.ref 127), some (.int (s_hr b n s)), none] [] 161 ((z_u2 I 127 25 (I 127 23)), J, RF w) else z_go 182 [some (.ref 127), some (.int (s_hr b n s)), none] [] 161 ((z_u2 I 127 25 (I 127 23)), J, RF w)) (fun _ => rfl) ?_
    refine z_evIN (show _ ↔ (b s) = 41 from z_eqN (if_pos hz) rfl (by omega) (by omega)) (fun h5 => ?_) (fun h5 => ?_)
    · refine z_evL ?_
      exact absurd (by simp [s_sg, h5]) hg
    · refine z_evL ?_
      refine z_evG 3 (y := if (s_hr b n s) = 59 then z_go 218 [some (.ref 127), some (.int (s_hr b n s)), none] [] 161 ((z_u2 I 127 25 (I 127 23)), J, RF w) else z_go 188 [some (.ref 127), some (.int (s_hr b n s)), none] [] 161 ((z_u2 I 127 25 (I 127 23)), J, RF w)) (fun _ => rfl) ?_
      refine z_evIN (show _ ↔ (b s) = 59 from z_eqN (if_pos hz) rfl (by omega) (by omega)) (fun h6 => ?_) (fun h6 => ?_)
      · refine z_evL ?_
        exact absurd (by simp [s_sg, h6]) hg
      · refine z_evL ?_
        refine z_evG 3 (y := if (s_hr b n s) = 43 then z_go 218 [some (.ref 127), some (.int (s_hr b n s)), none] [] 161 ((z_u2 I 127 25 (I 127 23)), J, RF w) else z_go 194 [some (.ref 127), some (.int (s_hr b n s)), none] [] 161 ((z_u2 I 127 25 (I 127 23)), J, RF w)) (fun _ => rfl) ?_
        refine z_evIN (show _ ↔ (b s) = 43 from z_eqN (if_pos hz) rfl (by omega) (by omega)) (fun h7 => ?_) (fun h7 => ?_)
        · refine z_evL ?_
          exact absurd (by simp [s_sg, h7]) hg
        · refine z_evL ?_
          refine z_evG 3 (y := if (s_hr b n s) = 45 then z_go 218 [some (.ref 127), some (.int (s_hr b n s)), none] [] 161 ((z_u2 I 127 25 (I 127 23)), J, RF w) else z_go 200 [some (.ref 127), some (.int (s_hr b n s)), none] [] 161 ((z_u2 I 127 25 (I 127 23)), J, RF w)) (fun _ => rfl) ?_
          refine z_evIN (show _ ↔ (b s) = 45 from z_eqN (if_pos hz) rfl (by omega) (by omega)) (fun h8 => ?_) (fun h8 => ?_)
          · refine z_evL ?_
            exact absurd (by simp [s_sg, h8]) hg
          · refine z_evL ?_
            refine z_evG 3 (y := if (s_hr b n s) = 42 then z_go 218 [some (.ref 127), some (.int (s_hr b n s)), none] [] 161 ((z_u2 I 127 25 (I 127 23)), J, RF w) else z_go 206 [some (.ref 127), some (.int (s_hr b n s)), none] [] 161 ((z_u2 I 127 25 (I 127 23)), J, RF w)) (fun _ => rfl) ?_
            refine z_evIN (show _ ↔ (b s) = 42 from z_eqN (if_pos hz) rfl (by omega) (by omega)) (fun h9 => ?_) (fun h9 => ?_)
            · refine z_evL ?_
              exact absurd (by simp [s_sg, h9]) hg
            · refine z_evL ?_
              refine z_evG 3 (y := if (s_hr b n s) = 60 then z_go 218 [some (.ref 127), some (.int (s_hr b n s)), none] [] 161 ((z_u2 I 127 25 (I 127 23)), J, RF w) else z_go 212 [some (.ref 127), some (.int (s_hr b n s)), none] [] 161 ((z_u2 I 127 25 (I 127 23)), J, RF w)) (fun _ => rfl) ?_
              refine z_evIN (show _ ↔ (b s) = 60 from z_eqN (if_pos hz) rfl (by omega) (by omega)) (fun h10 => ?_) (fun h10 => ?_)
              · refine z_evL ?_
                exact absurd (by simp [s_sg, h10]) hg
              · refine z_evL ?_
                refine z_evG 3 (y := if (s_hr b n s) = 61 then z_go 218 [some (.ref 127), some (.int (s_hr b n s)), none] [] 161 ((z_u2 I 127 25 (I 127 23)), J, RF w) else z_go 222 [some (.ref 127), some (.int (s_hr b n s)), none] [] 161 ((z_u2 I 127 25 (I 127 23)), J, RF w)) (fun _ => rfl) ?_
                refine z_evIN (show _ ↔ (b s) = 61 from z_eqN (if_pos hz) rfl (by omega) (by omega)) (fun h11 => ?_) (fun h11 => ?_)
                · refine z_evL ?_
                  exact absurd (by simp [s_sg, h11]) hg
                · refine z_evL ?_
                  refine z_evG 5 (y := if 0 = 0 then z_go 233 [some (.ref 127), some (.int (s_hr b n s)), some (.int 0)] [.ref 127] 161 ((z_u2 I 127 25 (I 127 23)), J, RF w) else z_go 229 [some (.ref 127), some (.int (s_hr b n s)), some (.int 0)] [.ref 127] 161 ((z_u2 I 127 25 (I 127 23)), J, RF w)) (fun _ => rfl) ?_
                  refine z_evI (fun _ => ?_) (fun q => absurd (by decide) q)
                  refine z_evL ?_
                  refine z_evG 9 (y := some (.inr (none, 161, (z_u2 (z_u2 (z_u2 I 127 25 (I 127 23)) 127 24 (-1)) 127 23 ((I 127 23) + 1)), J, RF w))) (fun _ => rfl) ?_
                  rw [show ((I 127 23) + 1 : Int32) = nI (s + 1) from (z_addE h_s rfl)]
                  rw [show (I 127 23 : Int32) = nI s from h_s]
                  exact z_evR rfl
