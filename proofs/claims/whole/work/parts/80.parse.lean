-- THE CLASS'S READER, pure
abbrev zPS := Nat × List Int32
def s_adv (b : Nat → Nat) (n : Nat) (s : zPS) : zPS := (s_en b n s.1, s.2)
def s_emt (x : Int32) (s : zPS) : zPS := (s.1, s.2 ++ [x])
def s_num (b : Nat → Nat) (n p : Nat) : Int32 := s_dec b (s_st b n p) (s_rn (s_dg b) n (s_st b n p))
def s_lop (b : Nat → Nat) (n : Nat) (op : Nat → Bool) (nx : zPS → Bool × zPS) : Nat → zPS → Bool × zPS
  | 0, s => (true, s)
  | f + 1, s => if op (s_tok b n s.1) = true then (if (nx (s_adv b n s)).1 = true then s_lop b n op nx f (s_emt (-(nI (s_tok b n s.1))) (nx (s_adv b n s)).2) else (false, (nx (s_adv b n s)).2)) else (true, s)
def s_bin (b : Nat → Nat) (n : Nat) (op : Nat → Bool) (nx : zPS → Bool × zPS) (s : zPS) : Bool × zPS :=
  if (nx s).1 = true then s_lop b n op nx 160 (nx s).2 else (false, (nx s).2)
def s_not (b : Nat → Nat) (n : Nat) (r : Bool) (nt sm : zPS → Bool × zPS) (s : zPS) : Bool × zPS :=
  if s_tok b n s.1 = 7 then if r = true then if (nt (s_adv b n s)).1 = true then (true, s_emt (-7) (nt (s_adv b n s)).2) else (false, (nt (s_adv b n s)).2) else (false, s)
  else if (sm s).1 = true then
    if s_tok b n (sm s).2.1 = 60 ∨ s_tok b n (sm s).2.1 = 61 then
      if (sm (s_adv b n (sm s).2)).1 = true then (true, s_emt (-(nI (s_tok b n (sm s).2.1))) (sm (s_adv b n (sm s).2)).2) else (false, (sm (s_adv b n (sm s).2)).2)
    else (true, (sm s).2)
  else (false, (sm s).2)
def s_one (b : Nat → Nat) (n : Nat) (r : Bool) (ex on : zPS → Bool × zPS) (s : zPS) : Bool × zPS :=
  if s_tok b n s.1 = 40 then if r = true then if (ex (s_adv b n s)).1 = true then if s_tok b n (ex (s_adv b n s)).2.1 = 41 then (true, s_adv b n (ex (s_adv b n s)).2) else (false, (ex (s_adv b n s)).2) else (false, (ex (s_adv b n s)).2) else (false, s)
  else if s_tok b n s.1 = 45 then if r = true then if (on (s_adv b n s)).1 = true then (true, s_emt (-14) (on (s_adv b n s)).2) else (false, (on (s_adv b n s)).2) else (false, s)
  else if s_tok b n s.1 = 2 then (true, s_adv b n (s_emt (s_num b n s.1) s))
  else if 8 ≤ s_tok b n s.1 ∧ s_tok b n s.1 ≤ 13 then (true, s_adv b n (s_emt (-(nI (s_tok b n s.1))) s))
  else (false, s)
def s_trm (b : Nat → Nat) (n : Nat) (on : zPS → Bool × zPS) : zPS → Bool × zPS := s_bin b n (fun t => t == 42) on
def s_sum (b : Nat → Nat) (n : Nat) (on : zPS → Bool × zPS) : zPS → Bool × zPS := s_bin b n (fun t => t == 43 || t == 45) (s_trm b n on)
def s_exp (b : Nat → Nat) (n : Nat) (nt : zPS → Bool × zPS) : zPS → Bool × zPS := s_bin b n (fun t => t == 5) (s_bin b n (fun t => t == 6) nt)
/-- E, NOT and ONE with room for f more -/
def s_lv (b : Nat → Nat) (n : Nat) : Nat → (zPS → Bool × zPS) × (zPS → Bool × zPS) × (zPS → Bool × zPS)
  | 0 => (s_exp b n (s_not b n false (fun s => (false, s)) (s_sum b n (s_one b n false (fun s => (false, s)) (fun s => (false, s))))), s_not b n false (fun s => (false, s)) (s_sum b n (s_one b n false (fun s => (false, s)) (fun s => (false, s)))), s_one b n false (fun s => (false, s)) (fun s => (false, s)))
  | f + 1 => (s_exp b n (s_not b n true (s_lv b n f).2.1 (s_sum b n (s_one b n true (s_lv b n f).1 (s_lv b n f).2.2))), s_not b n true (s_lv b n f).2.1 (s_sum b n (s_one b n true (s_lv b n f).1 (s_lv b n f).2.2)), s_one b n true (s_lv b n f).1 (s_lv b n f).2.2)
-- places
theorem s_st_ge (b : Nat → Nat) (n p : Nat) : p ≤ s_st b n p := Nat.le_add_right _ _
theorem s_en_ge (b : Nat → Nat) (n p : Nat) : s_st b n p ≤ s_en b n p := by
  unfold s_en
  split
  · exact Nat.le_refl _
  · split
    · omega
    · split <;> omega
theorem s_en_le (b : Nat → Nat) {n p : Nat} (h : p ≤ n) : s_en b n p ≤ n := by
  have hle : s_st b n p ≤ n := s_rn_le (s_bl b) (n := n) (p := p) h
  unfold s_en
  split
  · exact hle
  · split
    · exact s_rn_le _ hle
    · split
      · exact s_rn_le _ hle
      · omega
theorem s_en_gt {b : Nat → Nat} {n p : Nat} (h : s_tok b n p ≠ 0) : s_st b n p < n ∧ s_st b n p < s_en b n p := by
  unfold s_tok at h
  unfold s_en
  by_cases hz : n ≤ s_st b n p
  · rw [if_pos hz] at h; exact absurd rfl h
  · rw [if_neg hz]
    refine ⟨by omega, ?_⟩
    split
    · rename_i q; have := s_rn_pos (n := n) (by omega) q; omega
    · split
      · rename_i q; have := s_rn_pos (n := n) (by omega) q; omega
      · omega
theorem s_tok_lt {b : Nat → Nat} {n : Nat} (h : ∀ k, k < n → b k < 256) (p : Nat) : s_tok b n p < 256 := by
  unfold s_tok
  split
  · decide
  · split
    · split <;> decide
    · split
      · cases q : s_first (s_isw b (s_st b n p) (s_st b n p + s_rn (s_al b) n (s_st b n p))) 11 with
        | none => decide
        | some k => have := (s_first_some q).1; show 3 + k < 256; omega
      · split
        · exact h _ (by omega)
        · decide
theorem s_nu_num {b : Nat → Nat} {n p : Nat} (x : Int32) (h : s_tok b n p = 2) : s_nu b n p x = s_num b n p := by
  unfold s_tok at h
  unfold s_nu
  by_cases hz : n ≤ s_st b n p
  · rw [if_pos hz] at h; cases h
  · rw [if_neg hz] at h ⊢
    by_cases hd : s_dg b (s_st b n p) = true
    · rw [if_pos hd]; rfl
    · rw [if_neg hd] at h
      exfalso
      by_cases ha : s_al b (s_st b n p) = true
      · rw [if_pos ha] at h
        revert h
        cases s_first (s_isw b (s_st b n p) (s_st b n p + s_rn (s_al b) n (s_st b n p))) 11 with
        | none => intro h; cases h
        | some k => intro h; change 3 + k = 2 at h; omega
      · rw [if_neg ha] at h
        by_cases hg : s_sg (b (s_st b n p)) = true
        · rw [if_pos hg] at h; rw [h] at hg; cases hg
        · rw [if_neg hg] at h; cases h
/-- the class's reader at place p with code C -/
def s_CS (I0 I : Nat → Nat → Int32) (b : Nat → Nat) (n p : Nat) (C : List Int32) : Prop := (I 76 1 = nI n) ∧ (n ≤ 160) ∧ (∀ k, k < n → I 77 k = nI (b k) ∧ b k < 256) ∧ (I 76 2 = nI (s_tok b n p)) ∧ (I 76 3 = nI (s_st b n p)) ∧ (I 76 4 = nI (s_en b n p)) ∧ (s_tok b n p = 2 → I 76 5 = s_num b n p) ∧ (I 76 7 = nI C.length) ∧ (∀ k, k < C.length → I 78 k = C.getD k 0) ∧ (∀ a k, ¬ ((a = 76 ∧ (k = 2 ∨ k = 3 ∨ k = 4 ∨ k = 5 ∨ k = 7)) ∨ a = 78) → I a k = I0 a k)
theorem s_CS.n {I0 I : Nat → Nat → Int32} {b : Nat → Nat} {n p : Nat} {C : List Int32} (h : s_CS I0 I b n p C) : I 76 1 = nI n := h.1
theorem s_CS.m {I0 I : Nat → Nat → Int32} {b : Nat → Nat} {n p : Nat} {C : List Int32} (h : s_CS I0 I b n p C) : n ≤ 160 := h.2.1
theorem s_CS.b {I0 I : Nat → Nat → Int32} {b : Nat → Nat} {n p : Nat} {C : List Int32} (h : s_CS I0 I b n p C) : ∀ k, k < n → I 77 k = nI (b k) ∧ b k < 256 := h.2.2.1
theorem s_CS.tok {I0 I : Nat → Nat → Int32} {b : Nat → Nat} {n p : Nat} {C : List Int32} (h : s_CS I0 I b n p C) : I 76 2 = nI (s_tok b n p) := h.2.2.2.1
theorem s_CS.st {I0 I : Nat → Nat → Int32} {b : Nat → Nat} {n p : Nat} {C : List Int32} (h : s_CS I0 I b n p C) : I 76 3 = nI (s_st b n p) := h.2.2.2.2.1
theorem s_CS.en {I0 I : Nat → Nat → Int32} {b : Nat → Nat} {n p : Nat} {C : List Int32} (h : s_CS I0 I b n p C) : I 76 4 = nI (s_en b n p) := h.2.2.2.2.2.1
theorem s_CS.nu {I0 I : Nat → Nat → Int32} {b : Nat → Nat} {n p : Nat} {C : List Int32} (h : s_CS I0 I b n p C) : s_tok b n p = 2 → I 76 5 = s_num b n p := h.2.2.2.2.2.2.1
theorem s_CS.cs {I0 I : Nat → Nat → Int32} {b : Nat → Nat} {n p : Nat} {C : List Int32} (h : s_CS I0 I b n p C) : I 76 7 = nI C.length := h.2.2.2.2.2.2.2.1
theorem s_CS.cd {I0 I : Nat → Nat → Int32} {b : Nat → Nat} {n p : Nat} {C : List Int32} (h : s_CS I0 I b n p C) : ∀ k, k < C.length → I 78 k = C.getD k 0 := h.2.2.2.2.2.2.2.2.1
theorem s_CS.same {I0 I : Nat → Nat → Int32} {b : Nat → Nat} {n p : Nat} {C : List Int32} (h : s_CS I0 I b n p C) : ∀ a k, ¬ ((a = 76 ∧ (k = 2 ∨ k = 3 ∨ k = 4 ∨ k = 5 ∨ k = 7)) ∨ a = 78) → I a k = I0 a k := h.2.2.2.2.2.2.2.2.2
theorem s_CS.mk {I0 I : Nat → Nat → Int32} {b : Nat → Nat} {n p : Nat} {C : List Int32} (n_ : I 76 1 = nI n) (m_ : n ≤ 160) (b_ : ∀ k, k < n → I 77 k = nI (b k) ∧ b k < 256) (tok_ : I 76 2 = nI (s_tok b n p)) (st_ : I 76 3 = nI (s_st b n p)) (en_ : I 76 4 = nI (s_en b n p)) (nu_ : s_tok b n p = 2 → I 76 5 = s_num b n p) (cs_ : I 76 7 = nI C.length) (cd_ : ∀ k, k < C.length → I 78 k = C.getD k 0) (same_ : ∀ a k, ¬ ((a = 76 ∧ (k = 2 ∨ k = 3 ∨ k = 4 ∨ k = 5 ∨ k = 7)) ∨ a = 78) → I a k = I0 a k) : s_CS I0 I b n p C := ⟨n_, m_, b_, tok_, st_, en_, nu_, cs_, cd_, same_⟩
theorem z_stp_same {I : Nat → Nat → Int32} {st en nu tk : Int32} {a k : Nat} (h : ¬ ((a = 76 ∧ (k = 2 ∨ k = 3 ∨ k = 4 ∨ k = 5 ∨ k = 7)) ∨ a = 78)) : s_stp I st en nu tk a k = I a k := by
  unfold s_stp
  by_cases hc : a = 76
  · rw [if_pos hc, if_neg (fun q => h (.inl ⟨hc, .inl q⟩)), if_neg (fun q => h (.inl ⟨hc, .inr (.inl q)⟩)), if_neg (fun q => h (.inl ⟨hc, .inr (.inr (.inl q))⟩)), if_neg (fun q => h (.inl ⟨hc, .inr (.inr (.inr (.inl q)))⟩))]
  · rw [if_neg hc]
theorem x_stepQ (E : zE) (d : Nat) {I0 I : Nat → Nat → Int32} (J : Nat → Nat → Int64) (w : Nat) {b : Nat → Nat} {n p : Nat} {C : List Int32} (h : s_CS I0 I b n p C) (hp : p ≤ n) : ∃ I', z_cl E (d + 7) 74 [.ref 76] (161, I, J, RF w) = some (none, 161, I', J, RF w) ∧ s_CS I0 I' b n (s_en b n p) C :=
  ⟨_, x_step E d I J w b n (s_en b n p) h.n h.m h.b h.en (s_en_le b hp),
    (s_CS.mk (n_ := h.n) (m_ := h.m) (b_ := h.b) (tok_ := rfl) (st_ := rfl) (en_ := rfl) (nu_ := fun q => s_nu_num _ q) (cs_ := h.cs) (cd_ := h.cd) (same_ := fun a k q => (z_stp_same q).trans (h.same a k q)))⟩
/-- step from a store where nothing is ahead yet -/
theorem x_step0 (E : zE) (d : Nat) {I : Nat → Nat → Int32} (J : Nat → Nat → Int64) (w : Nat) {b : Nat → Nat} {n : Nat} (hn : I 76 1 = nI n) (hm : n ≤ 160) (hb : ∀ k, k < n → I 77 k = nI (b k) ∧ b k < 256) (he : I 76 4 = 0) (hc : I 76 7 = 0) : ∃ I', z_cl E (d + 7) 74 [.ref 76] (161, I, J, RF w) = some (none, 161, I', J, RF w) ∧ s_CS I I' b n 0 [] :=
  ⟨_, x_step E d I J w b n 0 hn hm hb he (Nat.zero_le _),
    (s_CS.mk (n_ := hn) (m_ := hm) (b_ := hb) (tok_ := rfl) (st_ := rfl) (en_ := rfl) (nu_ := fun q => s_nu_num _ q) (cs_ := hc) (cd_ := fun k q => absurd q (Nat.not_lt_zero _)) (same_ := fun a k q => z_stp_same q))⟩
set_option maxRecDepth 20000 in
/-- LampHouse$Reader.emit -/
theorem x_emit (E : zE) (d : Nat) (I : Nat → Nat → Int32) (J : Nat → Nat → Int64) (w : Nat) (x : Int32) (m : Nat) (h_m : I 76 7 = nI m) (hm : m < 160) : z_cl E (d + 1) 66 [.ref 76, .int x] (161, I, J, RF w) = some (none, 161, (z_u2 (z_u2 I 78 m x) 76 7 (nI (m + 1))), J, RF w) := by
  refine z_call (d := d + 0) (M := z_m66) rfl rfl ?_
  refine z_evG 6 (y := if (I 76 7) < 160 then z_go 12 [some (.ref 76), some (.int x)] [] 161 (I, J, RF w) else z_go 32 [some (.ref 76), some (.int x)] [] 161 (I, J, RF w)) (fun _ => rfl) ?_
  refine z_evT (((show _ ↔ m < 160 from z_ltN h_m rfl (by omega) (by omega)).mpr (by omega))) ?_
  refine z_evL ?_
  refine z_evG 6 (y := z_ck (z_in (I 76 7) 160) (z_go 22 [some (.ref 76), some (.int x)] [] 161 ((z_u2 I 78 ((I 76 7).toNatClampNeg) x), J, RF w))) (fun _ => rfl) ?_
  refine z_evC (z_inN (k := m) h_m (by omega) (by decide)) ?_
  refine z_evL ?_
  rw [show ((I 76 7 : Int32)).toNatClampNeg = m from z_natE h_m (by omega)]
  refine z_evG 7 (y := some (.inr (none, 161, (z_u2 (z_u2 I 78 m x) 76 7 ((I 76 7) + 1)), J, RF w))) (fun _ => rfl) ?_
  rw [show ((I 76 7) + 1 : Int32) = nI (m + 1) from (z_addE h_m rfl)]
  exact z_evR rfl
theorem z_getD_app {C : List Int32} {x : Int32} {k : Nat} (h : k < C.length) : (C ++ [x]).getD k 0 = C.getD k 0 := by
  rw [List.getD_eq_getElem?_getD, List.getD_eq_getElem?_getD, List.getElem?_append_left h]
theorem z_getD_new {C : List Int32} {x : Int32} : (C ++ [x]).getD C.length 0 = x := by
  rw [List.getD_eq_getElem?_getD, List.getElem?_append_right (Nat.le_refl _), Nat.sub_self]; rfl
theorem x_emitQ (E : zE) (d : Nat) {I0 I : Nat → Nat → Int32} (J : Nat → Nat → Int64) (w : Nat) {b : Nat → Nat} {n p : Nat} {C : List Int32} (x : Int32) (h : s_CS I0 I b n p C) (hC : C.length < 160) : ∃ I', z_cl E (d + 1) 66 [.ref 76, .int x] (161, I, J, RF w) = some (none, 161, I', J, RF w) ∧ s_CS I0 I' b n p (C ++ [x]) := by
  refine ⟨_, x_emit E d I J w x C.length h.cs hC, ?_⟩
  refine (s_CS.mk (n_ := h.n) (m_ := h.m) (b_ := h.b) (tok_ := h.tok) (st_ := h.st) (en_ := h.en) (nu_ := h.nu) (cs_ := ?_) (cd_ := ?_) (same_ := ?_))
  · rw [List.length_append]; rfl
  · intro k hk
    rw [List.length_append] at hk
    change k < C.length + 1 at hk
    by_cases q : k = C.length
    · subst q
      rw [z_getD_new]
      show z_u2 I 78 C.length x 78 C.length = x
      exact z_u2_same I 78 C.length x
    · rw [z_getD_app (by omega), ← h.cd k (by omega)]
      show z_u2 I 78 C.length x 78 k = I 78 k
      exact z_u2_n I x (fun r => q r.2)
  · intro a k q
    rw [z_u2_n _ _ (fun r => q (.inl ⟨r.1, .inr (.inr (.inr (.inr r.2)))⟩)), z_u2_n _ _ (fun r => q (.inr r.1))]
    exact h.same a k q
