-- NOT and ONE by the class
theorem s_not1 {b : Nat → Nat} {n p p' : Nat} {C C' : List Int32} {nt sm : zPS → Bool × zPS} (h : s_tok b n p = 7) (e : nt (s_en b n p, C) = (true, (p', C'))) : s_not b n true nt sm (p, C) = (true, (p', C' ++ [-7])) := by simp [s_not, s_adv, s_emt, h, e]
theorem s_not2 {b : Nat → Nat} {n p : Nat} {C : List Int32} {s : zPS} {nt sm : zPS → Bool × zPS} (h : s_tok b n p = 7) (e : nt (s_en b n p, C) = (false, s)) : s_not b n true nt sm (p, C) = (false, s) := by simp [s_not, s_adv, h, e]
theorem s_not3 {b : Nat → Nat} {n p : Nat} {C : List Int32} {nt sm : zPS → Bool × zPS} (h : s_tok b n p = 7) : s_not b n false nt sm (p, C) = (false, (p, C)) := by simp [s_not, h]
theorem s_not4 {b : Nat → Nat} {n p : Nat} {r : Bool} {C : List Int32} {s : zPS} {nt sm : zPS → Bool × zPS} (h : ¬ s_tok b n p = 7) (e : sm (p, C) = (false, s)) : s_not b n r nt sm (p, C) = (false, s) := by simp [s_not, h, e]
theorem s_not5 {b : Nat → Nat} {n p p1 : Nat} {r : Bool} {C C1 : List Int32} {nt sm : zPS → Bool × zPS} (h : ¬ s_tok b n p = 7) (e : sm (p, C) = (true, (p1, C1))) (h1 : ¬ s_tok b n p1 = 60) (h2 : ¬ s_tok b n p1 = 61) : s_not b n r nt sm (p, C) = (true, (p1, C1)) := by simp [s_not, h, e, h1, h2]
theorem s_not6 {b : Nat → Nat} {n p p1 : Nat} {r : Bool} {C C1 : List Int32} {s : zPS} {nt sm : zPS → Bool × zPS} (h : ¬ s_tok b n p = 7) (e : sm (p, C) = (true, (p1, C1))) (h1 : s_tok b n p1 = 60 ∨ s_tok b n p1 = 61) (e2 : sm (s_en b n p1, C1) = (false, s)) : s_not b n r nt sm (p, C) = (false, s) := by
  unfold s_not s_adv
  rw [if_neg (show ¬ s_tok b n (p, C).1 = 7 from h), e, if_pos rfl, if_pos h1, e2]
  rfl
theorem s_not7 {b : Nat → Nat} {n p p1 p2 : Nat} {r : Bool} {C C1 C2 : List Int32} {nt sm : zPS → Bool × zPS} (h : ¬ s_tok b n p = 7) (e : sm (p, C) = (true, (p1, C1))) (h1 : s_tok b n p1 = 60 ∨ s_tok b n p1 = 61) (e2 : sm (s_en b n p1, C1) = (true, (p2, C2))) : s_not b n r nt sm (p, C) = (true, (p2, C2 ++ [-(nI (s_tok b n p1))])) := by
  unfold s_not s_adv
  rw [if_neg (show ¬ s_tok b n (p, C).1 = 7 from h), e, if_pos rfl, if_pos h1, e2]
  rfl
theorem s_one1 {b : Nat → Nat} {n p p1 : Nat} {C C1 : List Int32} {ex on : zPS → Bool × zPS} (h : s_tok b n p = 40) (e : ex (s_en b n p, C) = (true, (p1, C1))) (h1 : s_tok b n p1 = 41) : s_one b n true ex on (p, C) = (true, (s_en b n p1, C1)) := by simp [s_one, s_adv, h, e, h1]
theorem s_one2 {b : Nat → Nat} {n p p1 : Nat} {C C1 : List Int32} {ex on : zPS → Bool × zPS} (h : s_tok b n p = 40) (e : ex (s_en b n p, C) = (true, (p1, C1))) (h1 : ¬ s_tok b n p1 = 41) : s_one b n true ex on (p, C) = (false, (p1, C1)) := by simp [s_one, s_adv, h, e, h1]
theorem s_one3 {b : Nat → Nat} {n p : Nat} {C : List Int32} {s : zPS} {ex on : zPS → Bool × zPS} (h : s_tok b n p = 40) (e : ex (s_en b n p, C) = (false, s)) : s_one b n true ex on (p, C) = (false, s) := by simp [s_one, s_adv, h, e]
theorem s_one4 {b : Nat → Nat} {n p : Nat} {C : List Int32} {ex on : zPS → Bool × zPS} (h : s_tok b n p = 40) : s_one b n false ex on (p, C) = (false, (p, C)) := by simp [s_one, h]
theorem s_one5 {b : Nat → Nat} {n p p1 : Nat} {C C1 : List Int32} {ex on : zPS → Bool × zPS} (h : s_tok b n p = 45) (e : on (s_en b n p, C) = (true, (p1, C1))) : s_one b n true ex on (p, C) = (true, (p1, C1 ++ [-14])) := by simp [s_one, s_adv, s_emt, h, e]
theorem s_one6 {b : Nat → Nat} {n p : Nat} {C : List Int32} {s : zPS} {ex on : zPS → Bool × zPS} (h : s_tok b n p = 45) (e : on (s_en b n p, C) = (false, s)) : s_one b n true ex on (p, C) = (false, s) := by simp [s_one, s_adv, h, e]
theorem s_one7 {b : Nat → Nat} {n p : Nat} {C : List Int32} {ex on : zPS → Bool × zPS} (h : s_tok b n p = 45) : s_one b n false ex on (p, C) = (false, (p, C)) := by simp [s_one, h]
theorem s_one8 {b : Nat → Nat} {n p : Nat} {r : Bool} {C : List Int32} {ex on : zPS → Bool × zPS} (h : s_tok b n p = 2) : s_one b n r ex on (p, C) = (true, (s_en b n p, C ++ [s_num b n p])) := by simp [s_one, s_adv, s_emt, h]
theorem s_one9 {b : Nat → Nat} {n p : Nat} {r : Bool} {C : List Int32} {ex on : zPS → Bool × zPS} (h : 8 ≤ s_tok b n p) (h' : s_tok b n p ≤ 13) : s_one b n r ex on (p, C) = (true, (s_en b n p, C ++ [-(nI (s_tok b n p))])) := by
  unfold s_one
  rw [if_neg (show ¬ s_tok b n (p, C).1 = 40 by show ¬ s_tok b n p = 40; omega), if_neg (show ¬ s_tok b n (p, C).1 = 45 by show ¬ s_tok b n p = 45; omega), if_neg (show ¬ s_tok b n (p, C).1 = 2 by show ¬ s_tok b n p = 2; omega), if_pos (show 8 ≤ s_tok b n (p, C).1 ∧ s_tok b n (p, C).1 ≤ 13 from ⟨h, h'⟩)]
  rfl
theorem s_one10 {b : Nat → Nat} {n p : Nat} {r : Bool} {C : List Int32} {ex on : zPS → Bool × zPS} (h1 : ¬ s_tok b n p = 40) (h2 : ¬ s_tok b n p = 45) (h3 : ¬ s_tok b n p = 2) (h4 : ¬ (8 ≤ s_tok b n p ∧ s_tok b n p ≤ 13)) : s_one b n r ex on (p, C) = (false, (p, C)) := by
  unfold s_one
  rw [if_neg (show ¬ s_tok b n (p, C).1 = 40 from h1), if_neg (show ¬ s_tok b n (p, C).1 = 45 from h2), if_neg (show ¬ s_tok b n (p, C).1 = 2 from h3), if_neg (show ¬ (8 ≤ s_tok b n (p, C).1 ∧ s_tok b n (p, C).1 ≤ 13) from h4)]
theorem z_isName {x : Int32} {v : Nat} (e : x = nI v) (h : v < 256) : (¬ x < 8 ∧ ¬ 13 < x) ↔ (8 ≤ v ∧ v ≤ 13) := by
  rw [show (x < 8) ↔ v < 8 from z_ltN e rfl (by omega) (by decide), show (13 < x) ↔ 13 < v from z_ltN rfl e (by decide) (by omega)]
  omega
set_option maxRecDepth 20000 in
theorem x_opensQ (E : zE) (d : Nat) {I0 I : Nat → Nat → Int32} (J : Nat → Nat → Int64) (w : Nat) {b : Nat → Nat} {n p : Nat} {C : List Int32} (h : s_CS I0 I b n p C) (hp : p ≤ n) (o : Nat) (ho : o < 5) : ∃ I', z_cl E (d + 8) 73 [.ref 76, .int (nI o)] (161, I, J, RF w) = some (some (.int 1), 161, I', J, RF w) ∧ s_CS I0 I' b n (s_en b n p) C := by
  have key : ∃ r, z_cl E (d + 8) 73 [.ref 76, .int (nI o)] (161, I, J, RF w) = some r ∧ ∃ I', r = (some (.int 1), 161, I', J, RF w) ∧ s_CS I0 I' b n (s_en b n p) C := by
    refine z_callQ (d := d + 7) (M := z_m73) rfl rfl ?_
    refine z_qG 3 (y := if (nI o) < 5 then z_go 7 [some (.ref 76), some (.int (nI o))] [] 161 (I, J, RF w) else z_go 5 [some (.ref 76), some (.int (nI o))] [] 161 (I, J, RF w)) (fun _ => rfl) ?_
    refine z_qT ((show _ ↔ o < 5 from z_ltN rfl rfl (by omega) (by decide)).mpr ho) ?_
    refine z_qL ?_
    refine z_qG 2 (y := z_ret (z_cl E (d + 7) 74 [.ref 76] (161, (I, J, RF w))) 11 [some (.ref 76), some (.int (nI o))] []) (fun _ => rfl) ?_
    obtain ⟨I20, e20, c20⟩ := x_stepQ E d J w h hp
    refine z_qV (z' := 161) (σ' := (I20, J, RF w)) e20 ?_
    refine z_qG 2 (y := some (.inr (some (.int 1), 161, I20, J, RF w))) (fun _ => rfl) ?_
    exact z_qR ⟨_, rfl, c20⟩
  obtain ⟨r, e, I', q, c⟩ := key
  exact ⟨I', by rw [e, q], c⟩
set_option maxRecDepth 20000 in
theorem x_skipQ (E : zE) (d : Nat) {I0 I : Nat → Nat → Int32} (J : Nat → Nat → Int64) (w : Nat) {b : Nat → Nat} {n p : Nat} {C : List Int32} (h : s_CS I0 I b n p C) (hp : p ≤ n) (t : Nat) (ht : t < 256) (h256 : ∀ k, k < n → b k < 256) (hT : s_tok b n p = t) : ∃ I', z_cl E (d + 8) 65 [.ref 76, .int (nI t)] (161, I, J, RF w) = some (some (.int 1), 161, I', J, RF w) ∧ s_CS I0 I' b n (s_en b n p) C := by
  have key : ∃ r, z_cl E (d + 8) 65 [.ref 76, .int (nI t)] (161, I, J, RF w) = some r ∧ ∃ I', r = (some (.int 1), 161, I', J, RF w) ∧ s_CS I0 I' b n (s_en b n p) C := by
    refine z_callQ (d := d + 7) (M := z_m65) rfl rfl ?_
    refine z_qG 4 (y := if (I 76 2) = (nI t) then z_go 10 [some (.ref 76), some (.int (nI t))] [] 161 (I, J, RF w) else z_go 8 [some (.ref 76), some (.int (nI t))] [] 161 (I, J, RF w)) (fun _ => rfl) ?_
    refine z_qT ((z_eqN h.tok rfl (by have := s_tok_lt h256 p; omega) (by omega)).mpr hT) ?_
    refine z_qL ?_
    refine z_qG 2 (y := z_ret (z_cl E (d + 7) 74 [.ref 76] (161, (I, J, RF w))) 14 [some (.ref 76), some (.int (nI t))] []) (fun _ => rfl) ?_
    obtain ⟨I21, e21, c21⟩ := x_stepQ E d J w h hp
    refine z_qV (z' := 161) (σ' := (I21, J, RF w)) e21 ?_
    refine z_qG 2 (y := some (.inr (some (.int 1), 161, I21, J, RF w))) (fun _ => rfl) ?_
    exact z_qR ⟨_, rfl, c21⟩
  obtain ⟨r, e, I', q, c⟩ := key
  exact ⟨I', by rw [e, q], c⟩
set_option maxRecDepth 20000 in
/-- LampHouse$Reader.opens -/
theorem x_opensN (E : zE) (d : Nat) (I : Nat → Nat → Int32) (J : Nat → Nat → Int64) (w : Nat) : z_cl E (d + 8) 73 [.ref 76, .int 5] (161, I, J, RF w) = some (some (.int 0), 161, I, J, RF w) := by
  refine z_call (d := d + 7) (M := z_m73) rfl rfl ?_
  refine z_evG 3 (y := if 5 < 5 then z_go 7 [some (.ref 76), some (.int 5)] [] 161 (I, J, RF w) else z_go 5 [some (.ref 76), some (.int 5)] [] 161 (I, J, RF w)) (fun _ => rfl) ?_
  refine z_evI (fun q => absurd q (by decide)) (fun _ => ?_)
  refine z_evL ?_
  refine z_evG 2 (y := some (.inr (some (.int 0), 161, I, J, RF w))) (fun _ => rfl) ?_
  exact z_evR rfl
set_option maxRecDepth 20000 in
/-- LampHouse$Reader.skip -/
theorem x_skipN (E : zE) (d : Nat) (I : Nat → Nat → Int32) (J : Nat → Nat → Int64) (w : Nat) (x : Int32) (hT : ¬ I 76 2 = x) : z_cl E (d + 8) 65 [.ref 76, .int x] (161, I, J, RF w) = some (some (.int 0), 161, I, J, RF w) := by
  refine z_call (d := d + 7) (M := z_m65) rfl rfl ?_
  refine z_evG 4 (y := if (I 76 2) = x then z_go 10 [some (.ref 76), some (.int x)] [] 161 (I, J, RF w) else z_go 8 [some (.ref 76), some (.int x)] [] 161 (I, J, RF w)) (fun _ => rfl) ?_
  refine z_evF hT ?_
  refine z_evL ?_
  refine z_evG 2 (y := some (.inr (some (.int 0), 161, I, J, RF w))) (fun _ => rfl) ?_
  exact z_evR rfl
set_option maxRecDepth 20000 in
theorem x_readNot_r (E : zE) (d o : Nat) (J : Nat → Nat → Int64) (w : Nat) (b : Nat → Nat) (n : Nat) (nt sm : zPS → Bool × zPS) (hS : s_rd E (d + 8) 70 o J w b n sm) (gS : s_gd n sm) (hN : s_rd E (d + 8) 69 (o + 1) J w b n nt) (gN : s_gd n nt) (ho : o < 5) (h256 : ∀ k, k < n → b k < 256) (hn : n ≤ 160) : s_rd E (d + 9) 69 o J w b n (s_not b n true nt sm) := by
  refine s_rd_of ?_
  intro I0 I p C c hp hl
  have ht := s_tok_lt h256 p
  refine z_callQ (d := d + 8) (M := z_m69) rfl rfl ?_
  refine z_qG 4 (y := if (I 76 2) = 7 then z_go 9 [some (.ref 76), some (.int (nI o)), none] [] 161 (I, J, RF w) else z_go 37 [some (.ref 76), some (.int (nI o)), none] [] 161 (I, J, RF w)) (fun _ => rfl) ?_
  refine z_qIN (show _ ↔ (s_tok b n p) = 7 from z_eqN c.tok rfl (by omega) (by omega)) (fun h1 => ?_) (fun h1 => ?_)
  · refine z_qL ?_
    refine z_qG 3 (y := z_ret (z_cl E (d + 8) 73 [.ref 76, .int (nI o)] (161, (I, J, RF w))) 14 [some (.ref 76), some (.int (nI o)), none] []) (fun _ => rfl) ?_
    have hT := h1
    have hgt := s_en_gt (b := b) (n := n) (p := p) (by rw [hT]; decide)
    have hge := s_st_ge b n p
    obtain ⟨I22, e22, c22⟩ := x_opensQ E d J w c hp o ho
    have hp22 := s_en_le b (n := n) hp
    have hl22 : C.length ≤ s_en b n p := by omega
    have ht22 := s_tok_lt h256 (s_en b n p)
    refine z_qK (v := .int 1) (z' := 161) (σ' := (I22, J, RF w)) e22 ?_
    refine z_qG 1 (y := if 1 = 0 then z_go 27 [some (.ref 76), some (.int (nI o)), none] [] 161 (I22, J, RF w) else z_go 17 [some (.ref 76), some (.int (nI o)), none] [] 161 (I22, J, RF w)) (fun _ => rfl) ?_
    refine z_qI (fun q => absurd q (by decide)) (fun _ => ?_)
    refine z_qL ?_
    refine z_qG 5 (y := z_ret (z_cl E (d + 8) 69 [.ref 76, .int ((nI o) + 1)] (161, (I22, J, RF w))) 24 [some (.ref 76), some (.int (nI o)), none] []) (fun _ => rfl) ?_
    rw [nI_1 o]
    obtain ⟨I23, e23, c23⟩ := hN _ I22 (s_en b n p) C c22 hp22 hl22
    have g23 := gN (s_en b n p, C) hp22
    rcases r23 : nt (s_en b n p, C) with ⟨ok23, p23, C23⟩
    rw [r23] at e23 c23 g23
    obtain ⟨ga23, gb23, gc23⟩ := g23
    simp only at e23 c23 ga23 gb23 gc23
    have hp23 : p23 ≤ n := gb23
    have hl23 : C23.length ≤ p23 := by have := hl22; omega
    have ht23 := s_tok_lt h256 p23
    cases ok23
    · skip
      refine z_qK (v := .int 0) (z' := 161) (σ' := (I23, J, RF w)) e23 ?_
      refine z_qG 1 (y := if 0 = 0 then z_go 27 [some (.ref 76), some (.int (nI o)), none] [] 161 (I23, J, RF w) else z_go 29 [some (.ref 76), some (.int (nI o)), none] [] 161 (I23, J, RF w)) (fun _ => rfl) ?_
      refine z_qI (fun _ => ?_) (fun q => absurd (by decide) q)
      refine z_qL ?_
      refine z_qG 2 (y := some (.inr (some (.int 0), 161, I23, J, RF w))) (fun _ => rfl) ?_
      exact z_qR (s_Q_mk (s_not2 hT r23) rfl c23)
    · skip
      refine z_qK (v := .int 1) (z' := 161) (σ' := (I23, J, RF w)) e23 ?_
      refine z_qG 1 (y := if 1 = 0 then z_go 27 [some (.ref 76), some (.int (nI o)), none] [] 161 (I23, J, RF w) else z_go 29 [some (.ref 76), some (.int (nI o)), none] [] 161 (I23, J, RF w)) (fun _ => rfl) ?_
      refine z_qI (fun q => absurd q (by decide)) (fun _ => ?_)
      refine z_qL ?_
      refine z_qG 3 (y := z_ret (z_cl E (d + 8) 66 [.ref 76, .int (-7)] (161, (I23, J, RF w))) 35 [some (.ref 76), some (.int (nI o)), none] []) (fun _ => rfl) ?_
      obtain ⟨I24, e24, c24⟩ := x_emitQ E (d + 7) J w (-7) c23 (by omega)
      have hl24 : (C23 ++ [(-7)]).length ≤ p23 := by rw [List.length_append]; show C23.length + 1 ≤ _; omega
      refine z_qV (z' := 161) (σ' := (I24, J, RF w)) e24 ?_
      refine z_qG 2 (y := some (.inr (some (.int 1), 161, I24, J, RF w))) (fun _ => rfl) ?_
      exact z_qR (s_Q_mk (s_not1 hT r23) rfl c24)
  · refine z_qL ?_
    refine z_qG 3 (y := z_ret (z_cl E (d + 8) 70 [.ref 76, .int (nI o)] (161, (I, J, RF w))) 42 [some (.ref 76), some (.int (nI o)), none] []) (fun _ => rfl) ?_
    obtain ⟨I25, e25, c25⟩ := hS _ I p C c hp hl
    have g25 := gS (p, C) hp
    rcases r25 : sm (p, C) with ⟨ok25, p25, C25⟩
    rw [r25] at e25 c25 g25
    obtain ⟨ga25, gb25, gc25⟩ := g25
    simp only at e25 c25 ga25 gb25 gc25
    have hp25 : p25 ≤ n := gb25
    have hl25 : C25.length ≤ p25 := by have := hl; omega
    have ht25 := s_tok_lt h256 p25
    cases ok25
    · skip
      refine z_qK (v := .int 0) (z' := 161) (σ' := (I25, J, RF w)) e25 ?_
      refine z_qG 1 (y := if 0 = 0 then z_go 45 [some (.ref 76), some (.int (nI o)), none] [] 161 (I25, J, RF w) else z_go 47 [some (.ref 76), some (.int (nI o)), none] [] 161 (I25, J, RF w)) (fun _ => rfl) ?_
      refine z_qI (fun _ => ?_) (fun q => absurd (by decide) q)
      refine z_qL ?_
      refine z_qG 2 (y := some (.inr (some (.int 0), 161, I25, J, RF w))) (fun _ => rfl) ?_
      exact z_qR (s_Q_mk (s_not4 h1 r25) rfl c25)
    · skip
      refine z_qK (v := .int 1) (z' := 161) (σ' := (I25, J, RF w)) e25 ?_
      refine z_qG 1 (y := if 1 = 0 then z_go 45 [some (.ref 76), some (.int (nI o)), none] [] 161 (I25, J, RF w) else z_go 47 [some (.ref 76), some (.int (nI o)), none] [] 161 (I25, J, RF w)) (fun _ => rfl) ?_
      refine z_qI (fun q => absurd q (by decide)) (fun _ => ?_)
      refine z_qL ?_
      refine z_qG 4 (y := if (I25 76 2) = 60 then z_go 67 [some (.ref 76), some (.int (nI o)), none] [] 161 (I25, J, RF w) else z_go 56 [some (.ref 76), some (.int (nI o)), none] [] 161 (I25, J, RF w)) (fun _ => rfl) ?_
      refine z_qIN (show _ ↔ (s_tok b n p25) = 60 from z_eqN c25.tok rfl (by omega) (by omega)) (fun h7 => ?_) (fun h7 => ?_)
      · refine z_qL ?_
        refine z_qG 5 (y := z_ret (z_cl E (d + 8) 74 [.ref 76] (161, (I25, J, RF w))) 76 [some (.ref 76), some (.int (nI o)), some (.int (I25 76 2))] []) (fun _ => rfl) ?_
        have hT := h7
        have hgt := s_en_gt (b := b) (n := n) (p := p25) (by rw [hT]; decide)
        have hge := s_st_ge b n p25
        obtain ⟨I26, e26, c26⟩ := x_stepQ E (d + 1) J w c25 hp25
        have hp26 := s_en_le b (n := n) hp25
        have hl26 : C25.length ≤ s_en b n p25 := Nat.le_trans hl25 (Nat.le_trans (s_st_ge b n p25) (s_en_ge b n p25))
        have ht26 := s_tok_lt h256 (s_en b n p25)
        refine z_qV (z' := 161) (σ' := (I26, J, RF w)) e26 ?_
        refine z_qG 3 (y := z_ret (z_cl E (d + 8) 70 [.ref 76, .int (nI o)] (161, (I26, J, RF w))) 81 [some (.ref 76), some (.int (nI o)), some (.int (I25 76 2))] []) (fun _ => rfl) ?_
        obtain ⟨I27, e27, c27⟩ := hS _ I26 (s_en b n p25) C25 c26 hp26 hl26
        have g27 := gS (s_en b n p25, C25) hp26
        rcases r27 : sm (s_en b n p25, C25) with ⟨ok27, p27, C27⟩
        rw [r27] at e27 c27 g27
        obtain ⟨ga27, gb27, gc27⟩ := g27
        simp only at e27 c27 ga27 gb27 gc27
        have hp27 : p27 ≤ n := gb27
        have hl27 : C27.length ≤ p27 := by have := hl26; omega
        have ht27 := s_tok_lt h256 p27
        cases ok27
        · skip
          refine z_qK (v := .int 0) (z' := 161) (σ' := (I27, J, RF w)) e27 ?_
          refine z_qG 1 (y := if 0 = 0 then z_go 84 [some (.ref 76), some (.int (nI o)), some (.int (I25 76 2))] [] 161 (I27, J, RF w) else z_go 86 [some (.ref 76), some (.int (nI o)), some (.int (I25 76 2))] [] 161 (I27, J, RF w)) (fun _ => rfl) ?_
          refine z_qI (fun _ => ?_) (fun q => absurd (by decide) q)
          refine z_qL ?_
          refine z_qG 2 (y := some (.inr (some (.int 0), 161, I27, J, RF w))) (fun _ => rfl) ?_
          exact z_qR (s_Q_mk (s_not6 h1 r25 (.inl h7) r27) rfl c27)
        · skip
          refine z_qK (v := .int 1) (z' := 161) (σ' := (I27, J, RF w)) e27 ?_
          refine z_qG 1 (y := if 1 = 0 then z_go 84 [some (.ref 76), some (.int (nI o)), some (.int (I25 76 2))] [] 161 (I27, J, RF w) else z_go 86 [some (.ref 76), some (.int (nI o)), some (.int (I25 76 2))] [] 161 (I27, J, RF w)) (fun _ => rfl) ?_
          refine z_qI (fun q => absurd q (by decide)) (fun _ => ?_)
          refine z_qL ?_
          refine z_qG 4 (y := z_ret (z_cl E (d + 8) 66 [.ref 76, .int (-(I25 76 2))] (161, (I27, J, RF w))) 92 [some (.ref 76), some (.int (nI o)), some (.int (I25 76 2))] []) (fun _ => rfl) ?_
          rw [show (-(I25 76 2) : Int32) = -(nI (s_tok b n p25)) from (by rw [c25.tok])]
          obtain ⟨I28, e28, c28⟩ := x_emitQ E (d + 7) J w (-(nI (s_tok b n p25))) c27 (by omega)
          have hl28 : (C27 ++ [-(nI (s_tok b n p25))]).length ≤ p27 := by rw [List.length_append]; show C27.length + 1 ≤ _; omega
          refine z_qV (z' := 161) (σ' := (I28, J, RF w)) e28 ?_
          refine z_qG 2 (y := some (.inr (some (.int 1), 161, I28, J, RF w))) (fun _ => rfl) ?_
          exact z_qR (s_Q_mk (s_not7 h1 r25 (.inl h7) r27) rfl c28)
      · refine z_qL ?_
        refine z_qG 4 (y := if (I25 76 2) = 61 then z_go 67 [some (.ref 76), some (.int (nI o)), none] [] 161 (I25, J, RF w) else z_go 65 [some (.ref 76), some (.int (nI o)), none] [] 161 (I25, J, RF w)) (fun _ => rfl) ?_
        refine z_qIN (show _ ↔ (s_tok b n p25) = 61 from z_eqN c25.tok rfl (by omega) (by omega)) (fun h10 => ?_) (fun h10 => ?_)
        · refine z_qL ?_
          refine z_qG 5 (y := z_ret (z_cl E (d + 8) 74 [.ref 76] (161, (I25, J, RF w))) 76 [some (.ref 76), some (.int (nI o)), some (.int (I25 76 2))] []) (fun _ => rfl) ?_
          have hT := h10
          have hgt := s_en_gt (b := b) (n := n) (p := p25) (by rw [hT]; decide)
          have hge := s_st_ge b n p25
          obtain ⟨I29, e29, c29⟩ := x_stepQ E (d + 1) J w c25 hp25
          have hp29 := s_en_le b (n := n) hp25
          have hl29 : C25.length ≤ s_en b n p25 := Nat.le_trans hl25 (Nat.le_trans (s_st_ge b n p25) (s_en_ge b n p25))
          have ht29 := s_tok_lt h256 (s_en b n p25)
          refine z_qV (z' := 161) (σ' := (I29, J, RF w)) e29 ?_
          refine z_qG 3 (y := z_ret (z_cl E (d + 8) 70 [.ref 76, .int (nI o)] (161, (I29, J, RF w))) 81 [some (.ref 76), some (.int (nI o)), some (.int (I25 76 2))] []) (fun _ => rfl) ?_
          obtain ⟨I30, e30, c30⟩ := hS _ I29 (s_en b n p25) C25 c29 hp29 hl29
          have g30 := gS (s_en b n p25, C25) hp29
          rcases r30 : sm (s_en b n p25, C25) with ⟨ok30, p30, C30⟩
          rw [r30] at e30 c30 g30
          obtain ⟨ga30, gb30, gc30⟩ := g30
          simp only at e30 c30 ga30 gb30 gc30
          have hp30 : p30 ≤ n := gb30
          have hl30 : C30.length ≤ p30 := by have := hl29; omega
          have ht30 := s_tok_lt h256 p30
          cases ok30
          · skip
            refine z_qK (v := .int 0) (z' := 161) (σ' := (I30, J, RF w)) e30 ?_
            refine z_qG 1 (y := if 0 = 0 then z_go 84 [some (.ref 76), some (.int (nI o)), some (.int (I25 76 2))] [] 161 (I30, J, RF w) else z_go 86 [some (.ref 76), some (.int (nI o)), some (.int (I25 76 2))] [] 161 (I30, J, RF w)) (fun _ => rfl) ?_
            refine z_qI (fun _ => ?_) (fun q => absurd (by decide) q)
            refine z_qL ?_
            refine z_qG 2 (y := some (.inr (some (.int 0), 161, I30, J, RF w))) (fun _ => rfl) ?_
            exact z_qR (s_Q_mk (s_not6 h1 r25 (.inr h10) r30) rfl c30)
          · skip
            refine z_qK (v := .int 1) (z' := 161) (σ' := (I30, J, RF w)) e30 ?_
            refine z_qG 1 (y := if 1 = 0 then z_go 84 [some (.ref 76), some (.int (nI o)), some (.int (I25 76 2))] [] 161 (I30, J, RF w) else z_go 86 [some (.ref 76), some (.int (nI o)), some (.int (I25 76 2))] [] 161 (I30, J, RF w)) (fun _ => rfl) ?_
            refine z_qI (fun q => absurd q (by decide)) (fun _ => ?_)
            refine z_qL ?_
            refine z_qG 4 (y := z_ret (z_cl E (d + 8) 66 [.ref 76, .int (-(I25 76 2))] (161, (I30, J, RF w))) 92 [some (.ref 76), some (.int (nI o)), some (.int (I25 76 2))] []) (fun _ => rfl) ?_
            rw [show (-(I25 76 2) : Int32) = -(nI (s_tok b n p25)) from (by rw [c25.tok])]
            obtain ⟨I31, e31, c31⟩ := x_emitQ E (d + 7) J w (-(nI (s_tok b n p25))) c30 (by omega)
            have hl31 : (C30 ++ [-(nI (s_tok b n p25))]).length ≤ p30 := by rw [List.length_append]; show C30.length + 1 ≤ _; omega
            refine z_qV (z' := 161) (σ' := (I31, J, RF w)) e31 ?_
            refine z_qG 2 (y := some (.inr (some (.int 1), 161, I31, J, RF w))) (fun _ => rfl) ?_
            exact z_qR (s_Q_mk (s_not7 h1 r25 (.inr h10) r30) rfl c31)
        · refine z_qL ?_
          refine z_qG 2 (y := some (.inr (some (.int 1), 161, I25, J, RF w))) (fun _ => rfl) ?_
          exact z_qR (s_Q_mk (s_not5 h1 r25 h7 h10) rfl c25)
set_option maxRecDepth 20000 in
theorem x_readNot_0 (E : zE) (d : Nat) (J : Nat → Nat → Int64) (w : Nat) (b : Nat → Nat) (n : Nat) (nt sm : zPS → Bool × zPS) (hS : s_rd E (d + 8) 70 5 J w b n sm) (gS : s_gd n sm) (h256 : ∀ k, k < n → b k < 256) (hn : n ≤ 160) : s_rd E (d + 9) 69 5 J w b n (s_not b n false nt sm) := by
  refine s_rd_of ?_
  intro I0 I p C c hp hl
  have ht := s_tok_lt h256 p
  refine z_callQ (d := d + 8) (M := z_m69) rfl rfl ?_
  refine z_qG 4 (y := if (I 76 2) = 7 then z_go 9 [some (.ref 76), some (.int 5), none] [] 161 (I, J, RF w) else z_go 37 [some (.ref 76), some (.int 5), none] [] 161 (I, J, RF w)) (fun _ => rfl) ?_
  refine z_qIN (show _ ↔ (s_tok b n p) = 7 from z_eqN c.tok rfl (by omega) (by omega)) (fun h1 => ?_) (fun h1 => ?_)
  · refine z_qL ?_
    refine z_qG 3 (y := z_ret (z_cl E (d + 8) 73 [.ref 76, .int 5] (161, (I, J, RF w))) 14 [some (.ref 76), some (.int 5), none] []) (fun _ => rfl) ?_
    have hT := h1
    have hgt := s_en_gt (b := b) (n := n) (p := p) (by rw [hT]; decide)
    have hge := s_st_ge b n p
    refine z_qK (v := .int 0) (z' := 161) (σ' := (I, J, RF w)) (x_opensN E d I J w) ?_
    refine z_qG 1 (y := if 0 = 0 then z_go 27 [some (.ref 76), some (.int 5), none] [] 161 (I, J, RF w) else z_go 17 [some (.ref 76), some (.int 5), none] [] 161 (I, J, RF w)) (fun _ => rfl) ?_
    refine z_qI (fun _ => ?_) (fun q => absurd (by decide) q)
    refine z_qL ?_
    refine z_qG 2 (y := some (.inr (some (.int 0), 161, I, J, RF w))) (fun _ => rfl) ?_
    exact z_qR (s_Q_mk (s_not3 hT) rfl c)
  · refine z_qL ?_
    refine z_qG 3 (y := z_ret (z_cl E (d + 8) 70 [.ref 76, .int 5] (161, (I, J, RF w))) 42 [some (.ref 76), some (.int 5), none] []) (fun _ => rfl) ?_
    obtain ⟨I33, e33, c33⟩ := hS _ I p C c hp hl
    have g33 := gS (p, C) hp
    rcases r33 : sm (p, C) with ⟨ok33, p33, C33⟩
    rw [r33] at e33 c33 g33
    obtain ⟨ga33, gb33, gc33⟩ := g33
    simp only at e33 c33 ga33 gb33 gc33
    have hp33 : p33 ≤ n := gb33
    have hl33 : C33.length ≤ p33 := by have := hl; omega
    have ht33 := s_tok_lt h256 p33
    cases ok33
    · skip
      refine z_qK (v := .int 0) (z' := 161) (σ' := (I33, J, RF w)) e33 ?_
      refine z_qG 1 (y := if 0 = 0 then z_go 45 [some (.ref 76), some (.int 5), none] [] 161 (I33, J, RF w) else z_go 47 [some (.ref 76), some (.int 5), none] [] 161 (I33, J, RF w)) (fun _ => rfl) ?_
      refine z_qI (fun _ => ?_) (fun q => absurd (by decide) q)
      refine z_qL ?_
      refine z_qG 2 (y := some (.inr (some (.int 0), 161, I33, J, RF w))) (fun _ => rfl) ?_
      exact z_qR (s_Q_mk (s_not4 h1 r33) rfl c33)
    · skip
      refine z_qK (v := .int 1) (z' := 161) (σ' := (I33, J, RF w)) e33 ?_
      refine z_qG 1 (y := if 1 = 0 then z_go 45 [some (.ref 76), some (.int 5), none] [] 161 (I33, J, RF w) else z_go 47 [some (.ref 76), some (.int 5), none] [] 161 (I33, J, RF w)) (fun _ => rfl) ?_
      refine z_qI (fun q => absurd q (by decide)) (fun _ => ?_)
      refine z_qL ?_
      refine z_qG 4 (y := if (I33 76 2) = 60 then z_go 67 [some (.ref 76), some (.int 5), none] [] 161 (I33, J, RF w) else z_go 56 [some (.ref 76), some (.int 5), none] [] 161 (I33, J, RF w)) (fun _ => rfl) ?_
      refine z_qIN (show _ ↔ (s_tok b n p33) = 60 from z_eqN c33.tok rfl (by omega) (by omega)) (fun h5 => ?_) (fun h5 => ?_)
      · refine z_qL ?_
        refine z_qG 5 (y := z_ret (z_cl E (d + 8) 74 [.ref 76] (161, (I33, J, RF w))) 76 [some (.ref 76), some (.int 5), some (.int (I33 76 2))] []) (fun _ => rfl) ?_
        have hT := h5
        have hgt := s_en_gt (b := b) (n := n) (p := p33) (by rw [hT]; decide)
        have hge := s_st_ge b n p33
        obtain ⟨I34, e34, c34⟩ := x_stepQ E (d + 1) J w c33 hp33
        have hp34 := s_en_le b (n := n) hp33
        have hl34 : C33.length ≤ s_en b n p33 := Nat.le_trans hl33 (Nat.le_trans (s_st_ge b n p33) (s_en_ge b n p33))
        have ht34 := s_tok_lt h256 (s_en b n p33)
        refine z_qV (z' := 161) (σ' := (I34, J, RF w)) e34 ?_
        refine z_qG 3 (y := z_ret (z_cl E (d + 8) 70 [.ref 76, .int 5] (161, (I34, J, RF w))) 81 [some (.ref 76), some (.int 5), some (.int (I33 76 2))] []) (fun _ => rfl) ?_
        obtain ⟨I35, e35, c35⟩ := hS _ I34 (s_en b n p33) C33 c34 hp34 hl34
        have g35 := gS (s_en b n p33, C33) hp34
        rcases r35 : sm (s_en b n p33, C33) with ⟨ok35, p35, C35⟩
        rw [r35] at e35 c35 g35
        obtain ⟨ga35, gb35, gc35⟩ := g35
        simp only at e35 c35 ga35 gb35 gc35
        have hp35 : p35 ≤ n := gb35
        have hl35 : C35.length ≤ p35 := by have := hl34; omega
        have ht35 := s_tok_lt h256 p35
        cases ok35
        · skip
          refine z_qK (v := .int 0) (z' := 161) (σ' := (I35, J, RF w)) e35 ?_
          refine z_qG 1 (y := if 0 = 0 then z_go 84 [some (.ref 76), some (.int 5), some (.int (I33 76 2))] [] 161 (I35, J, RF w) else z_go 86 [some (.ref 76), some (.int 5), some (.int (I33 76 2))] [] 161 (I35, J, RF w)) (fun _ => rfl) ?_
          refine z_qI (fun _ => ?_) (fun q => absurd (by decide) q)
          refine z_qL ?_
          refine z_qG 2 (y := some (.inr (some (.int 0), 161, I35, J, RF w))) (fun _ => rfl) ?_
          exact z_qR (s_Q_mk (s_not6 h1 r33 (.inl h5) r35) rfl c35)
        · skip
          refine z_qK (v := .int 1) (z' := 161) (σ' := (I35, J, RF w)) e35 ?_
          refine z_qG 1 (y := if 1 = 0 then z_go 84 [some (.ref 76), some (.int 5), some (.int (I33 76 2))] [] 161 (I35, J, RF w) else z_go 86 [some (.ref 76), some (.int 5), some (.int (I33 76 2))] [] 161 (I35, J, RF w)) (fun _ => rfl) ?_
          refine z_qI (fun q => absurd q (by decide)) (fun _ => ?_)
          refine z_qL ?_
          refine z_qG 4 (y := z_ret (z_cl E (d + 8) 66 [.ref 76, .int (-(I33 76 2))] (161, (I35, J, RF w))) 92 [some (.ref 76), some (.int 5), some (.int (I33 76 2))] []) (fun _ => rfl) ?_
          rw [show (-(I33 76 2) : Int32) = -(nI (s_tok b n p33)) from (by rw [c33.tok])]
          obtain ⟨I36, e36, c36⟩ := x_emitQ E (d + 7) J w (-(nI (s_tok b n p33))) c35 (by omega)
          have hl36 : (C35 ++ [-(nI (s_tok b n p33))]).length ≤ p35 := by rw [List.length_append]; show C35.length + 1 ≤ _; omega
          refine z_qV (z' := 161) (σ' := (I36, J, RF w)) e36 ?_
          refine z_qG 2 (y := some (.inr (some (.int 1), 161, I36, J, RF w))) (fun _ => rfl) ?_
          exact z_qR (s_Q_mk (s_not7 h1 r33 (.inl h5) r35) rfl c36)
      · refine z_qL ?_
        refine z_qG 4 (y := if (I33 76 2) = 61 then z_go 67 [some (.ref 76), some (.int 5), none] [] 161 (I33, J, RF w) else z_go 65 [some (.ref 76), some (.int 5), none] [] 161 (I33, J, RF w)) (fun _ => rfl) ?_
        refine z_qIN (show _ ↔ (s_tok b n p33) = 61 from z_eqN c33.tok rfl (by omega) (by omega)) (fun h8 => ?_) (fun h8 => ?_)
        · refine z_qL ?_
          refine z_qG 5 (y := z_ret (z_cl E (d + 8) 74 [.ref 76] (161, (I33, J, RF w))) 76 [some (.ref 76), some (.int 5), some (.int (I33 76 2))] []) (fun _ => rfl) ?_
          have hT := h8
          have hgt := s_en_gt (b := b) (n := n) (p := p33) (by rw [hT]; decide)
          have hge := s_st_ge b n p33
          obtain ⟨I37, e37, c37⟩ := x_stepQ E (d + 1) J w c33 hp33
          have hp37 := s_en_le b (n := n) hp33
          have hl37 : C33.length ≤ s_en b n p33 := Nat.le_trans hl33 (Nat.le_trans (s_st_ge b n p33) (s_en_ge b n p33))
          have ht37 := s_tok_lt h256 (s_en b n p33)
          refine z_qV (z' := 161) (σ' := (I37, J, RF w)) e37 ?_
          refine z_qG 3 (y := z_ret (z_cl E (d + 8) 70 [.ref 76, .int 5] (161, (I37, J, RF w))) 81 [some (.ref 76), some (.int 5), some (.int (I33 76 2))] []) (fun _ => rfl) ?_
          obtain ⟨I38, e38, c38⟩ := hS _ I37 (s_en b n p33) C33 c37 hp37 hl37
          have g38 := gS (s_en b n p33, C33) hp37
          rcases r38 : sm (s_en b n p33, C33) with ⟨ok38, p38, C38⟩
          rw [r38] at e38 c38 g38
          obtain ⟨ga38, gb38, gc38⟩ := g38
          simp only at e38 c38 ga38 gb38 gc38
          have hp38 : p38 ≤ n := gb38
          have hl38 : C38.length ≤ p38 := by have := hl37; omega
          have ht38 := s_tok_lt h256 p38
          cases ok38
          · skip
            refine z_qK (v := .int 0) (z' := 161) (σ' := (I38, J, RF w)) e38 ?_
            refine z_qG 1 (y := if 0 = 0 then z_go 84 [some (.ref 76), some (.int 5), some (.int (I33 76 2))] [] 161 (I38, J, RF w) else z_go 86 [some (.ref 76), some (.int 5), some (.int (I33 76 2))] [] 161 (I38, J, RF w)) (fun _ => rfl) ?_
            refine z_qI (fun _ => ?_) (fun q => absurd (by decide) q)
            refine z_qL ?_
            refine z_qG 2 (y := some (.inr (some (.int 0), 161, I38, J, RF w))) (fun _ => rfl) ?_
            exact z_qR (s_Q_mk (s_not6 h1 r33 (.inr h8) r38) rfl c38)
          · skip
            refine z_qK (v := .int 1) (z' := 161) (σ' := (I38, J, RF w)) e38 ?_
            refine z_qG 1 (y := if 1 = 0 then z_go 84 [some (.ref 76), some (.int 5), some (.int (I33 76 2))] [] 161 (I38, J, RF w) else z_go 86 [some (.ref 76), some (.int 5), some (.int (I33 76 2))] [] 161 (I38, J, RF w)) (fun _ => rfl) ?_
            refine z_qI (fun q => absurd q (by decide)) (fun _ => ?_)
            refine z_qL ?_
            refine z_qG 4 (y := z_ret (z_cl E (d + 8) 66 [.ref 76, .int (-(I33 76 2))] (161, (I38, J, RF w))) 92 [some (.ref 76), some (.int 5), some (.int (I33 76 2))] []) (fun _ => rfl) ?_
            rw [show (-(I33 76 2) : Int32) = -(nI (s_tok b n p33)) from (by rw [c33.tok])]
            obtain ⟨I39, e39, c39⟩ := x_emitQ E (d + 7) J w (-(nI (s_tok b n p33))) c38 (by omega)
            have hl39 : (C38 ++ [-(nI (s_tok b n p33))]).length ≤ p38 := by rw [List.length_append]; show C38.length + 1 ≤ _; omega
            refine z_qV (z' := 161) (σ' := (I39, J, RF w)) e39 ?_
            refine z_qG 2 (y := some (.inr (some (.int 1), 161, I39, J, RF w))) (fun _ => rfl) ?_
            exact z_qR (s_Q_mk (s_not7 h1 r33 (.inr h8) r38) rfl c39)
        · refine z_qL ?_
          refine z_qG 2 (y := some (.inr (some (.int 1), 161, I33, J, RF w))) (fun _ => rfl) ?_
          exact z_qR (s_Q_mk (s_not5 h1 r33 h5 h8) rfl c33)
set_option maxRecDepth 20000 in
theorem x_readOne_r (E : zE) (d o : Nat) (J : Nat → Nat → Int64) (w : Nat) (b : Nat → Nat) (n : Nat) (ex on : zPS → Bool × zPS) (hE : s_rd E (d + 8) 67 (o + 1) J w b n ex) (gE : s_gd n ex) (hO : s_rd E (d + 8) 72 (o + 1) J w b n on) (gO : s_gd n on) (ho : o < 5) (h256 : ∀ k, k < n → b k < 256) (hn : n ≤ 160) : s_rd E (d + 9) 72 o J w b n (s_one b n true ex on) := by
  refine s_rd_of ?_
  intro I0 I p C c hp hl
  have ht := s_tok_lt h256 p
  refine z_callQ (d := d + 8) (M := z_m72) rfl rfl ?_
  refine z_qG 4 (y := if (I 76 2) = 40 then z_go 9 [some (.ref 76), some (.int (nI o))] [] 161 (I, J, RF w) else z_go 42 [some (.ref 76), some (.int (nI o))] [] 161 (I, J, RF w)) (fun _ => rfl) ?_
  refine z_qIN (show _ ↔ (s_tok b n p) = 40 from z_eqN c.tok rfl (by omega) (by omega)) (fun h1 => ?_) (fun h1 => ?_)
  · refine z_qL ?_
    refine z_qG 3 (y := z_ret (z_cl E (d + 8) 73 [.ref 76, .int (nI o)] (161, (I, J, RF w))) 14 [some (.ref 76), some (.int (nI o))] []) (fun _ => rfl) ?_
    have hT := h1
    have hgt := s_en_gt (b := b) (n := n) (p := p) (by rw [hT]; decide)
    have hge := s_st_ge b n p
    obtain ⟨I40, e40, c40⟩ := x_opensQ E d J w c hp o ho
    have hp40 := s_en_le b (n := n) hp
    have hl40 : C.length ≤ s_en b n p := by omega
    have ht40 := s_tok_lt h256 (s_en b n p)
    refine z_qK (v := .int 1) (z' := 161) (σ' := (I40, J, RF w)) e40 ?_
    refine z_qG 1 (y := if 1 = 0 then z_go 40 [some (.ref 76), some (.int (nI o))] [] 161 (I40, J, RF w) else z_go 17 [some (.ref 76), some (.int (nI o))] [] 161 (I40, J, RF w)) (fun _ => rfl) ?_
    refine z_qI (fun q => absurd q (by decide)) (fun _ => ?_)
    refine z_qL ?_
    refine z_qG 5 (y := z_ret (z_cl E (d + 8) 67 [.ref 76, .int ((nI o) + 1)] (161, (I40, J, RF w))) 24 [some (.ref 76), some (.int (nI o))] []) (fun _ => rfl) ?_
    rw [nI_1 o]
    obtain ⟨I41, e41, c41⟩ := hE _ I40 (s_en b n p) C c40 hp40 hl40
    have g41 := gE (s_en b n p, C) hp40
    rcases r41 : ex (s_en b n p, C) with ⟨ok41, p41, C41⟩
    rw [r41] at e41 c41 g41
    obtain ⟨ga41, gb41, gc41⟩ := g41
    simp only at e41 c41 ga41 gb41 gc41
    have hp41 : p41 ≤ n := gb41
    have hl41 : C41.length ≤ p41 := by have := hl40; omega
    have ht41 := s_tok_lt h256 p41
    cases ok41
    · skip
      refine z_qK (v := .int 0) (z' := 161) (σ' := (I41, J, RF w)) e41 ?_
      refine z_qG 1 (y := if 0 = 0 then z_go 40 [some (.ref 76), some (.int (nI o))] [] 161 (I41, J, RF w) else z_go 27 [some (.ref 76), some (.int (nI o))] [] 161 (I41, J, RF w)) (fun _ => rfl) ?_
      refine z_qI (fun _ => ?_) (fun q => absurd (by decide) q)
      refine z_qL ?_
      refine z_qG 2 (y := some (.inr (some (.int 0), 161, I41, J, RF w))) (fun _ => rfl) ?_
      exact z_qR (s_Q_mk (s_one3 hT r41) rfl c41)
    · skip
      refine z_qK (v := .int 1) (z' := 161) (σ' := (I41, J, RF w)) e41 ?_
      refine z_qG 1 (y := if 1 = 0 then z_go 40 [some (.ref 76), some (.int (nI o))] [] 161 (I41, J, RF w) else z_go 27 [some (.ref 76), some (.int (nI o))] [] 161 (I41, J, RF w)) (fun _ => rfl) ?_
      refine z_qI (fun q => absurd q (by decide)) (fun _ => ?_)
      refine z_qL ?_
      refine z_qG 3 (y := z_ret (z_cl E (d + 8) 65 [.ref 76, .int 41] (161, (I41, J, RF w))) 33 [some (.ref 76), some (.int (nI o))] []) (fun _ => rfl) ?_
      by_cases hs42 : s_tok b n p41 = 41
      · obtain ⟨I42, e42, c42⟩ := x_skipQ E d J w c41 hp41 41 (by decide) h256 hs42
        refine z_qK (v := .int 1) (z' := 161) (σ' := (I42, J, RF w)) e42 ?_
        refine z_qG 1 (y := if 1 = 0 then z_go 40 [some (.ref 76), some (.int (nI o))] [] 161 (I42, J, RF w) else z_go 36 [some (.ref 76), some (.int (nI o))] [] 161 (I42, J, RF w)) (fun _ => rfl) ?_
        refine z_qI (fun q => absurd q (by decide)) (fun _ => ?_)
        refine z_qL ?_
        refine z_qG 3 (y := some (.inr (some (.int 1), 161, I42, J, RF w))) (fun _ => rfl) ?_
        exact z_qR (s_Q_mk (s_one1 hT r41 hs42) rfl c42)
      · have e42 := x_skipN E d I41 J w 41 (mt (z_eqN c41.tok rfl (by omega) (by decide)).mp hs42)
        refine z_qK (v := .int 0) (z' := 161) (σ' := (I41, J, RF w)) e42 ?_
        refine z_qG 1 (y := if 0 = 0 then z_go 40 [some (.ref 76), some (.int (nI o))] [] 161 (I41, J, RF w) else z_go 36 [some (.ref 76), some (.int (nI o))] [] 161 (I41, J, RF w)) (fun _ => rfl) ?_
        refine z_qI (fun _ => ?_) (fun q => absurd (by decide) q)
        refine z_qL ?_
        refine z_qG 2 (y := some (.inr (some (.int 0), 161, I41, J, RF w))) (fun _ => rfl) ?_
        exact z_qR (s_Q_mk (s_one2 hT r41 hs42) rfl c41)
  · refine z_qL ?_
    refine z_qG 4 (y := if (I 76 2) = 45 then z_go 51 [some (.ref 76), some (.int (nI o))] [] 161 (I, J, RF w) else z_go 79 [some (.ref 76), some (.int (nI o))] [] 161 (I, J, RF w)) (fun _ => rfl) ?_
    refine z_qIN (show _ ↔ (s_tok b n p) = 45 from z_eqN c.tok rfl (by omega) (by omega)) (fun h7 => ?_) (fun h7 => ?_)
    · refine z_qL ?_
      refine z_qG 3 (y := z_ret (z_cl E (d + 8) 73 [.ref 76, .int (nI o)] (161, (I, J, RF w))) 56 [some (.ref 76), some (.int (nI o))] []) (fun _ => rfl) ?_
      have hT := h7
      have hgt := s_en_gt (b := b) (n := n) (p := p) (by rw [hT]; decide)
      have hge := s_st_ge b n p
      obtain ⟨I43, e43, c43⟩ := x_opensQ E d J w c hp o ho
      have hp43 := s_en_le b (n := n) hp
      have hl43 : C.length ≤ s_en b n p := by omega
      have ht43 := s_tok_lt h256 (s_en b n p)
      refine z_qK (v := .int 1) (z' := 161) (σ' := (I43, J, RF w)) e43 ?_
      refine z_qG 1 (y := if 1 = 0 then z_go 69 [some (.ref 76), some (.int (nI o))] [] 161 (I43, J, RF w) else z_go 59 [some (.ref 76), some (.int (nI o))] [] 161 (I43, J, RF w)) (fun _ => rfl) ?_
      refine z_qI (fun q => absurd q (by decide)) (fun _ => ?_)
      refine z_qL ?_
      refine z_qG 5 (y := z_ret (z_cl E (d + 8) 72 [.ref 76, .int ((nI o) + 1)] (161, (I43, J, RF w))) 66 [some (.ref 76), some (.int (nI o))] []) (fun _ => rfl) ?_
      rw [nI_1 o]
      obtain ⟨I44, e44, c44⟩ := hO _ I43 (s_en b n p) C c43 hp43 hl43
      have g44 := gO (s_en b n p, C) hp43
      rcases r44 : on (s_en b n p, C) with ⟨ok44, p44, C44⟩
      rw [r44] at e44 c44 g44
      obtain ⟨ga44, gb44, gc44⟩ := g44
      simp only at e44 c44 ga44 gb44 gc44
      have hp44 : p44 ≤ n := gb44
      have hl44 : C44.length ≤ p44 := by have := hl43; omega
      have ht44 := s_tok_lt h256 p44
      cases ok44
      · skip
        refine z_qK (v := .int 0) (z' := 161) (σ' := (I44, J, RF w)) e44 ?_
        refine z_qG 1 (y := if 0 = 0 then z_go 69 [some (.ref 76), some (.int (nI o))] [] 161 (I44, J, RF w) else z_go 71 [some (.ref 76), some (.int (nI o))] [] 161 (I44, J, RF w)) (fun _ => rfl) ?_
        refine z_qI (fun _ => ?_) (fun q => absurd (by decide) q)
        refine z_qL ?_
        refine z_qG 2 (y := some (.inr (some (.int 0), 161, I44, J, RF w))) (fun _ => rfl) ?_
        exact z_qR (s_Q_mk (s_one6 hT r44) rfl c44)
      · skip
        refine z_qK (v := .int 1) (z' := 161) (σ' := (I44, J, RF w)) e44 ?_
        refine z_qG 1 (y := if 1 = 0 then z_go 69 [some (.ref 76), some (.int (nI o))] [] 161 (I44, J, RF w) else z_go 71 [some (.ref 76), some (.int (nI o))] [] 161 (I44, J, RF w)) (fun _ => rfl) ?_
        refine z_qI (fun q => absurd q (by decide)) (fun _ => ?_)
        refine z_qL ?_
        refine z_qG 3 (y := z_ret (z_cl E (d + 8) 66 [.ref 76, .int (-14)] (161, (I44, J, RF w))) 77 [some (.ref 76), some (.int (nI o))] []) (fun _ => rfl) ?_
        obtain ⟨I45, e45, c45⟩ := x_emitQ E (d + 7) J w (-14) c44 (by omega)
        have hl45 : (C44 ++ [(-14)]).length ≤ p44 := by rw [List.length_append]; show C44.length + 1 ≤ _; omega
        refine z_qV (z' := 161) (σ' := (I45, J, RF w)) e45 ?_
        refine z_qG 2 (y := some (.inr (some (.int 1), 161, I45, J, RF w))) (fun _ => rfl) ?_
        exact z_qR (s_Q_mk (s_one5 hT r44) rfl c45)
    · refine z_qL ?_
      refine z_qG 4 (y := if (I 76 2) = 2 then z_go 99 [some (.ref 76), some (.int (nI o))] [] 161 (I, J, RF w) else z_go 87 [some (.ref 76), some (.int (nI o))] [] 161 (I, J, RF w)) (fun _ => rfl) ?_
      refine z_qIN (show _ ↔ (s_tok b n p) = 2 from z_eqN c.tok rfl (by omega) (by omega)) (fun h11 => ?_) (fun h11 => ?_)
      · refine z_qL ?_
        refine z_qG 5 (y := if (I 76 2) = 2 then z_go 108 [some (.ref 76), some (.int (nI o))] [.ref 76] 161 (I, J, RF w) else z_go 115 [some (.ref 76), some (.int (nI o))] [.ref 76] 161 (I, J, RF w)) (fun _ => rfl) ?_
        refine z_qT ((z_eqN (b := 2) c.tok rfl (by omega) (by decide)).mpr h11) ?_
        refine z_qL ?_
        refine z_qG 4 (y := z_ret (z_cl E (d + 8) 66 [.ref 76, .int (I 76 5)] (161, (I, J, RF w))) 123 [some (.ref 76), some (.int (nI o))] []) (fun _ => rfl) ?_
        have hT := h11
        rw [show (I 76 5 : Int32) = s_num b n p from c.nu hT]
        have hgt := s_en_gt (b := b) (n := n) (p := p) (by rw [hT]; decide)
        have hge := s_st_ge b n p
        obtain ⟨I46, e46, c46⟩ := x_emitQ E (d + 7) J w (s_num b n p) c (by have := hn; omega)
        refine z_qV (z' := 161) (σ' := (I46, J, RF w)) e46 ?_
        refine z_qG 2 (y := z_ret (z_cl E (d + 8) 74 [.ref 76] (161, (I46, J, RF w))) 127 [some (.ref 76), some (.int (nI o))] []) (fun _ => rfl) ?_
        obtain ⟨I47, e47, c47⟩ := x_stepQ E (d + 1) J w c46 hp
        refine z_qV (z' := 161) (σ' := (I47, J, RF w)) e47 ?_
        refine z_qG 2 (y := some (.inr (some (.int 1), 161, I47, J, RF w))) (fun _ => rfl) ?_
        exact z_qR (s_Q_mk (s_one8 h11) rfl c47)
      · refine z_qL ?_
        refine z_qG 3 (y := z_ret (z_cl E (d + 8) 55 [.int (I 76 2)] (161, (I, J, RF w))) 94 [some (.ref 76), some (.int (nI o))] []) (fun _ => rfl) ?_
        refine z_qK (v := .int (z_bo (¬ (I 76 2) < 8 ∧ ¬ 13 < (I 76 2)))) (z' := 161) (σ' := (I, J, RF w)) (x_isName E (d + 7) I J w (I 76 2)) ?_
        refine z_qG 1 (y := if (z_bo (¬ (I 76 2) < 8 ∧ ¬ 13 < (I 76 2))) = 0 then z_go 97 [some (.ref 76), some (.int (nI o))] [] 161 (I, J, RF w) else z_go 99 [some (.ref 76), some (.int (nI o))] [] 161 (I, J, RF w)) (fun _ => rfl) ?_
        refine z_qO (fun h13 => ?_) (fun h13 => ?_)
        · refine z_qL ?_
          refine z_qG 2 (y := some (.inr (some (.int 0), 161, I, J, RF w))) (fun _ => rfl) ?_
          exact z_qR (s_Q_mk (s_one10 h1 h7 h11 (mt (z_isName c.tok (by omega)).mpr h13)) rfl c)
        · refine z_qL ?_
          refine z_qG 5 (y := if (I 76 2) = 2 then z_go 108 [some (.ref 76), some (.int (nI o))] [.ref 76] 161 (I, J, RF w) else z_go 115 [some (.ref 76), some (.int (nI o))] [.ref 76] 161 (I, J, RF w)) (fun _ => rfl) ?_
          refine z_qF (mt (z_eqN (b := 2) c.tok rfl (by omega) (by decide)).mp h11) ?_
          refine z_qL ?_
          refine z_qG 4 (y := z_ret (z_cl E (d + 8) 66 [.ref 76, .int (-(I 76 2))] (161, (I, J, RF w))) 123 [some (.ref 76), some (.int (nI o))] []) (fun _ => rfl) ?_
          have hNm := (z_isName c.tok (by omega)).mp h13
          rw [show (-(I 76 2) : Int32) = -(nI (s_tok b n p)) from (by rw [c.tok])]
          have hgt := s_en_gt (b := b) (n := n) (p := p) (by omega)
          have hge := s_st_ge b n p
          obtain ⟨I48, e48, c48⟩ := x_emitQ E (d + 7) J w (-(nI (s_tok b n p))) c (by have := hn; omega)
          refine z_qV (z' := 161) (σ' := (I48, J, RF w)) e48 ?_
          refine z_qG 2 (y := z_ret (z_cl E (d + 8) 74 [.ref 76] (161, (I48, J, RF w))) 127 [some (.ref 76), some (.int (nI o))] []) (fun _ => rfl) ?_
          obtain ⟨I49, e49, c49⟩ := x_stepQ E (d + 1) J w c48 hp
          refine z_qV (z' := 161) (σ' := (I49, J, RF w)) e49 ?_
          refine z_qG 2 (y := some (.inr (some (.int 1), 161, I49, J, RF w))) (fun _ => rfl) ?_
          exact z_qR (s_Q_mk (s_one9 hNm.1 hNm.2) rfl c49)
set_option maxRecDepth 20000 in
theorem x_readOne_0 (E : zE) (d : Nat) (J : Nat → Nat → Int64) (w : Nat) (b : Nat → Nat) (n : Nat) (ex on : zPS → Bool × zPS) (h256 : ∀ k, k < n → b k < 256) (hn : n ≤ 160) : s_rd E (d + 9) 72 5 J w b n (s_one b n false ex on) := by
  refine s_rd_of ?_
  intro I0 I p C c hp hl
  have ht := s_tok_lt h256 p
  refine z_callQ (d := d + 8) (M := z_m72) rfl rfl ?_
  refine z_qG 4 (y := if (I 76 2) = 40 then z_go 9 [some (.ref 76), some (.int 5)] [] 161 (I, J, RF w) else z_go 42 [some (.ref 76), some (.int 5)] [] 161 (I, J, RF w)) (fun _ => rfl) ?_
  refine z_qIN (show _ ↔ (s_tok b n p) = 40 from z_eqN c.tok rfl (by omega) (by omega)) (fun h1 => ?_) (fun h1 => ?_)
  · refine z_qL ?_
    refine z_qG 3 (y := z_ret (z_cl E (d + 8) 73 [.ref 76, .int 5] (161, (I, J, RF w))) 14 [some (.ref 76), some (.int 5)] []) (fun _ => rfl) ?_
    have hT := h1
    have hgt := s_en_gt (b := b) (n := n) (p := p) (by rw [hT]; decide)
    have hge := s_st_ge b n p
    refine z_qK (v := .int 0) (z' := 161) (σ' := (I, J, RF w)) (x_opensN E d I J w) ?_
    refine z_qG 1 (y := if 0 = 0 then z_go 40 [some (.ref 76), some (.int 5)] [] 161 (I, J, RF w) else z_go 17 [some (.ref 76), some (.int 5)] [] 161 (I, J, RF w)) (fun _ => rfl) ?_
    refine z_qI (fun _ => ?_) (fun q => absurd (by decide) q)
    refine z_qL ?_
    refine z_qG 2 (y := some (.inr (some (.int 0), 161, I, J, RF w))) (fun _ => rfl) ?_
    exact z_qR (s_Q_mk (s_one4 hT) rfl c)
  · refine z_qL ?_
    refine z_qG 4 (y := if (I 76 2) = 45 then z_go 51 [some (.ref 76), some (.int 5)] [] 161 (I, J, RF w) else z_go 79 [some (.ref 76), some (.int 5)] [] 161 (I, J, RF w)) (fun _ => rfl) ?_
    refine z_qIN (show _ ↔ (s_tok b n p) = 45 from z_eqN c.tok rfl (by omega) (by omega)) (fun h3 => ?_) (fun h3 => ?_)
    · refine z_qL ?_
      refine z_qG 3 (y := z_ret (z_cl E (d + 8) 73 [.ref 76, .int 5] (161, (I, J, RF w))) 56 [some (.ref 76), some (.int 5)] []) (fun _ => rfl) ?_
      have hT := h3
      have hgt := s_en_gt (b := b) (n := n) (p := p) (by rw [hT]; decide)
      have hge := s_st_ge b n p
      refine z_qK (v := .int 0) (z' := 161) (σ' := (I, J, RF w)) (x_opensN E d I J w) ?_
      refine z_qG 1 (y := if 0 = 0 then z_go 69 [some (.ref 76), some (.int 5)] [] 161 (I, J, RF w) else z_go 59 [some (.ref 76), some (.int 5)] [] 161 (I, J, RF w)) (fun _ => rfl) ?_
      refine z_qI (fun _ => ?_) (fun q => absurd (by decide) q)
      refine z_qL ?_
      refine z_qG 2 (y := some (.inr (some (.int 0), 161, I, J, RF w))) (fun _ => rfl) ?_
      exact z_qR (s_Q_mk (s_one7 hT) rfl c)
    · refine z_qL ?_
      refine z_qG 4 (y := if (I 76 2) = 2 then z_go 99 [some (.ref 76), some (.int 5)] [] 161 (I, J, RF w) else z_go 87 [some (.ref 76), some (.int 5)] [] 161 (I, J, RF w)) (fun _ => rfl) ?_
      refine z_qIN (show _ ↔ (s_tok b n p) = 2 from z_eqN c.tok rfl (by omega) (by omega)) (fun h5 => ?_) (fun h5 => ?_)
      · refine z_qL ?_
        refine z_qG 5 (y := if (I 76 2) = 2 then z_go 108 [some (.ref 76), some (.int 5)] [.ref 76] 161 (I, J, RF w) else z_go 115 [some (.ref 76), some (.int 5)] [.ref 76] 161 (I, J, RF w)) (fun _ => rfl) ?_
        refine z_qT ((z_eqN (b := 2) c.tok rfl (by omega) (by decide)).mpr h5) ?_
        refine z_qL ?_
        refine z_qG 4 (y := z_ret (z_cl E (d + 8) 66 [.ref 76, .int (I 76 5)] (161, (I, J, RF w))) 123 [some (.ref 76), some (.int 5)] []) (fun _ => rfl) ?_
        have hT := h5
        rw [show (I 76 5 : Int32) = s_num b n p from c.nu hT]
        have hgt := s_en_gt (b := b) (n := n) (p := p) (by rw [hT]; decide)
        have hge := s_st_ge b n p
        obtain ⟨I52, e52, c52⟩ := x_emitQ E (d + 7) J w (s_num b n p) c (by have := hn; omega)
        refine z_qV (z' := 161) (σ' := (I52, J, RF w)) e52 ?_
        refine z_qG 2 (y := z_ret (z_cl E (d + 8) 74 [.ref 76] (161, (I52, J, RF w))) 127 [some (.ref 76), some (.int 5)] []) (fun _ => rfl) ?_
        obtain ⟨I53, e53, c53⟩ := x_stepQ E (d + 1) J w c52 hp
        refine z_qV (z' := 161) (σ' := (I53, J, RF w)) e53 ?_
        refine z_qG 2 (y := some (.inr (some (.int 1), 161, I53, J, RF w))) (fun _ => rfl) ?_
        exact z_qR (s_Q_mk (s_one8 h5) rfl c53)
      · refine z_qL ?_
        refine z_qG 3 (y := z_ret (z_cl E (d + 8) 55 [.int (I 76 2)] (161, (I, J, RF w))) 94 [some (.ref 76), some (.int 5)] []) (fun _ => rfl) ?_
        refine z_qK (v := .int (z_bo (¬ (I 76 2) < 8 ∧ ¬ 13 < (I 76 2)))) (z' := 161) (σ' := (I, J, RF w)) (x_isName E (d + 7) I J w (I 76 2)) ?_
        refine z_qG 1 (y := if (z_bo (¬ (I 76 2) < 8 ∧ ¬ 13 < (I 76 2))) = 0 then z_go 97 [some (.ref 76), some (.int 5)] [] 161 (I, J, RF w) else z_go 99 [some (.ref 76), some (.int 5)] [] 161 (I, J, RF w)) (fun _ => rfl) ?_
        refine z_qO (fun h7 => ?_) (fun h7 => ?_)
        · refine z_qL ?_
          refine z_qG 2 (y := some (.inr (some (.int 0), 161, I, J, RF w))) (fun _ => rfl) ?_
          exact z_qR (s_Q_mk (s_one10 h1 h3 h5 (mt (z_isName c.tok (by omega)).mpr h7)) rfl c)
        · refine z_qL ?_
          refine z_qG 5 (y := if (I 76 2) = 2 then z_go 108 [some (.ref 76), some (.int 5)] [.ref 76] 161 (I, J, RF w) else z_go 115 [some (.ref 76), some (.int 5)] [.ref 76] 161 (I, J, RF w)) (fun _ => rfl) ?_
          refine z_qF (mt (z_eqN (b := 2) c.tok rfl (by omega) (by decide)).mp h5) ?_
          refine z_qL ?_
          refine z_qG 4 (y := z_ret (z_cl E (d + 8) 66 [.ref 76, .int (-(I 76 2))] (161, (I, J, RF w))) 123 [some (.ref 76), some (.int 5)] []) (fun _ => rfl) ?_
          have hNm := (z_isName c.tok (by omega)).mp h7
          rw [show (-(I 76 2) : Int32) = -(nI (s_tok b n p)) from (by rw [c.tok])]
          have hgt := s_en_gt (b := b) (n := n) (p := p) (by omega)
          have hge := s_st_ge b n p
          obtain ⟨I54, e54, c54⟩ := x_emitQ E (d + 7) J w (-(nI (s_tok b n p))) c (by have := hn; omega)
          refine z_qV (z' := 161) (σ' := (I54, J, RF w)) e54 ?_
          refine z_qG 2 (y := z_ret (z_cl E (d + 8) 74 [.ref 76] (161, (I54, J, RF w))) 127 [some (.ref 76), some (.int 5)] []) (fun _ => rfl) ?_
          obtain ⟨I55, e55, c55⟩ := x_stepQ E (d + 1) J w c54 hp
          refine z_qV (z' := 161) (σ' := (I55, J, RF w)) e55 ?_
          refine z_qG 2 (y := some (.inr (some (.int 1), 161, I55, J, RF w))) (fun _ => rfl) ?_
          exact z_qR (s_Q_mk (s_one9 hNm.1 hNm.2) rfl c55)
