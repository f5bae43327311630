-- STILL
def s_stX (T H : Nat → Int32) (t h : Int32) (k : Nat) (s : Int32 × Int32) : Int32 × Int32 :=
  if T k = t then (if h < H k then (s.1, if s.2 = (-1) then nI k else if H s.2.toNatClampNeg < H k then s.2 else nI k) else (if s.1 = (-1) then nI k else if H k < H s.1.toNatClampNeg then s.1 else nI k, s.2)) else s
def s_SX (T H : Nat → Int32) (t h : Int32) (k : Nat) : Int32 × Int32 := z_fo (s_stX T H t h) ((-1), (-1)) k
def s_ok (k : Nat) (x : Int32) : Prop := x = (-1) ∨ ∃ j, j < k ∧ x = nI j
theorem s_ok_s {k : Nat} {x : Int32} (h : s_ok k x) : s_ok (k + 1) x := by
  rcases h with h | ⟨j, hj, h⟩
  · exact .inl h
  · exact .inr ⟨j, by omega, h⟩
theorem s_ok_k (k : Nat) : s_ok (k + 1) (nI k) := .inr ⟨k, by omega, rfl⟩
theorem s_okX (T H : Nat → Int32) (t h : Int32) : ∀ k, s_ok k (s_SX T H t h k).1 ∧ s_ok k (s_SX T H t h k).2
  | 0 => ⟨.inl rfl, .inl rfl⟩
  | k + 1 => by
    have ih := s_okX T H t h k
    show s_ok (k + 1) (s_stX T H t h k (s_SX T H t h k)).1 ∧ s_ok (k + 1) (s_stX T H t h k (s_SX T H t h k)).2
    unfold s_stX
    split
    · split
      · refine ⟨s_ok_s ih.1, ?_⟩
        dsimp only
        split
        · exact s_ok_k k
        · split
          · exact s_ok_s ih.2
          · exact s_ok_k k
      · refine ⟨?_, s_ok_s ih.2⟩
        dsimp only
        split
        · exact s_ok_k k
        · split
          · exact s_ok_s ih.1
          · exact s_ok_k k
    · exact ⟨s_ok_s ih.1, s_ok_s ih.2⟩
theorem s_in {k N : Nat} {x : Int32} (h : s_ok k x) (hx : ¬ x = (-1)) (hk : k ≤ N) (hN : N < 2 ^ 31) : z_in x N = true := by
  rcases h with h | ⟨j, hj, h⟩
  · exact absurd h hx
  · exact z_inN h (by omega) hN
def s_btw (H P : Nat → Int32) (b e : Nat) (h : Int32) : Int32 := if 0 < H e - H b then P b + (P e - P b) * (h - H b) / (H e - H b) else P b
def s_anX (H P : Nat → Int32) (h : Int32) (s : Int32 × Int32) : Int32 :=
  if s.1 = (-1) then (if s.2 = (-1) then 100 else P s.2.toNatClampNeg) else if s.2 = (-1) then P s.1.toNatClampNeg else s_btw H P s.1.toNatClampNeg s.2.toNatClampNeg h
theorem s_pos0 {x : Int32} (h : 0 < x) : (!decide (x = 0)) = true := by
  have : ¬ x = 0 := fun e => by rw [e] at h; exact absurd h (by decide)
  rw [decide_eq_false this]; rfl
set_option maxRecDepth 20000 in
/-- LampHouse$Ages.between -/
theorem x_between (E : zE) (d : Nat) (I : Nat → Nat → Int32) (J : Nat → Nat → Int64) (w : Nat) (b e h : Int32) (hb : z_in b 40 = true) (he : z_in e 40 = true) : z_cl E (d + 1) 5 [.ref 33, .int b, .int e, .int h] (161, I, J, RF w) = some (some (.int (s_btw (I 35) (I 36) b.toNatClampNeg e.toNatClampNeg h)), 161, I, J, RF w) := by
  refine z_call (d := d + 0) (M := z_m5) rfl rfl ?_
  refine z_evG 4 (y := z_ild (z_ia E 161 (I, J, RF w) 35) e fun vv => z_go 6 [some (.ref 33), some (.int b), some (.int e), some (.int h), none, none] [.int vv] 161 (I, J, RF w)) (fun _ => rfl) ?_
  refine z_evB (N := 40) (f := (I 35)) rfl he ?_
  refine z_evL ?_
  refine z_evG 4 (y := z_ild (z_ia E 161 (I, J, RF w) 35) b fun vv => z_go 12 [some (.ref 33), some (.int b), some (.int e), some (.int h), none, none] [.int vv, .int ((I 35) (e).toNatClampNeg)] 161 (I, J, RF w)) (fun _ => rfl) ?_
  refine z_evB (N := 40) (f := (I 35)) rfl hb ?_
  refine z_evL ?_
  refine z_evG 4 (y := if 0 < (((I 35) (e).toNatClampNeg) - ((I 35) (b).toNatClampNeg)) then z_go 27 [some (.ref 33), some (.int b), some (.int e), some (.int h), some (.int (((I 35) (e).toNatClampNeg) - ((I 35) (b).toNatClampNeg))), none] [] 161 (I, J, RF w) else z_go 20 [some (.ref 33), some (.int b), some (.int e), some (.int h), some (.int (((I 35) (e).toNatClampNeg) - ((I 35) (b).toNatClampNeg))), none] [] 161 (I, J, RF w)) (fun _ => rfl) ?_
  refine z_evI (fun h1 => ?_) (fun h1 => ?_)
  · refine z_evL ?_
    refine z_evG 4 (y := z_ild (z_ia E 161 (I, J, RF w) 36) e fun vv => z_go 33 [some (.ref 33), some (.int b), some (.int e), some (.int h), some (.int (((I 35) (e).toNatClampNeg) - ((I 35) (b).toNatClampNeg))), none] [.int vv] 161 (I, J, RF w)) (fun _ => rfl) ?_
    refine z_evB (N := 40) (f := (I 36)) rfl he ?_
    refine z_evL ?_
    refine z_evG 4 (y := z_ild (z_ia E 161 (I, J, RF w) 36) b fun vv => z_go 39 [some (.ref 33), some (.int b), some (.int e), some (.int h), some (.int (((I 35) (e).toNatClampNeg) - ((I 35) (b).toNatClampNeg))), none] [.int vv, .int ((I 36) (e).toNatClampNeg)] 161 (I, J, RF w)) (fun _ => rfl) ?_
    refine z_evB (N := 40) (f := (I 36)) rfl hb ?_
    refine z_evL ?_
    refine z_evG 6 (y := z_ild (z_ia E 161 (I, J, RF w) 36) b fun vv => z_go 48 [some (.ref 33), some (.int b), some (.int e), some (.int h), some (.int (((I 35) (e).toNatClampNeg) - ((I 35) (b).toNatClampNeg))), some (.int (((I 36) (e).toNatClampNeg) - ((I 36) (b).toNatClampNeg)))] [.int vv] 161 (I, J, RF w)) (fun _ => rfl) ?_
    refine z_evB (N := 40) (f := (I 36)) rfl hb ?_
    refine z_evL ?_
    refine z_evG 6 (y := z_ild (z_ia E 161 (I, J, RF w) 35) b fun vv => z_go 57 [some (.ref 33), some (.int b), some (.int e), some (.int h), some (.int (((I 35) (e).toNatClampNeg) - ((I 35) (b).toNatClampNeg))), some (.int (((I 36) (e).toNatClampNeg) - ((I 36) (b).toNatClampNeg)))] [.int vv, .int h, .int (((I 36) (e).toNatClampNeg) - ((I 36) (b).toNatClampNeg)), .int ((I 36) (b).toNatClampNeg)] 161 (I, J, RF w)) (fun _ => rfl) ?_
    refine z_evB (N := 40) (f := (I 35)) rfl hb ?_
    refine z_evL ?_
    refine z_evG 4 (y := z_ck (!decide ((((I 35) (e).toNatClampNeg) - ((I 35) (b).toNatClampNeg) : Int32) = 0)) (z_go 62 [some (.ref 33), some (.int b), some (.int e), some (.int h), some (.int (((I 35) (e).toNatClampNeg) - ((I 35) (b).toNatClampNeg))), some (.int (((I 36) (e).toNatClampNeg) - ((I 36) (b).toNatClampNeg)))] [.int (((((I 36) (e).toNatClampNeg) - ((I 36) (b).toNatClampNeg)) * (h - ((I 35) (b).toNatClampNeg))) / (((I 35) (e).toNatClampNeg) - ((I 35) (b).toNatClampNeg))), .int ((I 36) (b).toNatClampNeg)] 161 (I, J, RF w))) (fun _ => rfl) ?_
    refine z_evC (s_pos0 h1) ?_
    refine z_evL ?_
    refine z_evG 2 (y := some (.inr (some (.int (((I 36) (b).toNatClampNeg) + (((((I 36) (e).toNatClampNeg) - ((I 36) (b).toNatClampNeg)) * (h - ((I 35) (b).toNatClampNeg))) / (((I 35) (e).toNatClampNeg) - ((I 35) (b).toNatClampNeg))))), 161, I, J, RF w))) (fun _ => rfl) ?_
    exact z_evR (by unfold s_btw; rw [if_pos h1])
  · refine z_evL ?_
    refine z_evG 4 (y := z_ild (z_ia E 161 (I, J, RF w) 36) b fun vv => z_go 26 [some (.ref 33), some (.int b), some (.int e), some (.int h), some (.int (((I 35) (e).toNatClampNeg) - ((I 35) (b).toNatClampNeg))), none] [.int vv] 161 (I, J, RF w)) (fun _ => rfl) ?_
    refine z_evB (N := 40) (f := (I 36)) rfl hb ?_
    refine z_evL ?_
    refine z_evG 1 (y := some (.inr (some (.int ((I 36) (b).toNatClampNeg)), 161, I, J, RF w))) (fun _ => rfl) ?_
    exact z_evR (by unfold s_btw; rw [if_neg h1])
set_option maxRecDepth 20000 in
/-- LampHouse$Ages.stillAt -/
theorem x_stillAt (E : zE) (d : Nat) (I : Nat → Nat → Int32) (J : Nat → Nat → Int64) (w : Nat) (t n : Nat) (h : Int32) (h_n : I 33 3 = nI n) (hm_n : n ≤ 40) (hl_t : t < 20) : z_cl E (d + 2) 4 [.ref 33, .int (nI t), .int h] (161, I, J, RF w) = some (some (.int (s_anX (I 35) (I 36) h (s_SX (I 34) (I 35) (nI t) h n))), 161, I, J, RF w) := by
  refine z_call (d := d + 1) (M := z_m4) rfl rfl ?_
  refine z_evG 6 (y := z_go 8 [some (.ref 33), some (.int (nI t)), some (.int h), some (.int (-1)), some (.int (-1)), some (.int 0)] [] 161 (I, J, RF w)) (fun _ => rfl) ?_
  refine z_evL ?_
  refine z_loop (F := fun k => ([some (.ref 33), some (.int (nI t)), some (.int h), some (.int ((s_SX (I 34) (I 35) (nI t) h k).1)), some (.int ((s_SX (I 34) (I 35) (nI t) h k).2)), some (.int (nI k))], (I, J, RF w))) (P := fun k => True) n trivial (fun hP => ?_) (fun k hk hP next => ?_)
  · show z_Ev E (d + 1) z_m4 8 [some (.ref 33), some (.int (nI t)), some (.int h), some (.int ((s_SX (I 34) (I 35) (nI t) h n).1)), some (.int ((s_SX (I 34) (I 35) (nI t) h n).2)), some (.int (nI n))] [] 161 (I, J, RF w) _
    refine z_evG 4 (y := if (nI n) < (I 33 3) then z_go 17 [some (.ref 33), some (.int (nI t)), some (.int h), some (.int ((s_SX (I 34) (I 35) (nI t) h n).1)), some (.int ((s_SX (I 34) (I 35) (nI t) h n).2)), some (.int (nI n))] [] 161 (I, J, RF w) else z_go 119 [some (.ref 33), some (.int (nI t)), some (.int h), some (.int ((s_SX (I 34) (I 35) (nI t) h n).1)), some (.int ((s_SX (I 34) (I 35) (nI t) h n).2)), some (.int (nI n))] [] 161 (I, J, RF w)) (fun _ => rfl) ?_
    refine z_evF (mt (show _ ↔ n < n from z_ltN rfl h_n (by omega) (by omega)).mp (by omega)) ?_
    refine z_evL ?_
    refine z_evG 3 (y := if ((s_SX (I 34) (I 35) (nI t) h n).1) = (-1) then z_go 124 [some (.ref 33), some (.int (nI t)), some (.int h), some (.int ((s_SX (I 34) (I 35) (nI t) h n).1)), some (.int ((s_SX (I 34) (I 35) (nI t) h n).2)), some (.int (nI n))] [] 161 (I, J, RF w) else z_go 143 [some (.ref 33), some (.int (nI t)), some (.int h), some (.int ((s_SX (I 34) (I 35) (nI t) h n).1)), some (.int ((s_SX (I 34) (I 35) (nI t) h n).2)), some (.int (nI n))] [] 161 (I, J, RF w)) (fun _ => rfl) ?_
    refine z_evI (fun h2 => ?_) (fun h2 => ?_)
    · refine z_evL ?_
      refine z_evG 3 (y := if ((s_SX (I 34) (I 35) (nI t) h n).2) = (-1) then z_go 130 [some (.ref 33), some (.int (nI t)), some (.int h), some (.int ((s_SX (I 34) (I 35) (nI t) h n).1)), some (.int ((s_SX (I 34) (I 35) (nI t) h n).2)), some (.int (nI n))] [] 161 (I, J, RF w) else z_go 135 [some (.ref 33), some (.int (nI t)), some (.int h), some (.int ((s_SX (I 34) (I 35) (nI t) h n).1)), some (.int ((s_SX (I 34) (I 35) (nI t) h n).2)), some (.int (nI n))] [] 161 (I, J, RF w)) (fun _ => rfl) ?_
      refine z_evI (fun h3 => ?_) (fun h3 => ?_)
      · refine z_evL ?_
        refine z_evG 3 (y := some (.inr (some (.int 100), 161, I, J, RF w))) (fun _ => rfl) ?_
        exact z_evR (by unfold s_anX; rw [if_pos h2, if_pos h3])
      · refine z_evL ?_
        refine z_evG 4 (y := z_ild (z_ia E 161 (I, J, RF w) 36) ((s_SX (I 34) (I 35) (nI t) h n).2) fun vv => z_go 142 [some (.ref 33), some (.int (nI t)), some (.int h), some (.int ((s_SX (I 34) (I 35) (nI t) h n).1)), some (.int ((s_SX (I 34) (I 35) (nI t) h n).2)), some (.int (nI n))] [.int vv] 161 (I, J, RF w)) (fun _ => rfl) ?_
        refine z_evB (N := 40) (f := (I 36)) rfl (s_in (s_okX (I 34) (I 35) (nI t) h n).2 (by assumption) (by omega) (by decide)) ?_
        refine z_evL ?_
        refine z_evG 1 (y := some (.inr (some (.int ((I 36) ((s_SX (I 34) (I 35) (nI t) h n).2).toNatClampNeg)), 161, I, J, RF w))) (fun _ => rfl) ?_
        exact z_evR (by unfold s_anX; rw [if_pos h2, if_neg h3])
    · refine z_evL ?_
      refine z_evG 3 (y := if ((s_SX (I 34) (I 35) (nI t) h n).2) = (-1) then z_go 149 [some (.ref 33), some (.int (nI t)), some (.int h), some (.int ((s_SX (I 34) (I 35) (nI t) h n).1)), some (.int ((s_SX (I 34) (I 35) (nI t) h n).2)), some (.int (nI n))] [] 161 (I, J, RF w) else z_go 158 [some (.ref 33), some (.int (nI t)), some (.int h), some (.int ((s_SX (I 34) (I 35) (nI t) h n).1)), some (.int ((s_SX (I 34) (I 35) (nI t) h n).2)), some (.int (nI n))] [] 161 (I, J, RF w)) (fun _ => rfl) ?_
      refine z_evI (fun h4 => ?_) (fun h4 => ?_)
      · refine z_evL ?_
        refine z_evG 4 (y := z_ild (z_ia E 161 (I, J, RF w) 36) ((s_SX (I 34) (I 35) (nI t) h n).1) fun vv => z_go 155 [some (.ref 33), some (.int (nI t)), some (.int h), some (.int ((s_SX (I 34) (I 35) (nI t) h n).1)), some (.int ((s_SX (I 34) (I 35) (nI t) h n).2)), some (.int (nI n))] [.int vv] 161 (I, J, RF w)) (fun _ => rfl) ?_
        refine z_evB (N := 40) (f := (I 36)) rfl (s_in (s_okX (I 34) (I 35) (nI t) h n).1 (by assumption) (by omega) (by decide)) ?_
        refine z_evL ?_
        refine z_evG 2 (y := some (.inr (some (.int ((I 36) ((s_SX (I 34) (I 35) (nI t) h n).1).toNatClampNeg)), 161, I, J, RF w))) (fun _ => rfl) ?_
        exact z_evR (by unfold s_anX; rw [if_neg h2, if_pos h4])
      · refine z_evL ?_
        refine z_evG 5 (y := z_ret (z_cl E (d + 1) 5 [.ref 33, .int ((s_SX (I 34) (I 35) (nI t) h n).1), .int ((s_SX (I 34) (I 35) (nI t) h n).2), .int h] (161, (I, J, RF w))) 166 [some (.ref 33), some (.int (nI t)), some (.int h), some (.int ((s_SX (I 34) (I 35) (nI t) h n).1)), some (.int ((s_SX (I 34) (I 35) (nI t) h n).2)), some (.int (nI n))] []) (fun _ => rfl) ?_
        refine z_evK (v := .int (s_btw (I 35) (I 36) ((s_SX (I 34) (I 35) (nI t) h n).1).toNatClampNeg ((s_SX (I 34) (I 35) (nI t) h n).2).toNatClampNeg h)) (z' := 161) (σ' := (I, J, RF w)) (x_between E d I J w ((s_SX (I 34) (I 35) (nI t) h n).1) ((s_SX (I 34) (I 35) (nI t) h n).2) h (s_in (s_okX (I 34) (I 35) (nI t) h n).1 (by assumption) (by omega) (by decide)) (s_in (s_okX (I 34) (I 35) (nI t) h n).2 (by assumption) (by omega) (by decide))) ?_
        refine z_evG 1 (y := some (.inr (some (.int (s_btw (I 35) (I 36) ((s_SX (I 34) (I 35) (nI t) h n).1).toNatClampNeg ((s_SX (I 34) (I 35) (nI t) h n).2).toNatClampNeg h)), 161, I, J, RF w))) (fun _ => rfl) ?_
        exact z_evR (by unfold s_anX; rw [if_neg h2, if_neg h4])
  · show z_Ev E (d + 1) z_m4 8 [some (.ref 33), some (.int (nI t)), some (.int h), some (.int ((s_SX (I 34) (I 35) (nI t) h k).1)), some (.int ((s_SX (I 34) (I 35) (nI t) h k).2)), some (.int (nI k))] [] 161 (I, J, RF w) _
    have nx : (True) → z_Ev E (d + 1) z_m4 8 [some (.ref 33), some (.int (nI t)), some (.int h), some (.int ((s_SX (I 34) (I 35) (nI t) h (k + 1)).1)), some (.int ((s_SX (I 34) (I 35) (nI t) h (k + 1)).2)), some (.int (nI (k + 1)))] [] 161 (I, J, RF w) _ := next
    refine z_evG 4 (y := if (nI k) < (I 33 3) then z_go 17 [some (.ref 33), some (.int (nI t)), some (.int h), some (.int ((s_SX (I 34) (I 35) (nI t) h k).1)), some (.int ((s_SX (I 34) (I 35) (nI t) h k).2)), some (.int (nI k))] [] 161 (I, J, RF w) else z_go 119 [some (.ref 33), some (.int (nI t)), some (.int h), some (.int ((s_SX (I 34) (I 35) (nI t) h k).1)), some (.int ((s_SX (I 34) (I 35) (nI t) h k).2)), some (.int (nI k))] [] 161 (I, J, RF w)) (fun _ => rfl) ?_
    refine z_evT ((show _ ↔ k < n from z_ltN rfl h_n (by omega) (by omega)).mpr (by omega)) ?_
    refine z_evL ?_
    refine z_evG 4 (y := z_ild (z_ia E 161 (I, J, RF w) 34) (nI k) fun vv => z_go 24 [some (.ref 33), some (.int (nI t)), some (.int h), some (.int ((s_SX (I 34) (I 35) (nI t) h k).1)), some (.int ((s_SX (I 34) (I 35) (nI t) h k).2)), some (.int (nI k))] [.int vv] 161 (I, J, RF w)) (fun _ => rfl) ?_
    refine z_evBn (N := 40) (f := (I 34)) (k := k) rfl rfl (by omega) ?_
    refine z_evL ?_
    refine z_evG 2 (y := if (I 34 k) = (nI t) then z_go 28 [some (.ref 33), some (.int (nI t)), some (.int h), some (.int ((s_SX (I 34) (I 35) (nI t) h k).1)), some (.int ((s_SX (I 34) (I 35) (nI t) h k).2)), some (.int (nI k))] [] 161 (I, J, RF w) else z_go 70 [some (.ref 33), some (.int (nI t)), some (.int h), some (.int ((s_SX (I 34) (I 35) (nI t) h k).1)), some (.int ((s_SX (I 34) (I 35) (nI t) h k).2)), some (.int (nI k))] [] 161 (I, J, RF w)) (fun _ => rfl) ?_
    refine z_evI (fun h6 => ?_) (fun h6 => ?_)
    · refine z_evL ?_
      refine z_evG 4 (y := z_ild (z_ia E 161 (I, J, RF w) 35) (nI k) fun vv => z_go 35 [some (.ref 33), some (.int (nI t)), some (.int h), some (.int ((s_SX (I 34) (I 35) (nI t) h k).1)), some (.int ((s_SX (I 34) (I 35) (nI t) h k).2)), some (.int (nI k))] [.int vv] 161 (I, J, RF w)) (fun _ => rfl) ?_
      refine z_evBn (N := 40) (f := (I 35)) (k := k) rfl rfl (by omega) ?_
      refine z_evL ?_
      refine z_evG 2 (y := if h < (I 35 k) then z_go 70 [some (.ref 33), some (.int (nI t)), some (.int h), some (.int ((s_SX (I 34) (I 35) (nI t) h k).1)), some (.int ((s_SX (I 34) (I 35) (nI t) h k).2)), some (.int (nI k))] [] 161 (I, J, RF w) else z_go 39 [some (.ref 33), some (.int (nI t)), some (.int h), some (.int ((s_SX (I 34) (I 35) (nI t) h k).1)), some (.int ((s_SX (I 34) (I 35) (nI t) h k).2)), some (.int (nI k))] [] 161 (I, J, RF w)) (fun _ => rfl) ?_
      refine z_evI (fun h7 => ?_) (fun h7 => ?_)
      · refine z_evL ?_
        refine z_evG 4 (y := z_ild (z_ia E 161 (I, J, RF w) 34) (nI k) fun vv => z_go 77 [some (.ref 33), some (.int (nI t)), some (.int h), some (.int ((s_SX (I 34) (I 35) (nI t) h k).1)), some (.int ((s_SX (I 34) (I 35) (nI t) h k).2)), some (.int (nI k))] [.int vv] 161 (I, J, RF w)) (fun _ => rfl) ?_
        refine z_evBn (N := 40) (f := (I 34)) (k := k) rfl rfl (by omega) ?_
        refine z_evL ?_
        refine z_evG 2 (y := if (I 34 k) = (nI t) then z_go 81 [some (.ref 33), some (.int (nI t)), some (.int h), some (.int ((s_SX (I 34) (I 35) (nI t) h k).1)), some (.int ((s_SX (I 34) (I 35) (nI t) h k).2)), some (.int (nI k))] [] 161 (I, J, RF w) else z_go 113 [some (.ref 33), some (.int (nI t)), some (.int h), some (.int ((s_SX (I 34) (I 35) (nI t) h k).1)), some (.int ((s_SX (I 34) (I 35) (nI t) h k).2)), some (.int (nI k))] [] 161 (I, J, RF w)) (fun _ => rfl) ?_
        refine z_evI (fun h8 => ?_) (fun h8 => ?_)
        · refine z_evL ?_
          refine z_evG 3 (y := if ((s_SX (I 34) (I 35) (nI t) h k).2) = (-1) then z_go 104 [some (.ref 33), some (.int (nI t)), some (.int h), some (.int ((s_SX (I 34) (I 35) (nI t) h k).1)), some (.int ((s_SX (I 34) (I 35) (nI t) h k).2)), some (.int (nI k))] [] 161 (I, J, RF w) else z_go 87 [some (.ref 33), some (.int (nI t)), some (.int h), some (.int ((s_SX (I 34) (I 35) (nI t) h k).1)), some (.int ((s_SX (I 34) (I 35) (nI t) h k).2)), some (.int (nI k))] [] 161 (I, J, RF w)) (fun _ => rfl) ?_
          refine z_evI (fun h9 => ?_) (fun h9 => ?_)
          · refine z_evL ?_
            refine z_evG 5 (y := z_go 8 [some (.ref 33), some (.int (nI t)), some (.int h), some (.int ((s_SX (I 34) (I 35) (nI t) h k).1)), some (.int (nI k)), some (.int ((nI k) + 1))] [] 161 (I, J, RF w)) (fun _ => rfl) ?_
            refine z_evL ?_
            have e : s_SX (I 34) (I 35) (nI t) h (k + 1) = ((s_SX (I 34) (I 35) (nI t) h k).1, nI k) := show s_stX (I 34) (I 35) (nI t) h k (s_SX (I 34) (I 35) (nI t) h k) = _ from (by unfold s_stX; rw [if_pos h6, if_pos h7, if_pos h9])
            rw [e] at nx
            rw [nI_1 k]
            exact nx trivial
          · refine z_evL ?_
            refine z_evG 4 (y := z_ild (z_ia E 161 (I, J, RF w) 35) (nI k) fun vv => z_go 94 [some (.ref 33), some (.int (nI t)), some (.int h), some (.int ((s_SX (I 34) (I 35) (nI t) h k).1)), some (.int ((s_SX (I 34) (I 35) (nI t) h k).2)), some (.int (nI k))] [.int vv] 161 (I, J, RF w)) (fun _ => rfl) ?_
            refine z_evBn (N := 40) (f := (I 35)) (k := k) rfl rfl (by omega) ?_
            refine z_evL ?_
            refine z_evG 4 (y := z_ild (z_ia E 161 (I, J, RF w) 35) ((s_SX (I 34) (I 35) (nI t) h k).2) fun vv => z_go 101 [some (.ref 33), some (.int (nI t)), some (.int h), some (.int ((s_SX (I 34) (I 35) (nI t) h k).1)), some (.int ((s_SX (I 34) (I 35) (nI t) h k).2)), some (.int (nI k))] [.int vv, .int (I 35 k)] 161 (I, J, RF w)) (fun _ => rfl) ?_
            refine z_evB (N := 40) (f := (I 35)) rfl (s_in (s_okX (I 34) (I 35) (nI t) h k).2 (by assumption) (by omega) (by decide)) ?_
            refine z_evL ?_
            refine z_evG 1 (y := if ((I 35) ((s_SX (I 34) (I 35) (nI t) h k).2).toNatClampNeg) < (I 35 k) then z_go 109 [some (.ref 33), some (.int (nI t)), some (.int h), some (.int ((s_SX (I 34) (I 35) (nI t) h k).1)), some (.int ((s_SX (I 34) (I 35) (nI t) h k).2)), some (.int (nI k))] [] 161 (I, J, RF w) else z_go 104 [some (.ref 33), some (.int (nI t)), some (.int h), some (.int ((s_SX (I 34) (I 35) (nI t) h k).1)), some (.int ((s_SX (I 34) (I 35) (nI t) h k).2)), some (.int (nI k))] [] 161 (I, J, RF w)) (fun _ => rfl) ?_
            refine z_evI (fun h10 => ?_) (fun h10 => ?_)
            · refine z_evL ?_
              refine z_evG 4 (y := z_go 8 [some (.ref 33), some (.int (nI t)), some (.int h), some (.int ((s_SX (I 34) (I 35) (nI t) h k).1)), some (.int ((s_SX (I 34) (I 35) (nI t) h k).2)), some (.int ((nI k) + 1))] [] 161 (I, J, RF w)) (fun _ => rfl) ?_
              refine z_evL ?_
              have e : s_SX (I 34) (I 35) (nI t) h (k + 1) = ((s_SX (I 34) (I 35) (nI t) h k).1, (s_SX (I 34) (I 35) (nI t) h k).2) := show s_stX (I 34) (I 35) (nI t) h k (s_SX (I 34) (I 35) (nI t) h k) = _ from (by unfold s_stX; rw [if_pos h6, if_pos h7, if_neg h9, if_pos h10])
              rw [e] at nx
              rw [nI_1 k]
              exact nx trivial
            · refine z_evL ?_
              refine z_evG 5 (y := z_go 8 [some (.ref 33), some (.int (nI t)), some (.int h), some (.int ((s_SX (I 34) (I 35) (nI t) h k).1)), some (.int (nI k)), some (.int ((nI k) + 1))] [] 161 (I, J, RF w)) (fun _ => rfl) ?_
              refine z_evL ?_
              have e : s_SX (I 34) (I 35) (nI t) h (k + 1) = ((s_SX (I 34) (I 35) (nI t) h k).1, nI k) := show s_stX (I 34) (I 35) (nI t) h k (s_SX (I 34) (I 35) (nI t) h k) = _ from (by unfold s_stX; rw [if_pos h6, if_pos h7, if_neg h9, if_neg h10])
              rw [e] at nx
              rw [nI_1 k]
              exact nx trivial
        · refine z_evL ?_
          refine z_evG 2 (y := z_go 8 [some (.ref 33), some (.int (nI t)), some (.int h), some (.int ((s_SX (I 34) (I 35) (nI t) h k).1)), some (.int ((s_SX (I 34) (I 35) (nI t) h k).2)), some (.int ((nI k) + 1))] [] 161 (I, J, RF w)) (fun _ => rfl) ?_
          refine z_evL ?_
          exact absurd h6 h8
      · refine z_evL ?_
        refine z_evG 3 (y := if ((s_SX (I 34) (I 35) (nI t) h k).1) = (-1) then z_go 60 [some (.ref 33), some (.int (nI t)), some (.int h), some (.int ((s_SX (I 34) (I 35) (nI t) h k).1)), some (.int ((s_SX (I 34) (I 35) (nI t) h k).2)), some (.int (nI k))] [] 161 (I, J, RF w) else z_go 44 [some (.ref 33), some (.int (nI t)), some (.int h), some (.int ((s_SX (I 34) (I 35) (nI t) h k).1)), some (.int ((s_SX (I 34) (I 35) (nI t) h k).2)), some (.int (nI k))] [] 161 (I, J, RF w)) (fun _ => rfl) ?_
        refine z_evI (fun h11 => ?_) (fun h11 => ?_)
        · refine z_evL ?_
          refine z_evG 6 (y := z_go 8 [some (.ref 33), some (.int (nI t)), some (.int h), some (.int (nI k)), some (.int ((s_SX (I 34) (I 35) (nI t) h k).2)), some (.int ((nI k) + 1))] [] 161 (I, J, RF w)) (fun _ => rfl) ?_
          refine z_evL ?_
          have e : s_SX (I 34) (I 35) (nI t) h (k + 1) = (nI k, (s_SX (I 34) (I 35) (nI t) h k).2) := show s_stX (I 34) (I 35) (nI t) h k (s_SX (I 34) (I 35) (nI t) h k) = _ from (by unfold s_stX; rw [if_pos h6, if_neg h7, if_pos h11])
          rw [e] at nx
          rw [nI_1 k]
          exact nx trivial
        · refine z_evL ?_
          refine z_evG 4 (y := z_ild (z_ia E 161 (I, J, RF w) 35) (nI k) fun vv => z_go 51 [some (.ref 33), some (.int (nI t)), some (.int h), some (.int ((s_SX (I 34) (I 35) (nI t) h k).1)), some (.int ((s_SX (I 34) (I 35) (nI t) h k).2)), some (.int (nI k))] [.int vv] 161 (I, J, RF w)) (fun _ => rfl) ?_
          refine z_evBn (N := 40) (f := (I 35)) (k := k) rfl rfl (by omega) ?_
          refine z_evL ?_
          refine z_evG 4 (y := z_ild (z_ia E 161 (I, J, RF w) 35) ((s_SX (I 34) (I 35) (nI t) h k).1) fun vv => z_go 57 [some (.ref 33), some (.int (nI t)), some (.int h), some (.int ((s_SX (I 34) (I 35) (nI t) h k).1)), some (.int ((s_SX (I 34) (I 35) (nI t) h k).2)), some (.int (nI k))] [.int vv, .int (I 35 k)] 161 (I, J, RF w)) (fun _ => rfl) ?_
          refine z_evB (N := 40) (f := (I 35)) rfl (s_in (s_okX (I 34) (I 35) (nI t) h k).1 (by assumption) (by omega) (by decide)) ?_
          refine z_evL ?_
          refine z_evG 1 (y := if (I 35 k) < ((I 35) ((s_SX (I 34) (I 35) (nI t) h k).1).toNatClampNeg) then z_go 65 [some (.ref 33), some (.int (nI t)), some (.int h), some (.int ((s_SX (I 34) (I 35) (nI t) h k).1)), some (.int ((s_SX (I 34) (I 35) (nI t) h k).2)), some (.int (nI k))] [] 161 (I, J, RF w) else z_go 60 [some (.ref 33), some (.int (nI t)), some (.int h), some (.int ((s_SX (I 34) (I 35) (nI t) h k).1)), some (.int ((s_SX (I 34) (I 35) (nI t) h k).2)), some (.int (nI k))] [] 161 (I, J, RF w)) (fun _ => rfl) ?_
          refine z_evI (fun h12 => ?_) (fun h12 => ?_)
          · refine z_evL ?_
            refine z_evG 5 (y := z_go 8 [some (.ref 33), some (.int (nI t)), some (.int h), some (.int ((s_SX (I 34) (I 35) (nI t) h k).1)), some (.int ((s_SX (I 34) (I 35) (nI t) h k).2)), some (.int ((nI k) + 1))] [] 161 (I, J, RF w)) (fun _ => rfl) ?_
            refine z_evL ?_
            have e : s_SX (I 34) (I 35) (nI t) h (k + 1) = ((s_SX (I 34) (I 35) (nI t) h k).1, (s_SX (I 34) (I 35) (nI t) h k).2) := show s_stX (I 34) (I 35) (nI t) h k (s_SX (I 34) (I 35) (nI t) h k) = _ from (by unfold s_stX; rw [if_pos h6, if_neg h7, if_neg h11, if_pos h12])
            rw [e] at nx
            rw [nI_1 k]
            exact nx trivial
          · refine z_evL ?_
            refine z_evG 6 (y := z_go 8 [some (.ref 33), some (.int (nI t)), some (.int h), some (.int (nI k)), some (.int ((s_SX (I 34) (I 35) (nI t) h k).2)), some (.int ((nI k) + 1))] [] 161 (I, J, RF w)) (fun _ => rfl) ?_
            refine z_evL ?_
            have e : s_SX (I 34) (I 35) (nI t) h (k + 1) = (nI k, (s_SX (I 34) (I 35) (nI t) h k).2) := show s_stX (I 34) (I 35) (nI t) h k (s_SX (I 34) (I 35) (nI t) h k) = _ from (by unfold s_stX; rw [if_pos h6, if_neg h7, if_neg h11, if_neg h12])
            rw [e] at nx
            rw [nI_1 k]
            exact nx trivial
    · refine z_evL ?_
      refine z_evG 4 (y := z_ild (z_ia E 161 (I, J, RF w) 34) (nI k) fun vv => z_go 77 [some (.ref 33), some (.int (nI t)), some (.int h), some (.int ((s_SX (I 34) (I 35) (nI t) h k).1)), some (.int ((s_SX (I 34) (I 35) (nI t) h k).2)), some (.int (nI k))] [.int vv] 161 (I, J, RF w)) (fun _ => rfl) ?_
      refine z_evBn (N := 40) (f := (I 34)) (k := k) rfl rfl (by omega) ?_
      refine z_evL ?_
      refine z_evG 2 (y := if (I 34 k) = (nI t) then z_go 81 [some (.ref 33), some (.int (nI t)), some (.int h), some (.int ((s_SX (I 34) (I 35) (nI t) h k).1)), some (.int ((s_SX (I 34) (I 35) (nI t) h k).2)), some (.int (nI k))] [] 161 (I, J, RF w) else z_go 113 [some (.ref 33), some (.int (nI t)), some (.int h), some (.int ((s_SX (I 34) (I 35) (nI t) h k).1)), some (.int ((s_SX (I 34) (I 35) (nI t) h k).2)), some (.int (nI k))] [] 161 (I, J, RF w)) (fun _ => rfl) ?_
      refine z_evI (fun h13 => ?_) (fun h13 => ?_)
      · refine z_evL ?_
        refine z_evG 3 (y := if ((s_SX (I 34) (I 35) (nI t) h k).2) = (-1) then z_go 104 [some (.ref 33), some (.int (nI t)), some (.int h), some (.int ((s_SX (I 34) (I 35) (nI t) h k).1)), some (.int ((s_SX (I 34) (I 35) (nI t) h k).2)), some (.int (nI k))] [] 161 (I, J, RF w) else z_go 87 [some (.ref 33), some (.int (nI t)), some (.int h), some (.int ((s_SX (I 34) (I 35) (nI t) h k).1)), some (.int ((s_SX (I 34) (I 35) (nI t) h k).2)), some (.int (nI k))] [] 161 (I, J, RF w)) (fun _ => rfl) ?_
        refine z_evI (fun h14 => ?_) (fun h14 => ?_)
        · refine z_evL ?_
          refine z_evG 5 (y := z_go 8 [some (.ref 33), some (.int (nI t)), some (.int h), some (.int ((s_SX (I 34) (I 35) (nI t) h k).1)), some (.int (nI k)), some (.int ((nI k) + 1))] [] 161 (I, J, RF w)) (fun _ => rfl) ?_
          refine z_evL ?_
          exact absurd h13 h6
        · refine z_evL ?_
          refine z_evG 4 (y := z_ild (z_ia E 161 (I, J, RF w) 35) (nI k) fun vv => z_go 94 [some (.ref 33), some (.int (nI t)), some (.int h), some (.int ((s_SX (I 34) (I 35) (nI t) h k).1)), some (.int ((s_SX (I 34) (I 35) (nI t) h k).2)), some (.int (nI k))] [.int vv] 161 (I, J, RF w)) (fun _ => rfl) ?_
          refine z_evBn (N := 40) (f := (I 35)) (k := k) rfl rfl (by omega) ?_
          refine z_evL ?_
          refine z_evG 4 (y := z_ild (z_ia E 161 (I, J, RF w) 35) ((s_SX (I 34) (I 35) (nI t) h k).2) fun vv => z_go 101 [some (.ref 33), some (.int (nI t)), some (.int h), some (.int ((s_SX (I 34) (I 35) (nI t) h k).1)), some (.int ((s_SX (I 34) (I 35) (nI t) h k).2)), some (.int (nI k))] [.int vv, .int (I 35 k)] 161 (I, J, RF w)) (fun _ => rfl) ?_
          refine z_evB (N := 40) (f := (I 35)) rfl (s_in (s_okX (I 34) (I 35) (nI t) h k).2 (by assumption) (by omega) (by decide)) ?_
          refine z_evL ?_
          refine z_evG 1 (y := if ((I 35) ((s_SX (I 34) (I 35) (nI t) h k).2).toNatClampNeg) < (I 35 k) then z_go 109 [some (.ref 33), some (.int (nI t)), some (.int h), some (.int ((s_SX (I 34) (I 35) (nI t) h k).1)), some (.int ((s_SX (I 34) (I 35) (nI t) h k).2)), some (.int (nI k))] [] 161 (I, J, RF w) else z_go 104 [some (.ref 33), some (.int (nI t)), some (.int h), some (.int ((s_SX (I 34) (I 35) (nI t) h k).1)), some (.int ((s_SX (I 34) (I 35) (nI t) h k).2)), some (.int (nI k))] [] 161 (I, J, RF w)) (fun _ => rfl) ?_
          refine z_evI (fun h15 => ?_) (fun h15 => ?_)
          · refine z_evL ?_
            refine z_evG 4 (y := z_go 8 [some (.ref 33), some (.int (nI t)), some (.int h), some (.int ((s_SX (I 34) (I 35) (nI t) h k).1)), some (.int ((s_SX (I 34) (I 35) (nI t) h k).2)), some (.int ((nI k) + 1))] [] 161 (I, J, RF w)) (fun _ => rfl) ?_
            refine z_evL ?_
            exact absurd h13 h6
          · refine z_evL ?_
            refine z_evG 5 (y := z_go 8 [some (.ref 33), some (.int (nI t)), some (.int h), some (.int ((s_SX (I 34) (I 35) (nI t) h k).1)), some (.int (nI k)), some (.int ((nI k) + 1))] [] 161 (I, J, RF w)) (fun _ => rfl) ?_
            refine z_evL ?_
            exact absurd h13 h6
      · refine z_evL ?_
        refine z_evG 2 (y := z_go 8 [some (.ref 33), some (.int (nI t)), some (.int h), some (.int ((s_SX (I 34) (I 35) (nI t) h k).1)), some (.int ((s_SX (I 34) (I 35) (nI t) h k).2)), some (.int ((nI k) + 1))] [] 161 (I, J, RF w)) (fun _ => rfl) ?_
        refine z_evL ?_
        have e : s_SX (I 34) (I 35) (nI t) h (k + 1) = (s_SX (I 34) (I 35) (nI t) h k) := show s_stX (I 34) (I 35) (nI t) h k (s_SX (I 34) (I 35) (nI t) h k) = _ from if_neg h6
        rw [e] at nx
        rw [nI_1 k]
        exact nx trivial
