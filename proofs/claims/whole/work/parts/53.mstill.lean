-- STILL by the reference
def s_stM (T H : Nat → Int32) (t h : Int32) (k : Nat) (s : Int32 × Int32) : Int32 × Int32 :=
  if T k = t then (if h < H k then s.1 else if s.1 < 0 then nI k else if H k < H s.1.toNatClampNeg then s.1 else nI k, if H k < h then s.2 else if s.2 < 0 then nI k else if H s.2.toNatClampNeg < H k then s.2 else nI k) else s
def s_SM (T H : Nat → Int32) (t h : Int32) (k : Nat) : Int32 × Int32 := z_fo (s_stM T H t h) ((-1), (-1)) k
def s_okP (C : Nat → Prop) (k : Nat) (x : Int32) : Prop := x = (-1) ∨ ∃ j, j < k ∧ x = nI j ∧ C j
theorem s_okP_s {C : Nat → Prop} {k : Nat} {x : Int32} (h : s_okP C k x) : s_okP C (k + 1) x := by
  rcases h with h | ⟨j, hj, h⟩
  · exact .inl h
  · exact .inr ⟨j, by omega, h⟩
theorem s_okP_k {C : Nat → Prop} {k : Nat} (h : C k) : s_okP C (k + 1) (nI k) := .inr ⟨k, by omega, rfl, h⟩
theorem s_okM (T H : Nat → Int32) (t h : Int32) : ∀ k, s_okP (fun j => T j = t ∧ ¬ h < H j) k (s_SM T H t h k).1 ∧ s_okP (fun j => T j = t ∧ ¬ H j < h) k (s_SM T H t h k).2
  | 0 => ⟨.inl rfl, .inl rfl⟩
  | k + 1 => by
    have ih := s_okM T H t h k
    show s_okP _ (k + 1) (s_stM T H t h k (s_SM T H t h k)).1 ∧ s_okP _ (k + 1) (s_stM T H t h k (s_SM T H t h k)).2
    unfold s_stM
    split
    · rename_i hT
      refine ⟨?_, ?_⟩
      · dsimp only
        split
        · exact s_okP_s ih.1
        · rename_i q
          split
          · exact s_okP_k ⟨hT, q⟩
          · split
            · exact s_okP_s ih.1
            · exact s_okP_k ⟨hT, q⟩
      · dsimp only
        split
        · exact s_okP_s ih.2
        · rename_i q
          split
          · exact s_okP_k ⟨hT, q⟩
          · split
            · exact s_okP_s ih.2
            · exact s_okP_k ⟨hT, q⟩
    · exact ⟨s_okP_s ih.1, s_okP_s ih.2⟩
theorem s_inM {C : Nat → Prop} {k N : Nat} {x : Int32} (h : s_okP C k x) (hx : ¬ x < 0) (hk : k ≤ N) (hN : N < 2 ^ 31) : z_in x N = true := by
  rcases h with h | ⟨j, hj, h, _⟩
  · rw [h] at hx; exact absurd (by decide) hx
  · exact z_inN h (by omega) hN
theorem s_at {C : Nat → Prop} {k : Nat} {x : Int32} (h : s_okP C k x) (hx : ¬ x < 0) (hk : k < 2 ^ 31) : C x.toNatClampNeg := by
  rcases h with h | ⟨j, hj, h, c⟩
  · rw [h] at hx; exact absurd (by decide) hx
  · rw [h, nI_clamp (by omega)]; exact c
theorem s_sub0 {x y : Int32} (h : ¬ x = y) : (!decide (x - y = 0)) = true := by
  have : ¬ x - y = 0 := fun e => h (by rw [Int32.sub_eq_iff_eq_add] at e; simpa using e)
  rw [decide_eq_false this]; rfl
theorem s_dM {T H : Nat → Int32} {t h : Int32} {n : Nat} (hn : n < 2 ^ 31) (h1 : ¬ (s_SM T H t h n).1 < 0) (h2 : ¬ (s_SM T H t h n).2 < 0) (h3 : ¬ H (s_SM T H t h n).1.toNatClampNeg = h) : (!decide (H (s_SM T H t h n).2.toNatClampNeg - H (s_SM T H t h n).1.toNatClampNeg = 0)) = true := by
  have a := (s_at (s_okM T H t h n).1 h1 hn).2
  have b := (s_at (s_okM T H t h n).2 h2 hn).2
  refine s_sub0 (fun e => h3 ?_)
  rw [e] at b
  rw [Int32.lt_iff_toInt_lt] at a b
  exact Int32.toInt_inj.mp (by omega)
def s_anM (H P : Nat → Int32) (h : Int32) (s : Int32 × Int32) : Int32 :=
  if s.1 < 0 then (if s.2 < 0 then 100 else P s.2.toNatClampNeg) else if s.2 < 0 then P s.1.toNatClampNeg else if H s.1.toNatClampNeg = h then P s.1.toNatClampNeg else P s.1.toNatClampNeg + (P s.2.toNatClampNeg - P s.1.toNatClampNeg) * (h - H s.1.toNatClampNeg) / (H s.2.toNatClampNeg - H s.1.toNatClampNeg)
set_option maxRecDepth 20000 in
/-- LampHouseModel.stillAt -/
theorem m_stillAt (E : zE) (d : Nat) (I : Nat → Nat → Int32) (J : Nat → Nat → Int64) (w : Nat) (t n : Nat) (h : Int32) (h_n : I 127 47 = nI n) (hm_n : n ≤ 40) (hl_t : t < 20) : z_cl E (d + 1) 234 [.ref 127, .int (nI t), .int h] (161, I, J, RF w) = some (some (.int (s_anM (I 153) (I 154) h (s_SM (I 152) (I 153) (nI t) h n))), 161, I, J, RF w) := by
  refine z_call (d := d + 0) (M := z_m234) rfl rfl ?_
  refine z_evG 6 (y := z_go 8 [some (.ref 127), some (.int (nI t)), some (.int h), some (.int (-1)), some (.int (-1)), some (.int 0)] [] 161 (I, J, RF w)) (fun _ => rfl) ?_
  refine z_evL ?_
  refine z_loop (F := fun k => ([some (.ref 127), some (.int (nI t)), some (.int h), some (.int ((s_SM (I 152) (I 153) (nI t) h k).1)), some (.int ((s_SM (I 152) (I 153) (nI t) h k).2)), some (.int (nI k))], (I, J, RF w))) (P := fun k => True) n trivial (fun hP => ?_) (fun k hk hP next => ?_)
  · show z_Ev E d z_m234 8 [some (.ref 127), some (.int (nI t)), some (.int h), some (.int ((s_SM (I 152) (I 153) (nI t) h n).1)), some (.int ((s_SM (I 152) (I 153) (nI t) h n).2)), some (.int (nI n))] [] 161 (I, J, RF w) _
    refine z_evG 4 (y := if (nI n) < (I 127 47) then z_go 17 [some (.ref 127), some (.int (nI t)), some (.int h), some (.int ((s_SM (I 152) (I 153) (nI t) h n).1)), some (.int ((s_SM (I 152) (I 153) (nI t) h n).2)), some (.int (nI n))] [] 161 (I, J, RF w) else z_go 114 [some (.ref 127), some (.int (nI t)), some (.int h), some (.int ((s_SM (I 152) (I 153) (nI t) h n).1)), some (.int ((s_SM (I 152) (I 153) (nI t) h n).2)), some (.int (nI n))] [] 161 (I, J, RF w)) (fun _ => rfl) ?_
    refine z_evF (mt (show _ ↔ n < n from z_ltN rfl h_n (by omega) (by omega)).mp (by omega)) ?_
    refine z_evL ?_
    refine z_evG 2 (y := if ((s_SM (I 152) (I 153) (nI t) h n).1) < 0 then z_go 118 [some (.ref 127), some (.int (nI t)), some (.int h), some (.int ((s_SM (I 152) (I 153) (nI t) h n).1)), some (.int ((s_SM (I 152) (I 153) (nI t) h n).2)), some (.int (nI n))] [] 161 (I, J, RF w) else z_go 136 [some (.ref 127), some (.int (nI t)), some (.int h), some (.int ((s_SM (I 152) (I 153) (nI t) h n).1)), some (.int ((s_SM (I 152) (I 153) (nI t) h n).2)), some (.int (nI n))] [] 161 (I, J, RF w)) (fun _ => rfl) ?_
    refine z_evI (fun h2 => ?_) (fun h2 => ?_)
    · refine z_evL ?_
      refine z_evG 2 (y := if ((s_SM (I 152) (I 153) (nI t) h n).2) < 0 then z_go 123 [some (.ref 127), some (.int (nI t)), some (.int h), some (.int ((s_SM (I 152) (I 153) (nI t) h n).1)), some (.int ((s_SM (I 152) (I 153) (nI t) h n).2)), some (.int (nI n))] [] 161 (I, J, RF w) else z_go 128 [some (.ref 127), some (.int (nI t)), some (.int h), some (.int ((s_SM (I 152) (I 153) (nI t) h n).1)), some (.int ((s_SM (I 152) (I 153) (nI t) h n).2)), some (.int (nI n))] [] 161 (I, J, RF w)) (fun _ => rfl) ?_
      refine z_evI (fun h3 => ?_) (fun h3 => ?_)
      · refine z_evL ?_
        refine z_evG 3 (y := some (.inr (some (.int 100), 161, I, J, RF w))) (fun _ => rfl) ?_
        exact z_evR (by unfold s_anM; rw [if_pos h2, if_pos h3])
      · refine z_evL ?_
        refine z_evG 4 (y := z_ild (z_ia E 161 (I, J, RF w) 154) ((s_SM (I 152) (I 153) (nI t) h n).2) fun vv => z_go 135 [some (.ref 127), some (.int (nI t)), some (.int h), some (.int ((s_SM (I 152) (I 153) (nI t) h n).1)), some (.int ((s_SM (I 152) (I 153) (nI t) h n).2)), some (.int (nI n))] [.int vv] 161 (I, J, RF w)) (fun _ => rfl) ?_
        refine z_evB (N := 40) (f := (I 154)) rfl (s_inM (s_okM (I 152) (I 153) (nI t) h n).2 (by assumption) (by omega) (by decide)) ?_
        refine z_evL ?_
        refine z_evG 1 (y := some (.inr (some (.int ((I 154) ((s_SM (I 152) (I 153) (nI t) h n).2).toNatClampNeg)), 161, I, J, RF w))) (fun _ => rfl) ?_
        exact z_evR (by unfold s_anM; rw [if_pos h2, if_neg h3])
    · refine z_evL ?_
      refine z_evG 2 (y := if ((s_SM (I 152) (I 153) (nI t) h n).2) < 0 then z_go 151 [some (.ref 127), some (.int (nI t)), some (.int h), some (.int ((s_SM (I 152) (I 153) (nI t) h n).1)), some (.int ((s_SM (I 152) (I 153) (nI t) h n).2)), some (.int (nI n))] [] 161 (I, J, RF w) else z_go 141 [some (.ref 127), some (.int (nI t)), some (.int h), some (.int ((s_SM (I 152) (I 153) (nI t) h n).1)), some (.int ((s_SM (I 152) (I 153) (nI t) h n).2)), some (.int (nI n))] [] 161 (I, J, RF w)) (fun _ => rfl) ?_
      refine z_evI (fun h4 => ?_) (fun h4 => ?_)
      · refine z_evL ?_
        refine z_evG 4 (y := z_ild (z_ia E 161 (I, J, RF w) 154) ((s_SM (I 152) (I 153) (nI t) h n).1) fun vv => z_go 157 [some (.ref 127), some (.int (nI t)), some (.int h), some (.int ((s_SM (I 152) (I 153) (nI t) h n).1)), some (.int ((s_SM (I 152) (I 153) (nI t) h n).2)), some (.int (nI n))] [.int vv] 161 (I, J, RF w)) (fun _ => rfl) ?_
        refine z_evB (N := 40) (f := (I 154)) rfl (s_inM (s_okM (I 152) (I 153) (nI t) h n).1 (by assumption) (by omega) (by decide)) ?_
        refine z_evL ?_
        refine z_evG 1 (y := some (.inr (some (.int ((I 154) ((s_SM (I 152) (I 153) (nI t) h n).1).toNatClampNeg)), 161, I, J, RF w))) (fun _ => rfl) ?_
        exact z_evR (by unfold s_anM; rw [if_neg h2, if_pos h4])
      · refine z_evL ?_
        refine z_evG 4 (y := z_ild (z_ia E 161 (I, J, RF w) 153) ((s_SM (I 152) (I 153) (nI t) h n).1) fun vv => z_go 147 [some (.ref 127), some (.int (nI t)), some (.int h), some (.int ((s_SM (I 152) (I 153) (nI t) h n).1)), some (.int ((s_SM (I 152) (I 153) (nI t) h n).2)), some (.int (nI n))] [.int vv] 161 (I, J, RF w)) (fun _ => rfl) ?_
        refine z_evB (N := 40) (f := (I 153)) rfl (s_inM (s_okM (I 152) (I 153) (nI t) h n).1 (by assumption) (by omega) (by decide)) ?_
        refine z_evL ?_
        refine z_evG 2 (y := if ((I 153) ((s_SM (I 152) (I 153) (nI t) h n).1).toNatClampNeg) = h then z_go 151 [some (.ref 127), some (.int (nI t)), some (.int h), some (.int ((s_SM (I 152) (I 153) (nI t) h n).1)), some (.int ((s_SM (I 152) (I 153) (nI t) h n).2)), some (.int (nI n))] [] 161 (I, J, RF w) else z_go 158 [some (.ref 127), some (.int (nI t)), some (.int h), some (.int ((s_SM (I 152) (I 153) (nI t) h n).1)), some (.int ((s_SM (I 152) (I 153) (nI t) h n).2)), some (.int (nI n))] [] 161 (I, J, RF w)) (fun _ => rfl) ?_
        refine z_evI (fun h5 => ?_) (fun h5 => ?_)
        · refine z_evL ?_
          refine z_evG 4 (y := z_ild (z_ia E 161 (I, J, RF w) 154) ((s_SM (I 152) (I 153) (nI t) h n).1) fun vv => z_go 157 [some (.ref 127), some (.int (nI t)), some (.int h), some (.int ((s_SM (I 152) (I 153) (nI t) h n).1)), some (.int ((s_SM (I 152) (I 153) (nI t) h n).2)), some (.int (nI n))] [.int vv] 161 (I, J, RF w)) (fun _ => rfl) ?_
          refine z_evB (N := 40) (f := (I 154)) rfl (s_inM (s_okM (I 152) (I 153) (nI t) h n).1 (by assumption) (by omega) (by decide)) ?_
          refine z_evL ?_
          refine z_evG 1 (y := some (.inr (some (.int ((I 154) ((s_SM (I 152) (I 153) (nI t) h n).1).toNatClampNeg)), 161, I, J, RF w))) (fun _ => rfl) ?_
          exact z_evR (by unfold s_anM; rw [if_neg h2, if_neg h4, if_pos h5])
        · refine z_evL ?_
          refine z_evG 4 (y := z_ild (z_ia E 161 (I, J, RF w) 154) ((s_SM (I 152) (I 153) (nI t) h n).1) fun vv => z_go 164 [some (.ref 127), some (.int (nI t)), some (.int h), some (.int ((s_SM (I 152) (I 153) (nI t) h n).1)), some (.int ((s_SM (I 152) (I 153) (nI t) h n).2)), some (.int (nI n))] [.int vv] 161 (I, J, RF w)) (fun _ => rfl) ?_
          refine z_evB (N := 40) (f := (I 154)) rfl (s_inM (s_okM (I 152) (I 153) (nI t) h n).1 (by assumption) (by omega) (by decide)) ?_
          refine z_evL ?_
          refine z_evG 4 (y := z_ild (z_ia E 161 (I, J, RF w) 154) ((s_SM (I 152) (I 153) (nI t) h n).2) fun vv => z_go 171 [some (.ref 127), some (.int (nI t)), some (.int h), some (.int ((s_SM (I 152) (I 153) (nI t) h n).1)), some (.int ((s_SM (I 152) (I 153) (nI t) h n).2)), some (.int (nI n))] [.int vv, .int ((I 154) ((s_SM (I 152) (I 153) (nI t) h n).1).toNatClampNeg)] 161 (I, J, RF w)) (fun _ => rfl) ?_
          refine z_evB (N := 40) (f := (I 154)) rfl (s_inM (s_okM (I 152) (I 153) (nI t) h n).2 (by assumption) (by omega) (by decide)) ?_
          refine z_evL ?_
          refine z_evG 4 (y := z_ild (z_ia E 161 (I, J, RF w) 154) ((s_SM (I 152) (I 153) (nI t) h n).1) fun vv => z_go 177 [some (.ref 127), some (.int (nI t)), some (.int h), some (.int ((s_SM (I 152) (I 153) (nI t) h n).1)), some (.int ((s_SM (I 152) (I 153) (nI t) h n).2)), some (.int (nI n))] [.int vv, .int ((I 154) ((s_SM (I 152) (I 153) (nI t) h n).2).toNatClampNeg), .int ((I 154) ((s_SM (I 152) (I 153) (nI t) h n).1).toNatClampNeg)] 161 (I, J, RF w)) (fun _ => rfl) ?_
          refine z_evB (N := 40) (f := (I 154)) rfl (s_inM (s_okM (I 152) (I 153) (nI t) h n).1 (by assumption) (by omega) (by decide)) ?_
          refine z_evL ?_
          refine z_evG 6 (y := z_ild (z_ia E 161 (I, J, RF w) 153) ((s_SM (I 152) (I 153) (nI t) h n).1) fun vv => z_go 185 [some (.ref 127), some (.int (nI t)), some (.int h), some (.int ((s_SM (I 152) (I 153) (nI t) h n).1)), some (.int ((s_SM (I 152) (I 153) (nI t) h n).2)), some (.int (nI n))] [.int vv, .int h, .int (((I 154) ((s_SM (I 152) (I 153) (nI t) h n).2).toNatClampNeg) - ((I 154) ((s_SM (I 152) (I 153) (nI t) h n).1).toNatClampNeg)), .int ((I 154) ((s_SM (I 152) (I 153) (nI t) h n).1).toNatClampNeg)] 161 (I, J, RF w)) (fun _ => rfl) ?_
          refine z_evB (N := 40) (f := (I 153)) rfl (s_inM (s_okM (I 152) (I 153) (nI t) h n).1 (by assumption) (by omega) (by decide)) ?_
          refine z_evL ?_
          refine z_evG 6 (y := z_ild (z_ia E 161 (I, J, RF w) 153) ((s_SM (I 152) (I 153) (nI t) h n).2) fun vv => z_go 194 [some (.ref 127), some (.int (nI t)), some (.int h), some (.int ((s_SM (I 152) (I 153) (nI t) h n).1)), some (.int ((s_SM (I 152) (I 153) (nI t) h n).2)), some (.int (nI n))] [.int vv, .int ((((I 154) ((s_SM (I 152) (I 153) (nI t) h n).2).toNatClampNeg) - ((I 154) ((s_SM (I 152) (I 153) (nI t) h n).1).toNatClampNeg)) * (h - ((I 153) ((s_SM (I 152) (I 153) (nI t) h n).1).toNatClampNeg))), .int ((I 154) ((s_SM (I 152) (I 153) (nI t) h n).1).toNatClampNeg)] 161 (I, J, RF w)) (fun _ => rfl) ?_
          refine z_evB (N := 40) (f := (I 153)) rfl (s_inM (s_okM (I 152) (I 153) (nI t) h n).2 (by assumption) (by omega) (by decide)) ?_
          refine z_evL ?_
          refine z_evG 4 (y := z_ild (z_ia E 161 (I, J, RF w) 153) ((s_SM (I 152) (I 153) (nI t) h n).1) fun vv => z_go 200 [some (.ref 127), some (.int (nI t)), some (.int h), some (.int ((s_SM (I 152) (I 153) (nI t) h n).1)), some (.int ((s_SM (I 152) (I 153) (nI t) h n).2)), some (.int (nI n))] [.int vv, .int ((I 153) ((s_SM (I 152) (I 153) (nI t) h n).2).toNatClampNeg), .int ((((I 154) ((s_SM (I 152) (I 153) (nI t) h n).2).toNatClampNeg) - ((I 154) ((s_SM (I 152) (I 153) (nI t) h n).1).toNatClampNeg)) * (h - ((I 153) ((s_SM (I 152) (I 153) (nI t) h n).1).toNatClampNeg))), .int ((I 154) ((s_SM (I 152) (I 153) (nI t) h n).1).toNatClampNeg)] 161 (I, J, RF w)) (fun _ => rfl) ?_
          refine z_evB (N := 40) (f := (I 153)) rfl (s_inM (s_okM (I 152) (I 153) (nI t) h n).1 (by assumption) (by omega) (by decide)) ?_
          refine z_evL ?_
          refine z_evG 2 (y := z_ck (!decide ((((I 153) ((s_SM (I 152) (I 153) (nI t) h n).2).toNatClampNeg) - ((I 153) ((s_SM (I 152) (I 153) (nI t) h n).1).toNatClampNeg) : Int32) = 0)) (z_go 202 [some (.ref 127), some (.int (nI t)), some (.int h), some (.int ((s_SM (I 152) (I 153) (nI t) h n).1)), some (.int ((s_SM (I 152) (I 153) (nI t) h n).2)), some (.int (nI n))] [.int (((((I 154) ((s_SM (I 152) (I 153) (nI t) h n).2).toNatClampNeg) - ((I 154) ((s_SM (I 152) (I 153) (nI t) h n).1).toNatClampNeg)) * (h - ((I 153) ((s_SM (I 152) (I 153) (nI t) h n).1).toNatClampNeg))) / (((I 153) ((s_SM (I 152) (I 153) (nI t) h n).2).toNatClampNeg) - ((I 153) ((s_SM (I 152) (I 153) (nI t) h n).1).toNatClampNeg))), .int ((I 154) ((s_SM (I 152) (I 153) (nI t) h n).1).toNatClampNeg)] 161 (I, J, RF w))) (fun _ => rfl) ?_
          refine z_evC (s_dM (by omega) (by assumption) (by assumption) (by assumption)) ?_
          refine z_evL ?_
          refine z_evG 2 (y := some (.inr (some (.int (((I 154) ((s_SM (I 152) (I 153) (nI t) h n).1).toNatClampNeg) + (((((I 154) ((s_SM (I 152) (I 153) (nI t) h n).2).toNatClampNeg) - ((I 154) ((s_SM (I 152) (I 153) (nI t) h n).1).toNatClampNeg)) * (h - ((I 153) ((s_SM (I 152) (I 153) (nI t) h n).1).toNatClampNeg))) / (((I 153) ((s_SM (I 152) (I 153) (nI t) h n).2).toNatClampNeg) - ((I 153) ((s_SM (I 152) (I 153) (nI t) h n).1).toNatClampNeg))))), 161, I, J, RF w))) (fun _ => rfl) ?_
          exact z_evR (by unfold s_anM; rw [if_neg h2, if_neg h4, if_neg h5])
  · show z_Ev E d z_m234 8 [some (.ref 127), some (.int (nI t)), some (.int h), some (.int ((s_SM (I 152) (I 153) (nI t) h k).1)), some (.int ((s_SM (I 152) (I 153) (nI t) h k).2)), some (.int (nI k))] [] 161 (I, J, RF w) _
    have nx : (True) → z_Ev E d z_m234 8 [some (.ref 127), some (.int (nI t)), some (.int h), some (.int ((s_SM (I 152) (I 153) (nI t) h (k + 1)).1)), some (.int ((s_SM (I 152) (I 153) (nI t) h (k + 1)).2)), some (.int (nI (k + 1)))] [] 161 (I, J, RF w) _ := next
    refine z_evG 4 (y := if (nI k) < (I 127 47) then z_go 17 [some (.ref 127), some (.int (nI t)), some (.int h), some (.int ((s_SM (I 152) (I 153) (nI t) h k).1)), some (.int ((s_SM (I 152) (I 153) (nI t) h k).2)), some (.int (nI k))] [] 161 (I, J, RF w) else z_go 114 [some (.ref 127), some (.int (nI t)), some (.int h), some (.int ((s_SM (I 152) (I 153) (nI t) h k).1)), some (.int ((s_SM (I 152) (I 153) (nI t) h k).2)), some (.int (nI k))] [] 161 (I, J, RF w)) (fun _ => rfl) ?_
    refine z_evT ((show _ ↔ k < n from z_ltN rfl h_n (by omega) (by omega)).mpr (by omega)) ?_
    refine z_evL ?_
    refine z_evG 4 (y := z_ild (z_ia E 161 (I, J, RF w) 152) (nI k) fun vv => z_go 24 [some (.ref 127), some (.int (nI t)), some (.int h), some (.int ((s_SM (I 152) (I 153) (nI t) h k).1)), some (.int ((s_SM (I 152) (I 153) (nI t) h k).2)), some (.int (nI k))] [.int vv] 161 (I, J, RF w)) (fun _ => rfl) ?_
    refine z_evBn (N := 40) (f := (I 152)) (k := k) rfl rfl (by omega) ?_
    refine z_evL ?_
    refine z_evG 2 (y := if (I 152 k) = (nI t) then z_go 28 [some (.ref 127), some (.int (nI t)), some (.int h), some (.int ((s_SM (I 152) (I 153) (nI t) h k).1)), some (.int ((s_SM (I 152) (I 153) (nI t) h k).2)), some (.int (nI k))] [] 161 (I, J, RF w) else z_go 108 [some (.ref 127), some (.int (nI t)), some (.int h), some (.int ((s_SM (I 152) (I 153) (nI t) h k).1)), some (.int ((s_SM (I 152) (I 153) (nI t) h k).2)), some (.int (nI k))] [] 161 (I, J, RF w)) (fun _ => rfl) ?_
    refine z_evI (fun h7 => ?_) (fun h7 => ?_)
    · refine z_evL ?_
      refine z_evG 4 (y := z_ild (z_ia E 161 (I, J, RF w) 153) (nI k) fun vv => z_go 35 [some (.ref 127), some (.int (nI t)), some (.int h), some (.int ((s_SM (I 152) (I 153) (nI t) h k).1)), some (.int ((s_SM (I 152) (I 153) (nI t) h k).2)), some (.int (nI k))] [.int vv] 161 (I, J, RF w)) (fun _ => rfl) ?_
      refine z_evBn (N := 40) (f := (I 153)) (k := k) rfl rfl (by omega) ?_
      refine z_evL ?_
      refine z_evG 2 (y := if h < (I 153 k) then z_go 64 [some (.ref 127), some (.int (nI t)), some (.int h), some (.int ((s_SM (I 152) (I 153) (nI t) h k).1)), some (.int ((s_SM (I 152) (I 153) (nI t) h k).2)), some (.int (nI k))] [] 161 (I, J, RF w) else z_go 39 [some (.ref 127), some (.int (nI t)), some (.int h), some (.int ((s_SM (I 152) (I 153) (nI t) h k).1)), some (.int ((s_SM (I 152) (I 153) (nI t) h k).2)), some (.int (nI k))] [] 161 (I, J, RF w)) (fun _ => rfl) ?_
      refine z_evI (fun h8 => ?_) (fun h8 => ?_)
      · refine z_evL ?_
        refine z_evG 6 (y := z_ild (z_ia E 161 (I, J, RF w) 153) (nI k) fun vv => z_go 73 [some (.ref 127), some (.int (nI t)), some (.int h), some (.int ((s_SM (I 152) (I 153) (nI t) h k).1)), some (.int ((s_SM (I 152) (I 153) (nI t) h k).2)), some (.int (nI k))] [.int vv] 161 (I, J, RF w)) (fun _ => rfl) ?_
        refine z_evBn (N := 40) (f := (I 153)) (k := k) rfl rfl (by omega) ?_
        refine z_evL ?_
        refine z_evG 2 (y := if (I 153 k) < h then z_go 104 [some (.ref 127), some (.int (nI t)), some (.int h), some (.int ((s_SM (I 152) (I 153) (nI t) h k).1)), some (.int ((s_SM (I 152) (I 153) (nI t) h k).2)), some (.int (nI k))] [] 161 (I, J, RF w) else z_go 77 [some (.ref 127), some (.int (nI t)), some (.int h), some (.int ((s_SM (I 152) (I 153) (nI t) h k).1)), some (.int ((s_SM (I 152) (I 153) (nI t) h k).2)), some (.int (nI k))] [] 161 (I, J, RF w)) (fun _ => rfl) ?_
        refine z_evI (fun h9 => ?_) (fun h9 => ?_)
        · refine z_evL ?_
          refine z_evG 4 (y := z_go 8 [some (.ref 127), some (.int (nI t)), some (.int h), some (.int ((s_SM (I 152) (I 153) (nI t) h k).1)), some (.int ((s_SM (I 152) (I 153) (nI t) h k).2)), some (.int ((nI k) + 1))] [] 161 (I, J, RF w)) (fun _ => rfl) ?_
          refine z_evL ?_
          have e : s_SM (I 152) (I 153) (nI t) h (k + 1) = ((s_SM (I 152) (I 153) (nI t) h k).1, (s_SM (I 152) (I 153) (nI t) h k).2) := show s_stM (I 152) (I 153) (nI t) h k (s_SM (I 152) (I 153) (nI t) h k) = _ from (if_pos h7).trans (Prod.ext (if_pos h8) (if_pos h9))
          rw [e] at nx
          rw [nI_1 k]
          exact nx trivial
        · refine z_evL ?_
          refine z_evG 2 (y := if ((s_SM (I 152) (I 153) (nI t) h k).2) < 0 then z_go 99 [some (.ref 127), some (.int (nI t)), some (.int h), some (.int ((s_SM (I 152) (I 153) (nI t) h k).1)), some (.int ((s_SM (I 152) (I 153) (nI t) h k).2)), some (.int (nI k))] [] 161 (I, J, RF w) else z_go 82 [some (.ref 127), some (.int (nI t)), some (.int h), some (.int ((s_SM (I 152) (I 153) (nI t) h k).1)), some (.int ((s_SM (I 152) (I 153) (nI t) h k).2)), some (.int (nI k))] [] 161 (I, J, RF w)) (fun _ => rfl) ?_
          refine z_evI (fun h10 => ?_) (fun h10 => ?_)
          · refine z_evL ?_
            refine z_evG 5 (y := z_go 8 [some (.ref 127), some (.int (nI t)), some (.int h), some (.int ((s_SM (I 152) (I 153) (nI t) h k).1)), some (.int (nI k)), some (.int ((nI k) + 1))] [] 161 (I, J, RF w)) (fun _ => rfl) ?_
            refine z_evL ?_
            have e : s_SM (I 152) (I 153) (nI t) h (k + 1) = ((s_SM (I 152) (I 153) (nI t) h k).1, nI k) := show s_stM (I 152) (I 153) (nI t) h k (s_SM (I 152) (I 153) (nI t) h k) = _ from (if_pos h7).trans (Prod.ext (if_pos h8) ((if_neg h9).trans (if_pos h10)))
            rw [e] at nx
            rw [nI_1 k]
            exact nx trivial
          · refine z_evL ?_
            refine z_evG 4 (y := z_ild (z_ia E 161 (I, J, RF w) 153) (nI k) fun vv => z_go 89 [some (.ref 127), some (.int (nI t)), some (.int h), some (.int ((s_SM (I 152) (I 153) (nI t) h k).1)), some (.int ((s_SM (I 152) (I 153) (nI t) h k).2)), some (.int (nI k))] [.int vv] 161 (I, J, RF w)) (fun _ => rfl) ?_
            refine z_evBn (N := 40) (f := (I 153)) (k := k) rfl rfl (by omega) ?_
            refine z_evL ?_
            refine z_evG 4 (y := z_ild (z_ia E 161 (I, J, RF w) 153) ((s_SM (I 152) (I 153) (nI t) h k).2) fun vv => z_go 96 [some (.ref 127), some (.int (nI t)), some (.int h), some (.int ((s_SM (I 152) (I 153) (nI t) h k).1)), some (.int ((s_SM (I 152) (I 153) (nI t) h k).2)), some (.int (nI k))] [.int vv, .int (I 153 k)] 161 (I, J, RF w)) (fun _ => rfl) ?_
            refine z_evB (N := 40) (f := (I 153)) rfl (s_inM (s_okM (I 152) (I 153) (nI t) h k).2 (by assumption) (by omega) (by decide)) ?_
            refine z_evL ?_
            refine z_evG 1 (y := if ((I 153) ((s_SM (I 152) (I 153) (nI t) h k).2).toNatClampNeg) < (I 153 k) then z_go 104 [some (.ref 127), some (.int (nI t)), some (.int h), some (.int ((s_SM (I 152) (I 153) (nI t) h k).1)), some (.int ((s_SM (I 152) (I 153) (nI t) h k).2)), some (.int (nI k))] [] 161 (I, J, RF w) else z_go 99 [some (.ref 127), some (.int (nI t)), some (.int h), some (.int ((s_SM (I 152) (I 153) (nI t) h k).1)), some (.int ((s_SM (I 152) (I 153) (nI t) h k).2)), some (.int (nI k))] [] 161 (I, J, RF w)) (fun _ => rfl) ?_
            refine z_evI (fun h11 => ?_) (fun h11 => ?_)
            · refine z_evL ?_
              refine z_evG 4 (y := z_go 8 [some (.ref 127), some (.int (nI t)), some (.int h), some (.int ((s_SM (I 152) (I 153) (nI t) h k).1)), some (.int ((s_SM (I 152) (I 153) (nI t) h k).2)), some (.int ((nI k) + 1))] [] 161 (I, J, RF w)) (fun _ => rfl) ?_
              refine z_evL ?_
              have e : s_SM (I 152) (I 153) (nI t) h (k + 1) = ((s_SM (I 152) (I 153) (nI t) h k).1, (s_SM (I 152) (I 153) (nI t) h k).2) := show s_stM (I 152) (I 153) (nI t) h k (s_SM (I 152) (I 153) (nI t) h k) = _ from (if_pos h7).trans (Prod.ext (if_pos h8) ((if_neg h9).trans ((if_neg h10).trans (if_pos h11))))
              rw [e] at nx
              rw [nI_1 k]
              exact nx trivial
            · refine z_evL ?_
              refine z_evG 5 (y := z_go 8 [some (.ref 127), some (.int (nI t)), some (.int h), some (.int ((s_SM (I 152) (I 153) (nI t) h k).1)), some (.int (nI k)), some (.int ((nI k) + 1))] [] 161 (I, J, RF w)) (fun _ => rfl) ?_
              refine z_evL ?_
              have e : s_SM (I 152) (I 153) (nI t) h (k + 1) = ((s_SM (I 152) (I 153) (nI t) h k).1, nI k) := show s_stM (I 152) (I 153) (nI t) h k (s_SM (I 152) (I 153) (nI t) h k) = _ from (if_pos h7).trans (Prod.ext (if_pos h8) ((if_neg h9).trans ((if_neg h10).trans (if_neg h11))))
              rw [e] at nx
              rw [nI_1 k]
              exact nx trivial
      · refine z_evL ?_
        refine z_evG 2 (y := if ((s_SM (I 152) (I 153) (nI t) h k).1) < 0 then z_go 59 [some (.ref 127), some (.int (nI t)), some (.int h), some (.int ((s_SM (I 152) (I 153) (nI t) h k).1)), some (.int ((s_SM (I 152) (I 153) (nI t) h k).2)), some (.int (nI k))] [] 161 (I, J, RF w) else z_go 43 [some (.ref 127), some (.int (nI t)), some (.int h), some (.int ((s_SM (I 152) (I 153) (nI t) h k).1)), some (.int ((s_SM (I 152) (I 153) (nI t) h k).2)), some (.int (nI k))] [] 161 (I, J, RF w)) (fun _ => rfl) ?_
        refine z_evI (fun h12 => ?_) (fun h12 => ?_)
        · refine z_evL ?_
          refine z_evG 7 (y := z_ild (z_ia E 161 (I, J, RF w) 153) (nI k) fun vv => z_go 73 [some (.ref 127), some (.int (nI t)), some (.int h), some (.int (nI k)), some (.int ((s_SM (I 152) (I 153) (nI t) h k).2)), some (.int (nI k))] [.int vv] 161 (I, J, RF w)) (fun _ => rfl) ?_
          refine z_evBn (N := 40) (f := (I 153)) (k := k) rfl rfl (by omega) ?_
          refine z_evL ?_
          refine z_evG 2 (y := if (I 153 k) < h then z_go 104 [some (.ref 127), some (.int (nI t)), some (.int h), some (.int (nI k)), some (.int ((s_SM (I 152) (I 153) (nI t) h k).2)), some (.int (nI k))] [] 161 (I, J, RF w) else z_go 77 [some (.ref 127), some (.int (nI t)), some (.int h), some (.int (nI k)), some (.int ((s_SM (I 152) (I 153) (nI t) h k).2)), some (.int (nI k))] [] 161 (I, J, RF w)) (fun _ => rfl) ?_
          refine z_evI (fun h13 => ?_) (fun h13 => ?_)
          · refine z_evL ?_
            refine z_evG 4 (y := z_go 8 [some (.ref 127), some (.int (nI t)), some (.int h), some (.int (nI k)), some (.int ((s_SM (I 152) (I 153) (nI t) h k).2)), some (.int ((nI k) + 1))] [] 161 (I, J, RF w)) (fun _ => rfl) ?_
            refine z_evL ?_
            have e : s_SM (I 152) (I 153) (nI t) h (k + 1) = (nI k, (s_SM (I 152) (I 153) (nI t) h k).2) := show s_stM (I 152) (I 153) (nI t) h k (s_SM (I 152) (I 153) (nI t) h k) = _ from (if_pos h7).trans (Prod.ext ((if_neg h8).trans (if_pos h12)) (if_pos h13))
            rw [e] at nx
            rw [nI_1 k]
            exact nx trivial
          · refine z_evL ?_
            refine z_evG 2 (y := if ((s_SM (I 152) (I 153) (nI t) h k).2) < 0 then z_go 99 [some (.ref 127), some (.int (nI t)), some (.int h), some (.int (nI k)), some (.int ((s_SM (I 152) (I 153) (nI t) h k).2)), some (.int (nI k))] [] 161 (I, J, RF w) else z_go 82 [some (.ref 127), some (.int (nI t)), some (.int h), some (.int (nI k)), some (.int ((s_SM (I 152) (I 153) (nI t) h k).2)), some (.int (nI k))] [] 161 (I, J, RF w)) (fun _ => rfl) ?_
            refine z_evI (fun h14 => ?_) (fun h14 => ?_)
            · refine z_evL ?_
              refine z_evG 5 (y := z_go 8 [some (.ref 127), some (.int (nI t)), some (.int h), some (.int (nI k)), some (.int (nI k)), some (.int ((nI k) + 1))] [] 161 (I, J, RF w)) (fun _ => rfl) ?_
              refine z_evL ?_
              have e : s_SM (I 152) (I 153) (nI t) h (k + 1) = (nI k, nI k) := show s_stM (I 152) (I 153) (nI t) h k (s_SM (I 152) (I 153) (nI t) h k) = _ from (if_pos h7).trans (Prod.ext ((if_neg h8).trans (if_pos h12)) ((if_neg h13).trans (if_pos h14)))
              rw [e] at nx
              rw [nI_1 k]
              exact nx trivial
            · refine z_evL ?_
              refine z_evG 4 (y := z_ild (z_ia E 161 (I, J, RF w) 153) (nI k) fun vv => z_go 89 [some (.ref 127), some (.int (nI t)), some (.int h), some (.int (nI k)), some (.int ((s_SM (I 152) (I 153) (nI t) h k).2)), some (.int (nI k))] [.int vv] 161 (I, J, RF w)) (fun _ => rfl) ?_
              refine z_evBn (N := 40) (f := (I 153)) (k := k) rfl rfl (by omega) ?_
              refine z_evL ?_
              refine z_evG 4 (y := z_ild (z_ia E 161 (I, J, RF w) 153) ((s_SM (I 152) (I 153) (nI t) h k).2) fun vv => z_go 96 [some (.ref 127), some (.int (nI t)), some (.int h), some (.int (nI k)), some (.int ((s_SM (I 152) (I 153) (nI t) h k).2)), some (.int (nI k))] [.int vv, .int (I 153 k)] 161 (I, J, RF w)) (fun _ => rfl) ?_
              refine z_evB (N := 40) (f := (I 153)) rfl (s_inM (s_okM (I 152) (I 153) (nI t) h k).2 (by assumption) (by omega) (by decide)) ?_
              refine z_evL ?_
              refine z_evG 1 (y := if ((I 153) ((s_SM (I 152) (I 153) (nI t) h k).2).toNatClampNeg) < (I 153 k) then z_go 104 [some (.ref 127), some (.int (nI t)), some (.int h), some (.int (nI k)), some (.int ((s_SM (I 152) (I 153) (nI t) h k).2)), some (.int (nI k))] [] 161 (I, J, RF w) else z_go 99 [some (.ref 127), some (.int (nI t)), some (.int h), some (.int (nI k)), some (.int ((s_SM (I 152) (I 153) (nI t) h k).2)), some (.int (nI k))] [] 161 (I, J, RF w)) (fun _ => rfl) ?_
              refine z_evI (fun h15 => ?_) (fun h15 => ?_)
              · refine z_evL ?_
                refine z_evG 4 (y := z_go 8 [some (.ref 127), some (.int (nI t)), some (.int h), some (.int (nI k)), some (.int ((s_SM (I 152) (I 153) (nI t) h k).2)), some (.int ((nI k) + 1))] [] 161 (I, J, RF w)) (fun _ => rfl) ?_
                refine z_evL ?_
                have e : s_SM (I 152) (I 153) (nI t) h (k + 1) = (nI k, (s_SM (I 152) (I 153) (nI t) h k).2) := show s_stM (I 152) (I 153) (nI t) h k (s_SM (I 152) (I 153) (nI t) h k) = _ from (if_pos h7).trans (Prod.ext ((if_neg h8).trans (if_pos h12)) ((if_neg h13).trans ((if_neg h14).trans (if_pos h15))))
                rw [e] at nx
                rw [nI_1 k]
                exact nx trivial
              · refine z_evL ?_
                refine z_evG 5 (y := z_go 8 [some (.ref 127), some (.int (nI t)), some (.int h), some (.int (nI k)), some (.int (nI k)), some (.int ((nI k) + 1))] [] 161 (I, J, RF w)) (fun _ => rfl) ?_
                refine z_evL ?_
                have e : s_SM (I 152) (I 153) (nI t) h (k + 1) = (nI k, nI k) := show s_stM (I 152) (I 153) (nI t) h k (s_SM (I 152) (I 153) (nI t) h k) = _ from (if_pos h7).trans (Prod.ext ((if_neg h8).trans (if_pos h12)) ((if_neg h13).trans ((if_neg h14).trans (if_neg h15))))
                rw [e] at nx
                rw [nI_1 k]
                exact nx trivial
        · refine z_evL ?_
          refine z_evG 4 (y := z_ild (z_ia E 161 (I, J, RF w) 153) (nI k) fun vv => z_go 50 [some (.ref 127), some (.int (nI t)), some (.int h), some (.int ((s_SM (I 152) (I 153) (nI t) h k).1)), some (.int ((s_SM (I 152) (I 153) (nI t) h k).2)), some (.int (nI k))] [.int vv] 161 (I, J, RF w)) (fun _ => rfl) ?_
          refine z_evBn (N := 40) (f := (I 153)) (k := k) rfl rfl (by omega) ?_
          refine z_evL ?_
          refine z_evG 4 (y := z_ild (z_ia E 161 (I, J, RF w) 153) ((s_SM (I 152) (I 153) (nI t) h k).1) fun vv => z_go 56 [some (.ref 127), some (.int (nI t)), some (.int h), some (.int ((s_SM (I 152) (I 153) (nI t) h k).1)), some (.int ((s_SM (I 152) (I 153) (nI t) h k).2)), some (.int (nI k))] [.int vv, .int (I 153 k)] 161 (I, J, RF w)) (fun _ => rfl) ?_
          refine z_evB (N := 40) (f := (I 153)) rfl (s_inM (s_okM (I 152) (I 153) (nI t) h k).1 (by assumption) (by omega) (by decide)) ?_
          refine z_evL ?_
          refine z_evG 1 (y := if (I 153 k) < ((I 153) ((s_SM (I 152) (I 153) (nI t) h k).1).toNatClampNeg) then z_go 64 [some (.ref 127), some (.int (nI t)), some (.int h), some (.int ((s_SM (I 152) (I 153) (nI t) h k).1)), some (.int ((s_SM (I 152) (I 153) (nI t) h k).2)), some (.int (nI k))] [] 161 (I, J, RF w) else z_go 59 [some (.ref 127), some (.int (nI t)), some (.int h), some (.int ((s_SM (I 152) (I 153) (nI t) h k).1)), some (.int ((s_SM (I 152) (I 153) (nI t) h k).2)), some (.int (nI k))] [] 161 (I, J, RF w)) (fun _ => rfl) ?_
          refine z_evI (fun h16 => ?_) (fun h16 => ?_)
          · refine z_evL ?_
            refine z_evG 6 (y := z_ild (z_ia E 161 (I, J, RF w) 153) (nI k) fun vv => z_go 73 [some (.ref 127), some (.int (nI t)), some (.int h), some (.int ((s_SM (I 152) (I 153) (nI t) h k).1)), some (.int ((s_SM (I 152) (I 153) (nI t) h k).2)), some (.int (nI k))] [.int vv] 161 (I, J, RF w)) (fun _ => rfl) ?_
            refine z_evBn (N := 40) (f := (I 153)) (k := k) rfl rfl (by omega) ?_
            refine z_evL ?_
            refine z_evG 2 (y := if (I 153 k) < h then z_go 104 [some (.ref 127), some (.int (nI t)), some (.int h), some (.int ((s_SM (I 152) (I 153) (nI t) h k).1)), some (.int ((s_SM (I 152) (I 153) (nI t) h k).2)), some (.int (nI k))] [] 161 (I, J, RF w) else z_go 77 [some (.ref 127), some (.int (nI t)), some (.int h), some (.int ((s_SM (I 152) (I 153) (nI t) h k).1)), some (.int ((s_SM (I 152) (I 153) (nI t) h k).2)), some (.int (nI k))] [] 161 (I, J, RF w)) (fun _ => rfl) ?_
            refine z_evI (fun h17 => ?_) (fun h17 => ?_)
            · refine z_evL ?_
              refine z_evG 4 (y := z_go 8 [some (.ref 127), some (.int (nI t)), some (.int h), some (.int ((s_SM (I 152) (I 153) (nI t) h k).1)), some (.int ((s_SM (I 152) (I 153) (nI t) h k).2)), some (.int ((nI k) + 1))] [] 161 (I, J, RF w)) (fun _ => rfl) ?_
              refine z_evL ?_
              have e : s_SM (I 152) (I 153) (nI t) h (k + 1) = ((s_SM (I 152) (I 153) (nI t) h k).1, (s_SM (I 152) (I 153) (nI t) h k).2) := show s_stM (I 152) (I 153) (nI t) h k (s_SM (I 152) (I 153) (nI t) h k) = _ from (if_pos h7).trans (Prod.ext ((if_neg h8).trans ((if_neg h12).trans (if_pos h16))) (if_pos h17))
              rw [e] at nx
              rw [nI_1 k]
              exact nx trivial
            · refine z_evL ?_
              refine z_evG 2 (y := if ((s_SM (I 152) (I 153) (nI t) h k).2) < 0 then z_go 99 [some (.ref 127), some (.int (nI t)), some (.int h), some (.int ((s_SM (I 152) (I 153) (nI t) h k).1)), some (.int ((s_SM (I 152) (I 153) (nI t) h k).2)), some (.int (nI k))] [] 161 (I, J, RF w) else z_go 82 [some (.ref 127), some (.int (nI t)), some (.int h), some (.int ((s_SM (I 152) (I 153) (nI t) h k).1)), some (.int ((s_SM (I 152) (I 153) (nI t) h k).2)), some (.int (nI k))] [] 161 (I, J, RF w)) (fun _ => rfl) ?_
              refine z_evI (fun h18 => ?_) (fun h18 => ?_)
              · refine z_evL ?_
                refine z_evG 5 (y := z_go 8 [some (.ref 127), some (.int (nI t)), some (.int h), some (.int ((s_SM (I 152) (I 153) (nI t) h k).1)), some (.int (nI k)), some (.int ((nI k) + 1))] [] 161 (I, J, RF w)) (fun _ => rfl) ?_
                refine z_evL ?_
                have e : s_SM (I 152) (I 153) (nI t) h (k + 1) = ((s_SM (I 152) (I 153) (nI t) h k).1, nI k) := show s_stM (I 152) (I 153) (nI t) h k (s_SM (I 152) (I 153) (nI t) h k) = _ from (if_pos h7).trans (Prod.ext ((if_neg h8).trans ((if_neg h12).trans (if_pos h16))) ((if_neg h17).trans (if_pos h18)))
                rw [e] at nx
                rw [nI_1 k]
                exact nx trivial
              · refine z_evL ?_
                refine z_evG 4 (y := z_ild (z_ia E 161 (I, J, RF w) 153) (nI k) fun vv => z_go 89 [some (.ref 127), some (.int (nI t)), some (.int h), some (.int ((s_SM (I 152) (I 153) (nI t) h k).1)), some (.int ((s_SM (I 152) (I 153) (nI t) h k).2)), some (.int (nI k))] [.int vv] 161 (I, J, RF w)) (fun _ => rfl) ?_
                refine z_evBn (N := 40) (f := (I 153)) (k := k) rfl rfl (by omega) ?_
                refine z_evL ?_
                refine z_evG 4 (y := z_ild (z_ia E 161 (I, J, RF w) 153) ((s_SM (I 152) (I 153) (nI t) h k).2) fun vv => z_go 96 [some (.ref 127), some (.int (nI t)), some (.int h), some (.int ((s_SM (I 152) (I 153) (nI t) h k).1)), some (.int ((s_SM (I 152) (I 153) (nI t) h k).2)), some (.int (nI k))] [.int vv, .int (I 153 k)] 161 (I, J, RF w)) (fun _ => rfl) ?_
                refine z_evB (N := 40) (f := (I 153)) rfl (s_inM (s_okM (I 152) (I 153) (nI t) h k).2 (by assumption) (by omega) (by decide)) ?_
                refine z_evL ?_
                refine z_evG 1 (y := if ((I 153) ((s_SM (I 152) (I 153) (nI t) h k).2).toNatClampNeg) < (I 153 k) then z_go 104 [some (.ref 127), some (.int (nI t)), some (.int h), some (.int ((s_SM (I 152) (I 153) (nI t) h k).1)), some (.int ((s_SM (I 152) (I 153) (nI t) h k).2)), some (.int (nI k))] [] 161 (I, J, RF w) else z_go 99 [some (.ref 127), some (.int (nI t)), some (.int h), some (.int ((s_SM (I 152) (I 153) (nI t) h k).1)), some (.int ((s_SM (I 152) (I 153) (nI t) h k).2)), some (.int (nI k))] [] 161 (I, J, RF w)) (fun _ => rfl) ?_
                refine z_evI (fun h19 => ?_) (fun h19 => ?_)
                · refine z_evL ?_
                  refine z_evG 4 (y := z_go 8 [some (.ref 127), some (.int (nI t)), some (.int h), some (.int ((s_SM (I 152) (I 153) (nI t) h k).1)), some (.int ((s_SM (I 152) (I 153) (nI t) h k).2)), some (.int ((nI k) + 1))] [] 161 (I, J, RF w)) (fun _ => rfl) ?_
                  refine z_evL ?_
                  have e : s_SM (I 152) (I 153) (nI t) h (k + 1) = ((s_SM (I 152) (I 153) (nI t) h k).1, (s_SM (I 152) (I 153) (nI t) h k).2) := show s_stM (I 152) (I 153) (nI t) h k (s_SM (I 152) (I 153) (nI t) h k) = _ from (if_pos h7).trans (Prod.ext ((if_neg h8).trans ((if_neg h12).trans (if_pos h16))) ((if_neg h17).trans ((if_neg h18).trans (if_pos h19))))
                  rw [e] at nx
                  rw [nI_1 k]
                  exact nx trivial
                · refine z_evL ?_
                  refine z_evG 5 (y := z_go 8 [some (.ref 127), some (.int (nI t)), some (.int h), some (.int ((s_SM (I 152) (I 153) (nI t) h k).1)), some (.int (nI k)), some (.int ((nI k) + 1))] [] 161 (I, J, RF w)) (fun _ => rfl) ?_
                  refine z_evL ?_
                  have e : s_SM (I 152) (I 153) (nI t) h (k + 1) = ((s_SM (I 152) (I 153) (nI t) h k).1, nI k) := show s_stM (I 152) (I 153) (nI t) h k (s_SM (I 152) (I 153) (nI t) h k) = _ from (if_pos h7).trans (Prod.ext ((if_neg h8).trans ((if_neg h12).trans (if_pos h16))) ((if_neg h17).trans ((if_neg h18).trans (if_neg h19))))
                  rw [e] at nx
                  rw [nI_1 k]
                  exact nx trivial
          · refine z_evL ?_
            refine z_evG 7 (y := z_ild (z_ia E 161 (I, J, RF w) 153) (nI k) fun vv => z_go 73 [some (.ref 127), some (.int (nI t)), some (.int h), some (.int (nI k)), some (.int ((s_SM (I 152) (I 153) (nI t) h k).2)), some (.int (nI k))] [.int vv] 161 (I, J, RF w)) (fun _ => rfl) ?_
            refine z_evBn (N := 40) (f := (I 153)) (k := k) rfl rfl (by omega) ?_
            refine z_evL ?_
            refine z_evG 2 (y := if (I 153 k) < h then z_go 104 [some (.ref 127), some (.int (nI t)), some (.int h), some (.int (nI k)), some (.int ((s_SM (I 152) (I 153) (nI t) h k).2)), some (.int (nI k))] [] 161 (I, J, RF w) else z_go 77 [some (.ref 127), some (.int (nI t)), some (.int h), some (.int (nI k)), some (.int ((s_SM (I 152) (I 153) (nI t) h k).2)), some (.int (nI k))] [] 161 (I, J, RF w)) (fun _ => rfl) ?_
            refine z_evI (fun h20 => ?_) (fun h20 => ?_)
            · refine z_evL ?_
              refine z_evG 4 (y := z_go 8 [some (.ref 127), some (.int (nI t)), some (.int h), some (.int (nI k)), some (.int ((s_SM (I 152) (I 153) (nI t) h k).2)), some (.int ((nI k) + 1))] [] 161 (I, J, RF w)) (fun _ => rfl) ?_
              refine z_evL ?_
              have e : s_SM (I 152) (I 153) (nI t) h (k + 1) = (nI k, (s_SM (I 152) (I 153) (nI t) h k).2) := show s_stM (I 152) (I 153) (nI t) h k (s_SM (I 152) (I 153) (nI t) h k) = _ from (if_pos h7).trans (Prod.ext ((if_neg h8).trans ((if_neg h12).trans (if_neg h16))) (if_pos h20))
              rw [e] at nx
              rw [nI_1 k]
              exact nx trivial
            · refine z_evL ?_
              refine z_evG 2 (y := if ((s_SM (I 152) (I 153) (nI t) h k).2) < 0 then z_go 99 [some (.ref 127), some (.int (nI t)), some (.int h), some (.int (nI k)), some (.int ((s_SM (I 152) (I 153) (nI t) h k).2)), some (.int (nI k))] [] 161 (I, J, RF w) else z_go 82 [some (.ref 127), some (.int (nI t)), some (.int h), some (.int (nI k)), some (.int ((s_SM (I 152) (I 153) (nI t) h k).2)), some (.int (nI k))] [] 161 (I, J, RF w)) (fun _ => rfl) ?_
              refine z_evI (fun h21 => ?_) (fun h21 => ?_)
              · refine z_evL ?_
                refine z_evG 5 (y := z_go 8 [some (.ref 127), some (.int (nI t)), some (.int h), some (.int (nI k)), some (.int (nI k)), some (.int ((nI k) + 1))] [] 161 (I, J, RF w)) (fun _ => rfl) ?_
                refine z_evL ?_
                have e : s_SM (I 152) (I 153) (nI t) h (k + 1) = (nI k, nI k) := show s_stM (I 152) (I 153) (nI t) h k (s_SM (I 152) (I 153) (nI t) h k) = _ from (if_pos h7).trans (Prod.ext ((if_neg h8).trans ((if_neg h12).trans (if_neg h16))) ((if_neg h20).trans (if_pos h21)))
                rw [e] at nx
                rw [nI_1 k]
                exact nx trivial
              · refine z_evL ?_
                refine z_evG 4 (y := z_ild (z_ia E 161 (I, J, RF w) 153) (nI k) fun vv => z_go 89 [some (.ref 127), some (.int (nI t)), some (.int h), some (.int (nI k)), some (.int ((s_SM (I 152) (I 153) (nI t) h k).2)), some (.int (nI k))] [.int vv] 161 (I, J, RF w)) (fun _ => rfl) ?_
                refine z_evBn (N := 40) (f := (I 153)) (k := k) rfl rfl (by omega) ?_
                refine z_evL ?_
                refine z_evG 4 (y := z_ild (z_ia E 161 (I, J, RF w) 153) ((s_SM (I 152) (I 153) (nI t) h k).2) fun vv => z_go 96 [some (.ref 127), some (.int (nI t)), some (.int h), some (.int (nI k)), some (.int ((s_SM (I 152) (I 153) (nI t) h k).2)), some (.int (nI k))] [.int vv, .int (I 153 k)] 161 (I, J, RF w)) (fun _ => rfl) ?_
                refine z_evB (N := 40) (f := (I 153)) rfl (s_inM (s_okM (I 152) (I 153) (nI t) h k).2 (by assumption) (by omega) (by decide)) ?_
                refine z_evL ?_
                refine z_evG 1 (y := if ((I 153) ((s_SM (I 152) (I 153) (nI t) h k).2).toNatClampNeg) < (I 153 k) then z_go 104 [some (.ref 127), some (.int (nI t)), some (.int h), some (.int (nI k)), some (.int ((s_SM (I 152) (I 153) (nI t) h k).2)), some (.int (nI k))] [] 161 (I, J, RF w) else z_go 99 [some (.ref 127), some (.int (nI t)), some (.int h), some (.int (nI k)), some (.int ((s_SM (I 152) (I 153) (nI t) h k).2)), some (.int (nI k))] [] 161 (I, J, RF w)) (fun _ => rfl) ?_
                refine z_evI (fun h22 => ?_) (fun h22 => ?_)
                · refine z_evL ?_
                  refine z_evG 4 (y := z_go 8 [some (.ref 127), some (.int (nI t)), some (.int h), some (.int (nI k)), some (.int ((s_SM (I 152) (I 153) (nI t) h k).2)), some (.int ((nI k) + 1))] [] 161 (I, J, RF w)) (fun _ => rfl) ?_
                  refine z_evL ?_
                  have e : s_SM (I 152) (I 153) (nI t) h (k + 1) = (nI k, (s_SM (I 152) (I 153) (nI t) h k).2) := show s_stM (I 152) (I 153) (nI t) h k (s_SM (I 152) (I 153) (nI t) h k) = _ from (if_pos h7).trans (Prod.ext ((if_neg h8).trans ((if_neg h12).trans (if_neg h16))) ((if_neg h20).trans ((if_neg h21).trans (if_pos h22))))
                  rw [e] at nx
                  rw [nI_1 k]
                  exact nx trivial
                · refine z_evL ?_
                  refine z_evG 5 (y := z_go 8 [some (.ref 127), some (.int (nI t)), some (.int h), some (.int (nI k)), some (.int (nI k)), some (.int ((nI k) + 1))] [] 161 (I, J, RF w)) (fun _ => rfl) ?_
                  refine z_evL ?_
                  have e : s_SM (I 152) (I 153) (nI t) h (k + 1) = (nI k, nI k) := show s_stM (I 152) (I 153) (nI t) h k (s_SM (I 152) (I 153) (nI t) h k) = _ from (if_pos h7).trans (Prod.ext ((if_neg h8).trans ((if_neg h12).trans (if_neg h16))) ((if_neg h20).trans ((if_neg h21).trans (if_neg h22))))
                  rw [e] at nx
                  rw [nI_1 k]
                  exact nx trivial
    · refine z_evL ?_
      refine z_evG 2 (y := z_go 8 [some (.ref 127), some (.int (nI t)), some (.int h), some (.int ((s_SM (I 152) (I 153) (nI t) h k).1)), some (.int ((s_SM (I 152) (I 153) (nI t) h k).2)), some (.int ((nI k) + 1))] [] 161 (I, J, RF w)) (fun _ => rfl) ?_
      refine z_evL ?_
      have e : s_SM (I 152) (I 153) (nI t) h (k + 1) = (s_SM (I 152) (I 153) (nI t) h k) := show s_stM (I 152) (I 153) (nI t) h k (s_SM (I 152) (I 153) (nI t) h k) = _ from if_neg h7
      rw [e] at nx
      rw [nI_1 k]
      exact nx trivial
