-- THE TWO READERS, pure: what the one reads, the other reads
abbrev zCf := Nat × List Int32 × List Int32 × Int32 × Bool × Bool
def s_mf (b : Nat → Nat) (n : Nat) (fa : Nat → Int32) (f : Nat) (c : zCf) : Option (Nat ⊕ (Nat × Int32)) := (s_mrun b n fa f c.1 c.2.1 c.2.2.1 c.2.2.2.1 c.2.2.2.2.1 c.2.2.2.2.2).bind s_fin
def s_Rch (b : Nat → Nat) (n : Nat) (fa : Nat → Int32) (c c' : zCf) : Prop := ∃ k, ∀ f, s_mf b n fa (f + k) c = s_mf b n fa f c'
def s_Bad (b : Nat → Nat) (n : Nat) (fa : Nat → Int32) (c : zCf) (q : Nat) : Prop := ∃ k, ∀ f, s_mf b n fa (f + k) c = some (.inl q)
section SIM
variable {b : Nat → Nat} {n : Nat} {fa : Nat → Int32}
theorem s_Rch_refl (c : zCf) : s_Rch b n fa c c := ⟨0, fun _ => rfl⟩
theorem s_Rch_trans {c c' c'' : zCf} (h : s_Rch b n fa c c') (h' : s_Rch b n fa c' c'') : s_Rch b n fa c c'' := by
  obtain ⟨k, h⟩ := h
  obtain ⟨k', h'⟩ := h'
  exact ⟨k' + k, fun f => by rw [← Nat.add_assoc, h, h']⟩
theorem s_Bad_of {c c' : zCf} {q : Nat} (h : s_Rch b n fa c c') (h' : s_Bad b n fa c' q) : s_Bad b n fa c q := by
  obtain ⟨k, h⟩ := h
  obtain ⟨k', h'⟩ := h'
  exact ⟨k' + k, fun f => by rw [← Nat.add_assoc, h, h']⟩
theorem s_mrun_t (f p : Nat) (S V : List Int32) (dp : Int32) (mn : Bool) : s_mrun b n fa (f + 1) p S V dp true mn = match s_mo (s_tok b n p) (s_xv fa b n p) S V dp mn with
    | none => some (.inl p)
    | some R => s_mrun b n fa f (s_en b n p) R.1 R.2.1 R.2.2.1 R.2.2.2.1 R.2.2.2.2 := by
  show (if true = false ∧ s_tok b n p = 59 then some (.inr (p, S, V, dp)) else
    match (if true = true then some (s_mo (s_tok b n p) (s_xv fa b n p) S V dp mn) else s_msg (s_tok b n p) S V dp mn) with
    | none => none
    | some none => some (.inl p)
    | some (some R) => s_mrun b n fa f (s_en b n p) R.1 R.2.1 R.2.2.1 R.2.2.2.1 R.2.2.2.2) = _
  rw [if_neg (fun q => by cases q.1), if_pos rfl]
  cases s_mo (s_tok b n p) (s_xv fa b n p) S V dp mn <;> rfl
theorem s_mrun_f (f p : Nat) (S V : List Int32) (dp : Int32) (mn : Bool) (h : ¬ s_tok b n p = 59) : s_mrun b n fa (f + 1) p S V dp false mn = match s_msg (s_tok b n p) S V dp mn with
    | none => none
    | some none => some (.inl p)
    | some (some R) => s_mrun b n fa f (s_en b n p) R.1 R.2.1 R.2.2.1 R.2.2.2.1 R.2.2.2.2 := by
  show (if false = false ∧ s_tok b n p = 59 then some (.inr (p, S, V, dp)) else
    match (if false = true then some (s_mo (s_tok b n p) (s_xv fa b n p) S V dp mn) else s_msg (s_tok b n p) S V dp mn) with
    | none => none
    | some none => some (.inl p)
    | some (some R) => s_mrun b n fa f (s_en b n p) R.1 R.2.1 R.2.2.1 R.2.2.2.1 R.2.2.2.2) = _
  rw [if_neg (fun q => h q.2), if_neg (fun q => by cases q)]
theorem s_mrun_e (f p : Nat) (S V : List Int32) (dp : Int32) (mn : Bool) (h : s_tok b n p = 59) : s_mrun b n fa (f + 1) p S V dp false mn = some (.inr (p, S, V, dp)) := if_pos ⟨rfl, h⟩
theorem s_Rch_mo {p : Nat} {S V : List Int32} {dp : Int32} {mn : Bool} {R : List Int32 × List Int32 × Int32 × Bool × Bool} (h : s_mo (s_tok b n p) (s_xv fa b n p) S V dp mn = some R) : s_Rch b n fa (p, S, V, dp, true, mn) (s_en b n p, R) := ⟨1, fun f => by
  show (s_mrun b n fa (f + 1) p S V dp true mn).bind s_fin = _
  rw [s_mrun_t, h]; rfl⟩
theorem s_Bad_mo {p : Nat} {S V : List Int32} {dp : Int32} {mn : Bool} (h : s_mo (s_tok b n p) (s_xv fa b n p) S V dp mn = none) : s_Bad b n fa (p, S, V, dp, true, mn) p := ⟨1, fun f => by
  show (s_mrun b n fa (f + 1) p S V dp true mn).bind s_fin = _
  rw [s_mrun_t, h]; rfl⟩
theorem s_Rch_msg {p : Nat} {S V : List Int32} {dp : Int32} {mn : Bool} {R : List Int32 × List Int32 × Int32 × Bool × Bool} (ht : ¬ s_tok b n p = 59) (h : s_msg (s_tok b n p) S V dp mn = some (some R)) : s_Rch b n fa (p, S, V, dp, false, mn) (s_en b n p, R) := ⟨1, fun f => by
  show (s_mrun b n fa (f + 1) p S V dp false mn).bind s_fin = _
  rw [s_mrun_f _ _ _ _ _ _ ht, h]; rfl⟩
theorem s_Bad_msg {p : Nat} {S V : List Int32} {dp : Int32} {mn : Bool} (ht : ¬ s_tok b n p = 59) (h : s_msg (s_tok b n p) S V dp mn = some none) : s_Bad b n fa (p, S, V, dp, false, mn) p := ⟨1, fun f => by
  show (s_mrun b n fa (f + 1) p S V dp false mn).bind s_fin = _
  rw [s_mrun_f _ _ _ _ _ _ ht, h]; rfl⟩
-- enough rounds
theorem s_mrun_stable : ∀ f p S V dp wa mn, p ≤ n → n + 1 ≤ f + p → s_mrun b n fa (f + 1) p S V dp wa mn = s_mrun b n fa (f + 2) p S V dp wa mn
  | 0, p, S, V, dp, wa, mn, hp, hf => by omega
  | f + 1, p, S, V, dp, wa, mn, hp, hf => by
    have tm := s_tok_mem b n p
    have nx : ∀ R : List Int32 × List Int32 × Int32 × Bool × Bool, s_tok b n p ≠ 0 → s_mrun b n fa (f + 1) (s_en b n p) R.1 R.2.1 R.2.2.1 R.2.2.2.1 R.2.2.2.2 = s_mrun b n fa (f + 2) (s_en b n p) R.1 R.2.1 R.2.2.1 R.2.2.2.1 R.2.2.2.2 := by
      intro R h0
      have := s_en_gt h0
      have := s_st_ge b n p
      exact s_mrun_stable f _ _ _ _ _ _ (s_en_le b hp) (by omega)
    cases wa with
    | true =>
      rw [s_mrun_t, s_mrun_t]
      cases r : s_mo (s_tok b n p) (s_xv fa b n p) S V dp mn with
      | none => rfl
      | some R => exact nx R (s_mo_len tm r).1
    | false =>
      by_cases c : s_tok b n p = 59
      · rw [s_mrun_e _ _ _ _ _ _ c, s_mrun_e _ _ _ _ _ _ c]
      · rw [s_mrun_f _ _ _ _ _ _ c, s_mrun_f _ _ _ _ _ _ c]
        cases r : s_msg (s_tok b n p) S V dp mn with
        | none => rfl
        | some R0 => cases R0 with
          | none => rfl
          | some R => exact nx R (s_msg_len tm r).1
theorem s_mrun_enough {p : Nat} {S V : List Int32} {dp : Int32} {wa mn : Bool} (hp : p ≤ n) : ∀ k, s_mrun b n fa (n + 2 + k) p S V dp wa mn = s_mrun b n fa (n + 2) p S V dp wa mn
  | 0 => rfl
  | k + 1 => by
    rw [show n + 2 + (k + 1) = (n + 1 + k) + 2 by omega, ← s_mrun_stable (n + 1 + k) p S V dp wa mn hp (by omega), show n + 1 + k + 1 = n + 2 + k by omega]
    exact s_mrun_enough hp k
-- pending signs
def s_set : List Int32 → List Int32 → Option (List Int32)
  | [], V => some V
  | s :: R, V => (s_wk s V).bind (s_set R)
def s_c14 : List Int32 → Int32
  | [] => 0
  | s :: R => (if s = 14 then 1 else 0) + s_c14 R
def s_nom : List Int32 → Prop
  | [] => True
  | s :: _ => s ≠ 109
theorem s_set_app : ∀ (R R' V : List Int32), s_set (R ++ R') V = (s_set R V).bind (s_set R')
  | [], _, _ => rfl
  | s :: R, R', V => by
    show (s_wk s V).bind (s_set (R ++ R')) = ((s_wk s V).bind (s_set R)).bind (s_set R')
    cases s_wk s V with
    | none => rfl
    | some V' => exact s_set_app R R' V'
theorem s_c14_app : ∀ (R R' : List Int32), s_c14 (R ++ R') = s_c14 R + s_c14 R'
  | [], R' => by show s_c14 R' = 0 + s_c14 R'; rw [Int32.zero_add]
  | s :: R, R' => by
    show (if s = 14 then 1 else 0) + s_c14 (R ++ R') = (if s = 14 then 1 else 0) + s_c14 R + s_c14 R'
    rw [s_c14_app R R', Int32.add_assoc]
theorem s_wd_stop {t : Nat} {S V : List Int32} {dp : Int32} (h : s_tpn S < t) : s_wd t S V dp = some (S, V, dp) := by
  cases S with
  | nil => rfl
  | cons s S => exact if_neg (show ¬ t ≤ s_near s by change s_near s < t at h; omega)
theorem s_wd_all {t : Nat} {S : List Int32} : ∀ {R V V' : List Int32} {dp : Int32}, (∀ s, s ∈ R → t ≤ s_near s) → s_set R V = some V' → s_wd t (R ++ S) V (dp + s_c14 R) = s_wd t S V' dp
  | [], V, V', dp, _, e => by
    have e' : V = V' := by injection e
    subst e'
    show s_wd t S V (dp + 0) = _
    rw [Int32.add_zero]
  | s :: R, V, V', dp, h, e => by
    cases r : s_wk s V with
    | none => change (s_wk s V).bind _ = _ at e; rw [r] at e; cases e
    | some V1 =>
      change (s_wk s V).bind _ = _ at e
      rw [r] at e
      show (if t ≤ s_near s then match s_wk s V with
        | none => none
        | some V' => s_wd t (R ++ S) V' (if s = 14 then (dp + ((if s = 14 then 1 else 0) + s_c14 R)) - 1 else dp + ((if s = 14 then 1 else 0) + s_c14 R))
        else _) = _
      rw [if_pos (h s (List.mem_cons_self)), r]
      have d : (if s = 14 then (dp + ((if s = 14 then 1 else 0) + s_c14 R)) - 1 else dp + ((if s = 14 then 1 else 0) + s_c14 R)) = dp + s_c14 R := by
        by_cases q : s = 14
        · rw [if_pos q, if_pos q]; grind
        · rw [if_neg q, if_neg q, Int32.zero_add]
      simp only [d]
      exact s_wd_all (fun x hx => h x (List.mem_cons_of_mem _ hx)) e
-- the code
def s_jc (k x y : Int32) : Int32 := if k = 5 then (if ¬ x = 0 ∨ ¬ y = 0 then 1 else 0) else if k = 6 then (if ¬ x = 0 ∧ ¬ y = 0 then 1 else 0) else if k = 60 then (if x < y then 1 else 0) else if k = 61 then (if x = y then 1 else 0) else if k = 43 then x + y else if k = 45 then x - y else x * y
def s_ord (fa : Nat → Int32) (o : Int32) (K : List Int32) : Option (List Int32) :=
  if ¬ o < 0 then some (o :: K)
  else if ¬ -o < 8 ∧ ¬ 13 < -o then some (fa (-o - 8).toNatClampNeg :: K)
  else if o = -14 ∨ o = -7 then match K with
    | [] => none
    | x :: K => some ((if o = -7 then (if x = 0 then 1 else 0) else -x) :: K)
  else match K with
    | y :: x :: K => some (s_jc (-o) x y :: K)
    | _ => none
def s_ex (fa : Nat → Int32) : List Int32 → List Int32 → Option (List Int32)
  | [], K => some K
  | o :: c, K => (s_ord fa o K).bind (s_ex fa c)
theorem s_ex_app : ∀ (c c' K : List Int32), s_ex fa (c ++ c') K = (s_ex fa c K).bind (s_ex fa c')
  | [], _, _ => rfl
  | o :: c, c', K => by
    show (s_ord fa o K).bind (s_ex fa (c ++ c')) = ((s_ord fa o K).bind (s_ex fa c)).bind (s_ex fa c')
    cases s_ord fa o K with
    | none => rfl
    | some K' => exact s_ex_app c c' K'
/-- what a level of the reader claims -/
def s_Sim (b : Nat → Nat) (n : Nat) (fa : Nat → Int32) (l lim : Nat) (M : Bool → Nat → Prop) (Φ : Nat → List Int32 → Prop) (dp : Int32) (X : zPS → Bool × zPS) : Prop := ∀ p C, 1 ≤ p → p ≤ n → (∀ p' C', X (p, C) = (true, (p', C')) → ∃ c v, C' = C ++ c ∧ (∀ K, s_ex fa c K = some (v :: K)) ∧ ∀ S V mn, s_tpn S < lim → s_nom S → M mn p → ∃ R V' mn', s_Rch b n fa (p, S, V, dp, true, mn) (p', R ++ S, V', dp + s_c14 R, false, mn') ∧ (∀ s, s ∈ R → l ≤ s_near s) ∧ s_set R V' = some (v :: V) ∧ Φ (s_tok b n p') R) ∧ (∀ p' C', X (p, C) = (false, (p', C')) → ∀ S V mn, s_tpn S < lim → s_nom S → M mn p → s_Bad b n fa (p, S, V, dp, true, mn) p')
def s_SimO (b : Nat → Nat) (n : Nat) (fa : Nat → Int32) (dp : Int32) (X : zPS → Bool × zPS) : Prop := ∀ p C, 1 ≤ p → p ≤ n → (∀ p' C', X (p, C) = (true, (p', C')) → ∃ c v, C' = C ++ c ∧ (∀ K, s_ex fa c K = some (v :: K)) ∧ ∀ S V mn, (s_tok b n p = 7 → mn = false) → ∃ mn', s_Rch b n fa (p, S, V, dp, true, mn) (p', (s_oe S (v :: V) dp).1, (s_oe S (v :: V) dp).2.1, (s_oe S (v :: V) dp).2.2, false, mn')) ∧ (∀ p' C', X (p, C) = (false, (p', C')) → ∀ S V mn, (s_tok b n p = 7 → mn = false) → s_Bad b n fa (p, S, V, dp, true, mn) p')
theorem s_oe_nom {S V : List Int32} {v dp : Int32} (h : s_nom S) : s_oe S (v :: V) dp = (S, v :: V, dp) := by
  cases S with
  | nil => rfl
  | cons s S => exact if_neg h
theorem s_Sim_O {dp : Int32} {X : zPS → Bool × zPS} (h : s_SimO b n fa dp X) : s_Sim b n fa 7 7 (fun mn p => s_tok b n p = 7 → mn = false) (fun _ _ => True) dp X := by
  intro p C hp1 hp
  obtain ⟨h1, h2⟩ := h p C hp1 hp
  refine ⟨?_, ?_⟩
  · intro p' C' e
    obtain ⟨c, v, a1, a2, a3⟩ := h1 p' C' e
    refine ⟨c, v, a1, a2, ?_⟩
    intro S V mn _ hS hM
    obtain ⟨mn', r⟩ := a3 S V mn hM
    rw [s_oe_nom hS] at r
    refine ⟨[], v :: V, mn', ?_, (fun s q => by cases q), rfl, trivial⟩
    show s_Rch b n fa _ (p', S, v :: V, dp + 0, false, mn')
    rw [Int32.add_zero]
    exact r
  · intro p' C' e S V mn _ _ hM
    exact h2 p' C' e S V mn hM
end SIM
