-- HIDDEN by the class: what the search finds
theorem z_ifmin {a b : Nat} (ha : a < 2 ^ 31) (hb : b < 2 ^ 31) : (if nI b < nI a then nI b else nI a) = nI (min a b) := by
  by_cases h : b < a
  · rw [if_pos ((z_ltN rfl rfl hb ha).mpr h), Nat.min_eq_right (by omega)]
  · rw [if_neg (mt (z_ltN rfl rfl hb ha).mp h), Nat.min_eq_left (by omega)]
theorem z_ifmax {a b : Nat} (ha : a < 2 ^ 31) (hb : b < 2 ^ 31) : (if nI a < nI b then nI b else nI a) = nI (max a b) := by
  by_cases h : a < b
  · rw [if_pos ((z_ltN rfl rfl ha hb).mpr h), Nat.max_eq_right (by omega)]
  · rw [if_neg (mt (z_ltN rfl rfl ha hb).mp h), Nat.max_eq_left (by omega)]
def s_nP (f h i : Nat) (lo hi : Nat → Nat) (I0 I : Nat → Nat → Int32) : Prop := (∀ j, j < 4 → I 115 (f + j) = nI (if j < i then min (lo j) (s_dgt h j) else lo j) ∧ I 116 (f + j) = nI (if j < i then max (hi j) (s_dgt h j) else hi j)) ∧ ∀ x k, ¬ ((x = 115 ∨ x = 116) ∧ f ≤ k ∧ k < f + 4) → I x k = I0 x k
theorem x_noteL (E : zE) (d : Nat) (J : Nat → Nat → Int64) (w : Nat) (h f : Nat) (lo hi : Nat → Nat) (I0 : Nat → Nat → Int32) (hf : f ≤ 4) (hh : h < 256) (hlo : ∀ j, lo j ≤ 3) (hhi : ∀ j, hi j ≤ 3) : ∀ n i I x4, i + n = 4 → s_nP f h i lo hi I0 I → ∃ I', z_Ev E (d + 1) z_m34 2 [some (.ref 110), some (.int (nI h)), some (.int (nI f)), some (.int (nI i)), x4] [] 161 (I, J, RF w) (none, 161, I', J, RF w) ∧ s_nP f h 4 lo hi I0 I'
  | 0, i, I, x4, hi4, hP => by
    have e : i = 4 := hi4
    rw [e] at hP
    exact ⟨I, x_nt_e E d I J w h f i x4 e, hP⟩
  | n + 1, i, I, x4, hi4, hP => by
    obtain ⟨I', e2, q2⟩ := x_noteL E d J w h f lo hi I0 hf hh hlo hhi n (i + 1) (z_u2 (z_u2 I 115 (f + i) (if s_dr h (nI i) < I 115 (f + i) then s_dr h (nI i) else I 115 (f + i))) 116 (f + i) (if I 116 (f + i) < s_dr h (nI i) then s_dr h (nI i) else I 116 (f + i))) (some (.int (s_dr h (nI i)))) (by omega) (by
      have dd : s_dr h (nI i) = nI (s_dgt h i) := s_dr_n (by omega) (by omega)
      have b1 := s_dgt_le h i
      have b2 := hlo i
      have b3 := hhi i
      obtain ⟨p1, p2⟩ := hP.1 i (by omega)
      rw [if_neg (Nat.lt_irrefl i)] at p1 p2
      refine ⟨fun j hj => ?_, fun x k q => ?_⟩
      · by_cases ej : j = i
        · subst ej
          rw [z_u2_n _ _ (by omega), z_u2_same, z_u2_same, dd, p1, p2, z_ifmin (by omega) (by omega), z_ifmax (by omega) (by omega), if_pos (by omega), if_pos (by omega)]
          exact ⟨rfl, rfl⟩
        · rw [z_u2_n _ _ (by omega), z_u2_n _ _ (by omega), z_u2_n _ _ (by omega), z_u2_n _ _ (by omega), (hP.1 j hj).1, (hP.1 j hj).2]
          by_cases lj : j < i
          · rw [if_pos lj, if_pos lj, if_pos (by omega), if_pos (by omega)]; exact ⟨rfl, rfl⟩
          · rw [if_neg lj, if_neg lj, if_neg (by omega), if_neg (by omega)]; exact ⟨rfl, rfl⟩
      · rw [z_u2_n _ _ (by omega), z_u2_n _ _ (by omega)]; exact hP.2 x k q)
    exact ⟨I', x_nt_s E d I J w h f i x4 hf (by omega) e2, q2⟩
theorem x_noteQ (E : zE) (d : Nat) (J : Nat → Nat → Int64) (w : Nat) (h f : Nat) (lo hi : Nat → Nat) (I : Nat → Nat → Int32) (hf : f ≤ 4) (hh : h < 256) (hlo : ∀ j, lo j ≤ 3) (hhi : ∀ j, hi j ≤ 3) (hI : ∀ j, j < 4 → I 115 (f + j) = nI (lo j) ∧ I 116 (f + j) = nI (hi j)) : ∃ I', z_cl E (d + 2) 34 [.ref 110, .int (nI h), .int (nI f)] (161, I, J, RF w) = some (none, 161, I', J, RF w) ∧ (∀ j, j < 4 → I' 115 (f + j) = nI (min (lo j) (s_dgt h j)) ∧ I' 116 (f + j) = nI (max (hi j) (s_dgt h j))) ∧ ∀ x k, ¬ ((x = 115 ∨ x = 116) ∧ f ≤ k ∧ k < f + 4) → I' x k = I x k := by
  obtain ⟨I', e2, q2, q3⟩ := x_noteL E d J w h f lo hi I hf hh hlo hhi 4 0 I none rfl ⟨fun j hj => by rw [if_neg (Nat.not_lt_zero j), if_neg (Nat.not_lt_zero j)]; exact hI j hj, fun _ _ _ => rfl⟩
  refine ⟨I', z_call (d := d + 1) (M := z_m34) rfl rfl (x_nt_a E d I J w h f e2), fun j hj => ?_, q3⟩
  have := q2 j hj
  rw [if_pos hj, if_pos hj] at this
  exact this
-- the search
def s_c2 (F : Nat → Nat → Bool) (k : Nat) : Nat := z_fo (fun a s => s + s_ct (F a) 256) 0 k
def s_any (F : Nat → Nat → Bool) (b k : Nat) : Bool := z_fo (fun a r => r || F a b) false k
def s_Za (F : Nat → Nat → Bool) (a : Nat) : Bool := decide (0 < s_ct (F a) 256)
def s_lo (Z : Nat → Bool) (i k : Nat) : Nat := z_fo (fun a v => bif Z a then min v (s_dgt a i) else v) 3 k
def s_hi (Z : Nat → Bool) (i k : Nat) : Nat := z_fo (fun a v => bif Z a then max v (s_dgt a i) else v) 0 k
theorem s_lo_t {Z : Nat → Bool} {i k : Nat} (h : Z k = true) : s_lo Z i (k + 1) = min (s_lo Z i k) (s_dgt k i) := by show (bif Z k then _ else _) = _; rw [h]; rfl
theorem s_lo_f {Z : Nat → Bool} {i k : Nat} (h : Z k = false) : s_lo Z i (k + 1) = s_lo Z i k := by show (bif Z k then _ else _) = _; rw [h]; rfl
theorem s_hi_t {Z : Nat → Bool} {i k : Nat} (h : Z k = true) : s_hi Z i (k + 1) = max (s_hi Z i k) (s_dgt k i) := by show (bif Z k then _ else _) = _; rw [h]; rfl
theorem s_hi_f {Z : Nat → Bool} {i k : Nat} (h : Z k = false) : s_hi Z i (k + 1) = s_hi Z i k := by show (bif Z k then _ else _) = _; rw [h]; rfl
theorem s_lo_le (Z : Nat → Bool) (i : Nat) : ∀ k, s_lo Z i k ≤ 3
  | 0 => Nat.le_refl _
  | k + 1 => by
    have := s_lo_le Z i k
    cases h : Z k with
    | true => rw [s_lo_t h]; exact Nat.le_trans (Nat.min_le_left _ _) this
    | false => rw [s_lo_f h]; exact this
theorem s_hi_le (Z : Nat → Bool) (i : Nat) : ∀ k, s_hi Z i k ≤ 3
  | 0 => Nat.zero_le _
  | k + 1 => by
    have := s_hi_le Z i k
    cases h : Z k with
    | true => rw [s_hi_t h]; exact Nat.max_le.mpr ⟨this, s_dgt_le k i⟩
    | false => rw [s_hi_f h]; exact this
theorem s_c2_le (F : Nat → Nat → Bool) : ∀ k, s_c2 F k ≤ 256 * k
  | 0 => Nat.le_refl _
  | k + 1 => by
    have := s_c2_le F k
    have h := s_ct_le (F k) 256
    show s_c2 F k + s_ct (F k) 256 ≤ _
    omega
/-- outside what the search writes -/
def s_scH (x k : Nat) : Prop := x = 114 ∨ x = 115 ∨ x = 116 ∨ (x = 110 ∧ k = 8)
def s_S1 (F : Nat → Nat → Bool) (a : Nat) (I0 I : Nat → Nat → Int32) : Prop := I 110 8 = nI (s_c2 F a) ∧ (∀ b, b < 256 → I 114 b = if s_any F b a then 1 else 0) ∧ (∀ j, j < 4 → I 115 (0 + j) = nI (s_lo (s_Za F) j a) ∧ I 116 (0 + j) = nI (s_hi (s_Za F) j a)) ∧ (∀ j, j < 4 → I 115 (4 + j) = nI 3 ∧ I 116 (4 + j) = nI 0) ∧ ∀ x k, ¬ s_scH x k → I x k = I0 x k
def s_S2 (F : Nat → Nat → Bool) (b : Nat) (I0 I : Nat → Nat → Int32) : Prop := I 110 8 = nI (s_c2 F 256) ∧ (∀ b, b < 256 → I 114 b = if s_any F b 256 then 1 else 0) ∧ (∀ j, j < 4 → I 115 (0 + j) = nI (s_lo (s_Za F) j 256) ∧ I 116 (0 + j) = nI (s_hi (s_Za F) j 256)) ∧ (∀ j, j < 4 → I 115 (4 + j) = nI (s_lo (fun b => s_any F b 256) j b) ∧ I 116 (4 + j) = nI (s_hi (fun b => s_any F b 256) j b)) ∧ ∀ x k, ¬ s_scH x k → I x k = I0 x k
theorem x_sr2 (E : zE) (d : Nat) (J : Nat → Nat → Int64) (w : Nat) (F : Nat → Nat → Bool) (I0 : Nat → Nat → Int32) : ∀ n b I x2, b + n = 256 → s_S2 F b I0 I → ∃ I', z_Ev E (d + 2) z_m31 112 [some (.ref 110), some (.int (nI b)), x2] [] 161 (I, J, RF w) (none, 161, I', J, RF w) ∧ s_S2 F 256 I0 I'
  | 0, b, I, x2, hb, hS => by
    have e : b = 256 := hb
    rw [e] at hS
    exact ⟨I, x_sr_be E d I J w b x2 e, hS⟩
  | n + 1, b, I, x2, hb, hS => by
    obtain ⟨h1, h2, h3, h4, h5⟩ := hS
    have hv := h2 b (by omega)
    cases hc : s_any F b 256 with
    | true =>
      rw [hc, if_pos rfl] at hv
      obtain ⟨I1, e1, q1, q2⟩ := x_noteQ E d J w b 4 (fun j => s_lo (fun b => s_any F b 256) j b) (fun j => s_hi (fun b => s_any F b 256) j b) I (by decide) (by omega) (fun j => s_lo_le _ j b) (fun j => s_hi_le _ j b) h4
      have sm : ∀ x k, ¬ ((x = 115 ∨ x = 116) ∧ 4 ≤ k ∧ k < 4 + 4) → I1 x k = I x k := q2
      obtain ⟨I', e2, r2⟩ := x_sr2 E d J w F I0 n (b + 1) I1 x2 (by omega) ⟨(sm _ _ (by omega)).trans h1, fun b' hb' => (sm _ _ (by omega)).trans (h2 b' hb'), fun j hj => ⟨(sm _ _ (by omega)).trans (h3 j hj).1, (sm _ _ (by omega)).trans (h3 j hj).2⟩, fun j hj => by rw [s_lo_t (Z := fun b => s_any F b 256) hc, s_hi_t (Z := fun b => s_any F b 256) hc]; exact q1 j hj, fun x k q => by
        unfold s_scH at q
        exact (sm x k (by omega)).trans (h5 x k q)⟩
      exact ⟨I', x_sr_by E d I J w b x2 I1 (by omega) (by rw [hv]; decide) e1 e2, r2⟩
    | false =>
      rw [hc, if_neg (by decide)] at hv
      obtain ⟨I', e2, r2⟩ := x_sr2 E d J w F I0 n (b + 1) I x2 (by omega) ⟨h1, h2, h3, fun j hj => by rw [s_lo_f (Z := fun b => s_any F b 256) hc, s_hi_f (Z := fun b => s_any F b 256) hc]; exact h4 j hj, h5⟩
      exact ⟨I', x_sr_bn E d I J w b x2 (by omega) hv e2, r2⟩
theorem s_any_or {F : Nat → Nat → Bool} {b k : Nat} : s_any F b (k + 1) = (s_any F b k || F k b) := rfl
theorem x_sr1 (E : zE) (d : Nat) (J : Nat → Nat → Int64) (w : Nat) (F : Nat → Nat → Bool) (hF : ∀ a, a < 256 → (fun j => decide (J 113 j = J 110 1 - J 112 a)) = F a) (I0 : Nat → Nat → Int32) : ∀ n a I x2, a + n = 256 → s_S1 F a I0 I → ∃ I', z_Ev E (d + 2) z_m31 63 [some (.ref 110), some (.int (nI a)), x2] [] 161 (I, J, RF w) (none, 161, I', J, RF w) ∧ s_S2 F 256 I0 I'
  | 0, a, I, x2, ha, hS => by
    have e : a = 256 := ha
    rw [e] at hS
    obtain ⟨h1, h2, h3, h4, h5⟩ := hS
    obtain ⟨I', e2, r2⟩ := x_sr2 E d J w F I0 256 0 I x2 rfl ⟨h1, h2, h3, h4, h5⟩
    exact ⟨I', x_sr_e E d I J w a x2 e e2, r2⟩
  | n + 1, a, I, x2, ha, hS => by
    obtain ⟨h1, h2, h3, h4, h5⟩ := hS
    have ha' : a < 256 := by omega
    have b1 := s_c2_le F a
    have b2 := s_ct_le (F a) 256
    have eF := hF a ha'
    have ec : I 110 8 + nI (s_ct (F a) 256) = nI (s_c2 F (a + 1)) := by rw [h1, nI_add]; rfl
    -- the store behind tryWith
    have w1 : ∀ B, B = z_u2 (z_ur I 114 (s_mk (I 114) (F a) 256)) 110 8 (I 110 8 + nI (s_ct (F a) 256)) → B 110 8 = nI (s_c2 F (a + 1)) ∧ (∀ b, b < 256 → B 114 b = if s_any F b (a + 1) then 1 else 0) ∧ ∀ x k, x ≠ 114 → ¬ (x = 110 ∧ k = 8) → B x k = I x k := by
      intro B eB
      subst eB
      refine ⟨by rw [z_u2_same]; exact ec, fun b hb => ?_, fun x k q1 q2 => by rw [z_u2_n _ _ q2, z_ur_n _ _ q1]⟩
      rw [z_u2_n _ _ (by omega), z_ur_same, s_any_or]
      unfold s_mk
      cases hv : F a b with
      | true => rw [if_pos ⟨hb, rfl⟩, Bool.or_true, if_pos rfl]
      | false => rw [if_neg (fun q => by cases q.2), Bool.or_false]; exact h2 b hb
    obtain ⟨B, eB⟩ : ∃ B, B = z_u2 (z_ur I 114 (s_mk (I 114) (F a) 256)) 110 8 (I 110 8 + nI (s_ct (F a) 256)) := ⟨_, rfl⟩
    obtain ⟨g1, g2, g3⟩ := w1 B eB
    have S3 : ∀ j, j < 4 → B 115 (0 + j) = nI (s_lo (s_Za F) j a) ∧ B 116 (0 + j) = nI (s_hi (s_Za F) j a) := fun j hj => ⟨(g3 _ _ (by decide) (by omega)).trans (h3 j hj).1, (g3 _ _ (by decide) (by omega)).trans (h3 j hj).2⟩
    have S4 : ∀ j, j < 4 → B 115 (4 + j) = nI 3 ∧ B 116 (4 + j) = nI 0 := fun j hj => ⟨(g3 _ _ (by decide) (by omega)).trans (h4 j hj).1, (g3 _ _ (by decide) (by omega)).trans (h4 j hj).2⟩
    have S5 : ∀ x k, ¬ s_scH x k → B x k = I0 x k := fun x k q => by
      have q' := q
      unfold s_scH at q
      exact (g3 x k (by omega) (by omega)).trans (h5 x k q')
    cases hc : s_Za F a with
    | true =>
      have hp : 0 < s_ct (F a) 256 := of_decide_eq_true hc
      obtain ⟨I1, e1, q1, q2⟩ := x_noteQ E d J w a 0 (fun j => s_lo (s_Za F) j a) (fun j => s_hi (s_Za F) j a) B (by decide) ha' (fun j => s_lo_le _ j a) (fun j => s_hi_le _ j a) S3
      obtain ⟨I', e2, r2⟩ := x_sr1 E d J w F hF I0 n (a + 1) I1 (some (.int (I 110 8))) (by omega) ⟨(q2 _ _ (by omega)).trans g1, fun b' hb' => (q2 _ _ (by omega)).trans (g2 b' hb'), fun j hj => by rw [s_lo_t hc, s_hi_t hc]; exact q1 j hj, fun j hj => ⟨(q2 _ _ (by omega)).trans (S4 j hj).1, (q2 _ _ (by omega)).trans (S4 j hj).2⟩, fun x k q => by
        have q' := q
        unfold s_scH at q
        exact (q2 x k (by omega)).trans (S5 x k q')⟩
      rw [eB] at e1
      refine ⟨I', x_sr_y E d I J w a x2 I1 ha' ?_ ?_ e2, r2⟩
      · rw [eF, ec, h1]
        exact (z_ltN rfl rfl (by omega) (by show s_c2 F a + s_ct (F a) 256 < _; omega)).mpr (by show s_c2 F a < s_c2 F a + s_ct (F a) 256; omega)
      · rw [eF]; exact e1
    | false =>
      have hp : ¬ 0 < s_ct (F a) 256 := of_decide_eq_false hc
      obtain ⟨I', e2, r2⟩ := x_sr1 E d J w F hF I0 n (a + 1) B (some (.int (I 110 8))) (by omega) ⟨g1, g2, fun j hj => by rw [s_lo_f hc, s_hi_f hc]; exact S3 j hj, S4, S5⟩
      rw [eB] at e2
      refine ⟨I', x_sr_n E d I J w a x2 ha' ?_ ?_, r2⟩
      · rw [eF, ec, h1]
        exact mt (z_ltN rfl rfl (by omega) (by show s_c2 F a + s_ct (F a) 256 < _; omega)).mp (by show ¬ s_c2 F a < s_c2 F a + s_ct (F a) 256; omega)
      · rw [eF]; exact e2

def s_FJ (J : Nat → Nat → Int64) (a b : Nat) : Bool := decide (s_wf J 4 b = J 110 1 - s_wf J 0 a)
theorem s_ct_congr {F G : Nat → Bool} : ∀ {k : Nat}, (∀ j, j < k → F j = G j) → s_ct F k = s_ct G k
  | 0, _ => rfl
  | k + 1, h => by
    have e := s_ct_congr (k := k) (fun j hj => h j (by omega))
    cases q : F k with
    | true => rw [s_ct_t q, s_ct_t ((h k (by omega)).symm.trans q), e]
    | false => rw [s_ct_f q, s_ct_f ((h k (by omega)).symm.trans q), e]

