-- THE WORLD: the pure cells beside the machine's heap
/-- where the cells begin; the classes' numbers and slots; the classes of int[], long[], boolean[], int[][]; where the fixed cells are; the formatter -/
abbrev zX : Type := Nat × va_G × (Nat → ClassId) × (Nat → Nat) × Value
def z_tr (x : zX) : Value → Value
  | .ref a => if a < 1000 then .ref (x.1 + a) else if a = 1007 then x.2.2.2.2 else .ref (x.2.2.2.1 a)
  | v => v
def z_B (x : zX) : Nat → Prop := fun q => x.1 ≤ q
/-- a reference of the pure cells as the heap's -/
def z_ro (x : zX) (r : Option Nat) : Option Nat := match z_tr x (z_rv r) with
  | .ref q => some q
  | _ => none
def z_e (x : zX) (σ : zS) (a : Nat) : va_E := match (z_SH a).1 with
  | 0 => .inl (x.2.2.1 0, (z_SH a).2, .inl (σ.1 a))
  | 1 => .inl (x.2.2.1 1, (z_SH a).2, .inr (.inl (σ.2.1 a)))
  | 2 => .inl (x.2.2.1 2, (z_SH a).2, .inl (σ.1 a))
  | 3 => .inl (x.2.2.1 3, (z_SH a).2, .inr (.inr (.inr (.inr (fun j => z_ro x (σ.2.2 a j))))))
  | ci + 4 => .inr (ci, (List.range (z_SH a).2).map (fun k => z_tr x (z_fv ci k 0 σ a)))
def z_wl (x : zX) (z : Nat) (σ : zS) : va_W := (List.range z).map (fun a => (x.1 + a, z_e x σ a))
def z_tys (x : zX) : List (ClassId × FieldType) := [(x.2.2.1 0, .int), (x.2.2.1 1, .long), (x.2.2.1 2, .boolean), (x.2.2.1 3, .array .int)]
theorem z_wl_at {x : zX} {z a : Nat} {σ : zS} (h : a < z) : (z_wl x z σ)[a]? = some (x.1 + a, z_e x σ a) := by
  simp [z_wl, h]
theorem z_wl_inv {x : zX} {z k : Nat} {σ : zS} {q : Nat × va_E} (h : (z_wl x z σ)[k]? = some q) : k < z ∧ q = (x.1 + k, z_e x σ k) := by
  by_cases hk : k < z
  · rw [z_wl_at hk] at h
    exact ⟨hk, (Option.some.inj h).symm⟩
  · simp [z_wl, hk] at h
theorem z_wl_D {x : zX} {z : Nat} {σ : zS} : va_D (z_B x) (z_wl x z σ) := by
  refine ⟨fun i j p q hi hj hpq => ?_, fun k q hk => ?_⟩
  · obtain ⟨-, rfl⟩ := z_wl_inv hi
    obtain ⟨-, rfl⟩ := z_wl_inv hj
    have : x.1 + i = x.1 + j := hpq
    omega
  · obtain ⟨-, rfl⟩ := z_wl_inv hk
    exact Nat.le_add_right _ _
/-- a cell is changed -/
theorem z_wl_set {x : zX} {z a : Nat} {σ τ : zS} (ha : a < z) {e : va_E} (he : z_e x τ a = e) (ho : ∀ b, b ≠ a → z_e x τ b = z_e x σ b) : (z_wl x z σ).set a (x.1 + a, e) = z_wl x z τ := by
  subst he
  apply List.ext_getElem?
  intro k
  by_cases hk : k < z
  · by_cases hka : k = a
    · subst hka
      rw [List.getElem?_set_self (by simp [z_wl, ha]), z_wl_at hk]
    · rw [List.getElem?_set_ne (Ne.symm hka), z_wl_at hk, z_wl_at hk, ho k hka]
  · rw [List.getElem?_eq_none (by simp [z_wl]; omega), List.getElem?_eq_none (by simp [z_wl]; omega)]
theorem z_tr_ref {x : zX} {a : Nat} (h : a < 1000) : z_tr x (.ref a) = .ref (x.1 + a) := by simp [z_tr, h]
theorem z_tr_cat {x : zX} (hf : x.2.2.2.2.category = 1) (v : Value) : (z_tr x v).category = v.category := by
  cases v with
  | ref a =>
    show (if a < 1000 then Value.ref (x.1 + a) else if a = 1007 then x.2.2.2.2 else Value.ref (x.2.2.2.1 a)).category = 1
    split
    · rfl
    · split
      · exact hf
      · rfl
  | _ => rfl
theorem z_cat_eq (v : Value) : z_cat v = v.category := by cases v <;> rfl
theorem z_cs_eq {x : zX} (hf : x.2.2.2.2.category = 1) : ∀ st : List Value, ((st.map (z_tr x)).map fun v => v.category).sum = z_cs st
  | [] => rfl
  | v :: t => by
    rw [List.map_cons, List.map_cons, List.sum_cons, z_cs_eq hf t, z_tr_cat hf]
    show _ = z_cat v + z_cs t
    rw [z_cat_eq]
theorem z_SL_mono : ∀ {a b : Nat}, a ≤ b → z_SL a ≤ z_SL b := by
  intro a b h
  induction h with
  | refl => exact Nat.le_refl _
  | step _ ih => exact Nat.le_trans ih (by show _ ≤ z_SL _ + _; omega)
-- the locals
def z_lp (x : zX) : Nat → zL → List (Nat × Value)
  | _, [] => []
  | i, none :: t => z_lp x (i + 1) t
  | i, some v :: t => (i, z_tr x v) :: z_lp x (i + 1) t
theorem z_lp_mem {x : zX} : ∀ (ls : zL) (i : Nat) (q : Nat × Value), q ∈ z_lp x i ls ↔ ∃ j v, z_gl ls j = some v ∧ q = (i + j, z_tr x v)
  | [], i, q => by simp [z_lp, z_gl]
  | none :: t, i, q => by
    rw [show z_lp x i (none :: t) = z_lp x (i + 1) t from rfl, z_lp_mem t (i + 1) q]
    constructor
    · rintro ⟨j, v, h, rfl⟩
      exact ⟨j + 1, v, h, by rw [Nat.add_assoc, Nat.add_comm 1 j]⟩
    · rintro ⟨j, v, h, rfl⟩
      cases j with
      | zero => cases h
      | succ j => exact ⟨j, v, h, by rw [Nat.add_assoc, Nat.add_comm 1 j]⟩
  | some w :: t, i, q => by
    rw [show z_lp x i (some w :: t) = (i, z_tr x w) :: z_lp x (i + 1) t from rfl, List.mem_cons, z_lp_mem t (i + 1) q]
    constructor
    · rintro (rfl | ⟨j, v, h, rfl⟩)
      · exact ⟨0, w, rfl, rfl⟩
      · exact ⟨j + 1, v, h, by rw [Nat.add_assoc, Nat.add_comm 1 j]⟩
    · rintro ⟨j, v, h, rfl⟩
      cases j with
      | zero => cases h; exact Or.inl rfl
      | succ j => exact Or.inr ⟨j, v, h, by rw [Nat.add_assoc, Nat.add_comm 1 j]⟩
theorem z_lp_at {x : zX} {ls : zL} {rls : Array Slot} {nL i : Nat} {v : Value} (h : lv_has rls nL (z_lp x 0 ls)) (hv : z_gl ls i = some v) : rls[i]? = some (.val (z_tr x v)) := by
  have := h.2.2 (0 + i, z_tr x v) ((z_lp_mem ls 0 _).mpr ⟨i, v, hv, rfl⟩)
  simpa using this
theorem z_lp_sub {rls : Array Slot} {nL : Nat} {l l' : List (Nat × Value)} (h : lv_has rls nL l) (hs : ∀ q ∈ l', q ∈ l) : lv_has rls nL l' := ⟨h.1, h.2.1, fun q hq => h.2.2 q (hs q hq)⟩
theorem z_s1_get : ∀ (ls : zL) (i : Nat) (v : Value) (j : Nat) (w : Value), z_gl (z_s1 ls i v) j = some w → (j = i ∧ w = v) ∨ (j ≠ i ∧ z_gl ls j = some w ∧ ¬ (j + 1 = i ∧ z_isJ (some w) = true))
  | [], i, v, j, w, h => by simp [z_s1, z_gl] at h
  | a :: t, 0, v, j, w, h => by
    cases j with
    | zero => simp [z_s1, z_gl] at h; exact Or.inl ⟨rfl, h.symm⟩
    | succ j => exact Or.inr ⟨by omega, h, fun q => by omega⟩
  | a :: t, 1, v, j, w, h => by
    cases j with
    | zero =>
      simp only [z_s1, z_gl] at h
      cases ha : z_isJ a with
      | true => rw [ha] at h; cases h
      | false =>
        rw [ha] at h
        refine Or.inr ⟨by omega, h, fun q => ?_⟩
        have h : a = some w := h
        rw [← h, ha] at q
        cases q.2
    | succ j =>
      have h : z_gl (z_s1 t 0 v) j = some w := h
      rcases z_s1_get t 0 v j w h with ⟨h1, h2⟩ | ⟨h1, h2, h3⟩
      · exact Or.inl ⟨by omega, h2⟩
      · exact Or.inr ⟨by omega, h2, fun q => h3 ⟨by omega, q.2⟩⟩
  | a :: t, i + 2, v, j, w, h => by
    cases j with
    | zero => exact Or.inr ⟨by omega, h, fun q => by omega⟩
    | succ j =>
      have h : z_gl (z_s1 t (i + 1) v) j = some w := h
      rcases z_s1_get t (i + 1) v j w h with ⟨h1, h2⟩ | ⟨h1, h2, h3⟩
      · exact Or.inl ⟨by omega, h2⟩
      · exact Or.inr ⟨by omega, h2, fun q => h3 ⟨by omega, q.2⟩⟩
theorem z_clr_get (t : zL) (j : Nat) (w : Value) (h : z_gl (z_clr t) j = some w) : j ≠ 0 ∧ z_gl t j = some w := by
  cases t with
  | nil => simp [z_clr, z_gl] at h
  | cons a t =>
    cases j with
    | zero => cases h
    | succ j => exact ⟨by omega, h⟩
theorem z_s2_get : ∀ (ls : zL) (i : Nat) (v : Value) (j : Nat) (w : Value), z_gl (z_s2 ls i v) j = some w → (j = i ∧ w = v) ∨ (j ≠ i ∧ j ≠ i + 1 ∧ z_gl ls j = some w ∧ ¬ (j + 1 = i ∧ z_isJ (some w) = true))
  | [], i, v, j, w, h => by simp [z_s2, z_gl] at h
  | a :: t, 0, v, j, w, h => by
    cases j with
    | zero => simp [z_s2, z_gl] at h; exact Or.inl ⟨rfl, h.symm⟩
    | succ j =>
      obtain ⟨h1, h2⟩ := z_clr_get t j w h
      exact Or.inr ⟨by omega, by omega, h2, fun q => by omega⟩
  | a :: t, 1, v, j, w, h => by
    cases j with
    | zero =>
      simp only [z_s2, z_gl] at h
      cases ha : z_isJ a with
      | true => rw [ha] at h; cases h
      | false =>
        rw [ha] at h
        refine Or.inr ⟨by omega, by omega, h, fun q => ?_⟩
        have h : a = some w := h
        rw [← h, ha] at q
        cases q.2
    | succ j =>
      have h : z_gl (z_s2 t 0 v) j = some w := h
      rcases z_s2_get t 0 v j w h with ⟨h1, h2⟩ | ⟨h1, h1', h2, h3⟩
      · exact Or.inl ⟨by omega, h2⟩
      · exact Or.inr ⟨by omega, by omega, h2, fun q => h3 ⟨by omega, q.2⟩⟩
  | a :: t, i + 2, v, j, w, h => by
    cases j with
    | zero => exact Or.inr ⟨by omega, by omega, h, fun q => by omega⟩
    | succ j =>
      have h : z_gl (z_s2 t (i + 1) v) j = some w := h
      rcases z_s2_get t (i + 1) v j w h with ⟨h1, h2⟩ | ⟨h1, h1', h2, h3⟩
      · exact Or.inl ⟨by omega, h2⟩
      · exact Or.inr ⟨by omega, by omega, h2, fun q => h3 ⟨by omega, q.2⟩⟩
