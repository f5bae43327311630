-- THE PURE STEP IS THE MACHINE'S: fields and arrays
theorem z_f1 {v : Value} (h : v = .null ∨ ∃ t, v = .ref t) : v.category = 1 := by
  rcases h with rfl | ⟨t, rfl⟩ <;> rfl
theorem z_ro_rf {x : zX} (hf : x.2.2.2.2 = .null ∨ ∃ t, x.2.2.2.2 = .ref t) (r : Option Nat) : va_rf (z_ro x r) = z_tr x (z_rv r) := by
  unfold z_ro
  cases r with
  | none => rfl
  | some a =>
    show va_rf (match (if a < 1000 then Value.ref (x.1 + a) else if a = 1007 then x.2.2.2.2 else Value.ref (x.2.2.2.1 a)) with | .ref q => some q | _ => none) = (if a < 1000 then Value.ref (x.1 + a) else if a = 1007 then x.2.2.2.2 else Value.ref (x.2.2.2.1 a))
    split
    · rename_i q h; rw [h]; rfl
    · rename_i h
      by_cases h1 : a < 1000
      · rw [if_pos h1] at h; exact absurd rfl (h _)
      · rw [if_neg h1] at h ⊢
        by_cases h2 : a = 1007
        · rw [if_pos h2] at h ⊢
          rcases hf with e | ⟨t, e⟩
          · rw [e]; rfl
          · exact absurd e (h t)
        · rw [if_neg h2] at h; exact absurd rfl (h _)
def z_ty (ci : Nat) : Nat → FieldType := match ci with
  | 0 => tyX0 | 1 => tyX1 | 2 => tyX2 | 3 => tyX3 | 4 => tyX4 | 5 => tyX5 | 6 => tyX6 | 7 => tyX7 | 8 => tyX8 | 9 => tyX9 | 10 => tyX10 | _ => tyX11
theorem z_12 {P : Nat → Prop} (h0 : P 0) (h1 : P 1) (h2 : P 2) (h3 : P 3) (h4 : P 4) (h5 : P 5) (h6 : P 6) (h7 : P 7) (h8 : P 8) (h9 : P 9) (h10 : P 10) (h11 : P 11) : ∀ i, i < 12 → P i := by
  intro i hi
  match i, hi with
  | 0, _ => exact h0
  | 1, _ => exact h1
  | 2, _ => exact h2
  | 3, _ => exact h3
  | 4, _ => exact h4
  | 5, _ => exact h5
  | 6, _ => exact h6
  | 7, _ => exact h7
  | 8, _ => exact h8
  | 9, _ => exact h9
  | 10, _ => exact h10
  | 11, _ => exact h11
  | n + 12, h => omega
/-- the tables of a class, together -/
theorem z_cls : ∀ ci, ci < 12 → ∃ q, vwCl[ci]? = some q ∧ q.2.2 = z_nf ci ∧ (∀ w ∈ u_ws q.1 q.2.1 q.2.2, w ∈ lw_tbl) ∧ (∀ k, k < q.2.2 → parseFieldDescriptor (q.2.1 k).2.2.1 = some (z_ty ci k)) ∧ (∀ a, a < q.2.2 → ∀ b, b < q.2.2 → a ≠ b → (q.2.1 a).2.1 ≠ (q.2.1 b).2.1) := by
  apply z_12
  · exact ⟨_, rfl, rfl, z_in0, tyX0_ok, nmX0⟩
  · exact ⟨_, rfl, rfl, z_in1, tyX1_ok, nmX1⟩
  · exact ⟨_, rfl, rfl, z_in2, tyX2_ok, nmX2⟩
  · exact ⟨_, rfl, rfl, z_in3, tyX3_ok, nmX3⟩
  · exact ⟨_, rfl, rfl, z_in4, tyX4_ok, nmX4⟩
  · exact ⟨_, rfl, rfl, z_in5, tyX5_ok, nmX5⟩
  · exact ⟨_, rfl, rfl, z_in6, tyX6_ok, nmX6⟩
  · exact ⟨_, rfl, rfl, z_in7, tyX7_ok, nmX7⟩
  · exact ⟨_, rfl, rfl, z_in8, tyX8_ok, nmX8⟩
  · exact ⟨_, rfl, rfl, z_in9, tyX9_ok, nmX9⟩
  · exact ⟨_, rfl, rfl, z_in10, tyX10_ok, nmX10⟩
  · exact ⟨_, rfl, rfl, z_in11, tyX11_ok, nmX11⟩
def z_isR (t : FieldType) : Bool := match t with
  | .object _ => true
  | .array _ => true
  | _ => false
def z_ftk (t : FieldType) : Nat := match t with
  | .int => 0
  | .boolean => 1
  | .long => 2
  | .object _ => 3
  | .array _ => 3
  | _ => 9
theorem z_fty : ∀ ci, ci < 12 → ∀ k, k < z_nf ci → z_ftk (z_ty ci k) = z_ft ci k := by
  apply z_12 <;> decide +kernel
theorem z_lays_good {C : String} {T : u_T} {N : Nat} : ∀ w ∈ u_ws C T N, goodWord w = true := by
  intro w hw
  obtain ⟨k, -, rfl⟩ := List.mem_map.mp hw
  unfold u_lay
  split <;> rfl
theorem z_inG {C : String} {T : u_T} {N : Nat} (h : ∀ w ∈ u_ws C T N, w ∈ lw_tbl) : ∀ w ∈ u_ws C T N, w ∈ z_tbl := fun w hw => List.mem_filter.mpr ⟨h w hw, z_lays_good w hw⟩
theorem z_u2_at {α : Type} (f : Nat → Nat → α) (a i : Nat) (v : α) : z_u2 f a i v a = fun j => if j = i then v else f a j := by
  funext j; simp [z_u2]
theorem z_u2_ne {α : Type} (f : Nat → Nat → α) {a b : Nat} (i : Nat) (v : α) (h : b ≠ a) : z_u2 f a i v b = f b := by
  funext j; simp [z_u2, h]
theorem z_e_obj {x : zX} {σ : zS} {a ci n : Nat} (h : z_SH a = (ci + 4, n)) : z_e x σ a = .inr (ci, (List.range n).map (fun k => z_tr x (z_fv ci k 0 σ a))) := by simp [z_e, h]
theorem z_e_0 {x : zX} {σ : zS} {a n : Nat} (h : z_SH a = (0, n)) : z_e x σ a = .inl (x.2.2.1 0, n, .inl (σ.1 a)) := by simp [z_e, h]
theorem z_e_1 {x : zX} {σ : zS} {a n : Nat} (h : z_SH a = (1, n)) : z_e x σ a = .inl (x.2.2.1 1, n, .inr (.inl (σ.2.1 a))) := by simp [z_e, h]
theorem z_e_2 {x : zX} {σ : zS} {a n : Nat} (h : z_SH a = (2, n)) : z_e x σ a = .inl (x.2.2.1 2, n, .inl (σ.1 a)) := by simp [z_e, h]
theorem z_e_3 {x : zX} {σ : zS} {a n : Nat} (h : z_SH a = (3, n)) : z_e x σ a = .inl (x.2.2.1 3, n, .inr (.inr (.inr (.inr (fun j => z_ro x (σ.2.2 a j)))))) := by simp [z_e, h]
/-- a cell's entry by its own contents alone -/
theorem z_e_off {x : zX} {σ τ : zS} {b : Nat} (h1 : τ.1 b = σ.1 b) (h2 : τ.2.1 b = σ.2.1 b) (h3 : τ.2.2 b = σ.2.2 b) : z_e x τ b = z_e x σ b := by
  unfold z_e
  have hv : ∀ ci k, z_fv ci k 0 τ b = z_fv ci k 0 σ b := fun ci k => by unfold z_fv; rw [h1, h2, h3]
  simp only [h1, h2, h3, hv]
theorem z_fs_put {x : zX} {σ τ : zS} {a ci n fk : Nat} {v : Value} (hk : fk < n) (hv : z_tr x (z_fv ci fk 0 τ a) = v) (ho : ∀ j, j ≠ fk → z_fv ci j 0 τ a = z_fv ci j 0 σ a) : (List.range n).map (fun k => z_tr x (z_fv ci k 0 τ a)) = ((List.range n).map (fun k => z_tr x (z_fv ci k 0 σ a))).set fk v := by
  apply List.ext_getElem?
  intro j
  by_cases hj : j < n
  · by_cases e : j = fk
    · subst e
      rw [List.getElem?_set_self (by simp [hk])]
      simp [hj, hv]
    · rw [List.getElem?_set_ne (Ne.symm e)]
      simp [hj, ho j e]
  · rw [List.getElem?_eq_none (by simp; omega), List.getElem?_eq_none (by simp; omega)]
theorem z_b01_n {v : Int32} (h : z_b01 v = true) : narrow .boolean (.int v) = .int v ∧ fits .boolean (.int v) = true ∧ vp_nar .boolean v = v := by
  unfold z_b01 at h
  simp only [Bool.or_eq_true, decide_eq_true_eq] at h
  rcases h with rfl | rfl <;> decide +kernel
theorem z_ftk_0 {t : FieldType} (h : z_ftk t = 0) : t = .int := by cases t <;> simp [z_ftk] at h <;> rfl
theorem z_ftk_1 {t : FieldType} (h : z_ftk t = 1) : t = .boolean := by cases t <;> simp [z_ftk] at h <;> rfl
theorem z_ftk_2 {t : FieldType} (h : z_ftk t = 2) : t = .long := by cases t <;> simp [z_ftk] at h <;> rfl
theorem z_ftk_3 {t : FieldType} (h : z_ftk t = 3) : (∃ n, t = .object n) ∨ ∃ n, t = .array n := by cases t <;> simp [z_ftk] at h <;> first | exact Or.inl ⟨_, rfl⟩ | exact Or.inr ⟨_, rfl⟩
theorem z_ft_4 : ∀ ci, ci < 12 → ∀ k, k < z_nf ci → z_ft ci k < 4 := by
  apply z_12 <;> decide +kernel
