-- RULES OF A RUN
def z_Ev (E : zE) (d : Nat) (M : zM) (pc : Nat) (ls : zL) (st : List Value) (z : Nat) (σ : zS) (r : zR) : Prop := ∃ n, z_run (z_cl E d) E M n pc ls st z σ = some r
noncomputable def z_nx (E : zE) (d : Nat) (M : zM) (n : Nat) (y : zY) : Option zR := match y with
  | some (.inl (pc, ls, st, z, σ)) => z_run (z_cl E d) E M n pc ls st z σ
  | some (.inr r) => some r
  | none => none
def z_EY (E : zE) (d : Nat) (M : zM) (y : zY) (r : zR) : Prop := ∃ n, z_nx E d M n y = some r
section EV
variable {E : zE} {d : Nat} {M : zM} {pc : Nat} {ls : zL} {st : List Value} {z : Nat} {σ : zS} {r : zR}
theorem z_evG (k : Nat) {y : zY} (hy : ∀ n, z_run (z_cl E d) E M (n + k) pc ls st z σ = z_nx E d M n y) (h : z_EY E d M y r) : z_Ev E d M pc ls st z σ r := by
  obtain ⟨n, h⟩ := h
  exact ⟨n + k, by rw [hy]; exact h⟩
theorem z_evL (h : z_Ev E d M pc ls st z σ r) : z_EY E d M (z_go pc ls st z σ) r := h
theorem z_evR {r' : zR} (h : r' = r) : z_EY E d M (some (.inr r')) r := ⟨0, by rw [h]; rfl⟩
theorem z_evI {c : Prop} {_ : Decidable c} {a b : zY} (ha : c → z_EY E d M a r) (hb : ¬ c → z_EY E d M b r) : z_EY E d M (if c then a else b) r := by
  by_cases q : c
  · rw [if_pos q]; exact ha q
  · rw [if_neg q]; exact hb q
theorem z_evC {b : Bool} {y : zY} (hb : b = true) (h : z_EY E d M y r) : z_EY E d M (z_ck b y) r := by rw [hb]; exact h
theorem z_evB {i : Int32} {o : Option (Nat × (Nat → Int32))} {N : Nat} {f : Nat → Int32} {k : Int32 → zY} (ho : o = some (N, f)) (hi : z_in i N = true) (h : z_EY E d M (k (f i.toNatClampNeg)) r) : z_EY E d M (z_ild o i k) r := by
  subst ho
  show z_EY E d M (z_ck (z_in i N) _) r
  rw [hi]; exact h
theorem z_evK {o : Option zR} {v : Value} {z' : Nat} {σ' : zS} (ho : o = some (some v, z', σ')) (h : z_Ev E d M pc ls (v :: st) z' σ' r) : z_EY E d M (z_ret o pc ls st) r := by
  subst ho
  exact h
theorem z_evV {o : Option zR} {z' : Nat} {σ' : zS} (ho : o = some (none, z', σ')) (h : z_Ev E d M pc ls st z' σ' r) : z_EY E d M (z_ret o pc ls st) r := by
  subst ho
  exact h
theorem z_call {mid : Nat} {as : List Value} (hM : z_mt mid = some M) (ha : Nat.ble (z_argl as).length M.2.2.1 = true) (h : z_Ev E d M 0 (z_pad M.2.2.1 (z_argl as)) [] z σ r) : z_cl E (d + 1) mid as (z, σ) = some r := by
  obtain ⟨n, h⟩ := h
  unfold z_cl
  rw [hM]
  dsimp only
  rw [ha]
  exact z_lim_eq h
end EV
