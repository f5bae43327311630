-- BASE of the pure walks: where the references point once all is made; more rules
def RF (w a k : Nat) : Option Nat := (bif Nat.ble a 66 then (bif Nat.ble a 33 then (bif Nat.ble a 1 then (bif Nat.ble a 0 then (bif Nat.beq a 0 then (bif Nat.ble k 5 then (bif Nat.ble k 2 then (bif Nat.ble k 0 then (bif Nat.beq k 0 then some 1 else none) else (bif Nat.ble k 1 then (bif Nat.beq k 1 then some 33 else none) else (bif Nat.beq k 2 then some 37 else none))) else (bif Nat.ble k 3 then (bif Nat.beq k 3 then some 43 else none) else (bif Nat.ble k 4 then (bif Nat.beq k 4 then some 65 else none) else (bif Nat.beq k 5 then some 76 else none)))) else (bif Nat.ble k 8 then (bif Nat.ble k 6 then (bif Nat.beq k 6 then some 79 else none) else (bif Nat.ble k 7 then (bif Nat.beq k 7 then some 91 else none) else (bif Nat.beq k 8 then some 106 else none))) else (bif Nat.ble k 10 then (bif Nat.ble k 9 then (bif Nat.beq k 9 then some 110 else none) else (bif Nat.beq k 10 then some 117 else none)) else (bif Nat.ble k 11 then (bif Nat.beq k 11 then some 125 else none) else (bif Nat.beq k 12 then some 126 else none))))) else none) else (bif Nat.beq a 1 then (bif Nat.beq k 0 then some 2 else none) else none)) else (bif Nat.ble a 2 then (bif Nat.beq a 2 then some (3 + k) else none) else (bif Nat.beq a 33 then (bif Nat.ble k 0 then (bif Nat.beq k 0 then some 34 else none) else (bif Nat.ble k 1 then (bif Nat.beq k 1 then some 35 else none) else (bif Nat.beq k 2 then some 36 else none))) else none))) else (bif Nat.ble a 43 then (bif Nat.ble a 37 then (bif Nat.beq a 37 then (bif Nat.ble k 2 then (bif Nat.ble k 0 then (bif Nat.beq k 0 then some 1 else none) else (bif Nat.ble k 1 then (bif Nat.beq k 1 then some 33 else none) else (bif Nat.beq k 2 then some 38 else none))) else (bif Nat.ble k 4 then (bif Nat.ble k 3 then (bif Nat.beq k 3 then some 39 else none) else (bif Nat.beq k 4 then some 40 else none)) else (bif Nat.ble k 5 then (bif Nat.beq k 5 then some 41 else none) else (bif Nat.beq k 6 then some 42 else none)))) else none) else (bif Nat.beq a 43 then (bif Nat.beq k 0 then some 44 else none) else none)) else (bif Nat.ble a 44 then (bif Nat.beq a 44 then some (45 + k) else none) else (bif Nat.ble a 65 then (bif Nat.beq a 65 then (bif Nat.ble k 0 then (bif Nat.beq k 0 then some 1 else none) else (bif Nat.ble k 1 then (bif Nat.beq k 1 then some 66 else none) else (bif Nat.beq k 2 then some 75 else none))) else none) else (bif Nat.beq a 66 then some (67 + k) else none))))) else (bif Nat.ble a 97 then (bif Nat.ble a 79 then (bif Nat.ble a 76 then (bif Nat.beq a 76 then (bif Nat.ble k 0 then (bif Nat.beq k 0 then some 77 else none) else (bif Nat.beq k 6 then some 78 else none)) else none) else (bif Nat.beq a 79 then (bif Nat.ble k 2 then (bif Nat.ble k 0 then (bif Nat.beq k 0 then some 65 else none) else (bif Nat.ble k 1 then (bif Nat.beq k 1 then some 80 else none) else (bif Nat.beq k 2 then some 87 else none))) else (bif Nat.ble k 3 then (bif Nat.beq k 3 then some 88 else none) else (bif Nat.ble k 4 then (bif Nat.beq k 4 then some 89 else none) else (bif Nat.beq k 5 then some 90 else none)))) else none)) else (bif Nat.ble a 80 then (bif Nat.beq a 80 then some (81 + k) else none) else (bif Nat.ble a 91 then (bif Nat.beq a 91 then (bif Nat.ble k 8 then (bif Nat.ble k 1 then (bif Nat.ble k 0 then (bif Nat.beq k 0 then some 79 else none) else (bif Nat.beq k 1 then some 37 else none)) else (bif Nat.ble k 2 then (bif Nat.beq k 2 then some 43 else none) else (bif Nat.ble k 5 then (bif Nat.beq k 5 then some w else none) else (bif Nat.beq k 8 then some 93 else none)))) else (bif Nat.ble k 11 then (bif Nat.ble k 9 then (bif Nat.beq k 9 then some 94 else none) else (bif Nat.ble k 10 then (bif Nat.beq k 10 then some 95 else none) else (bif Nat.beq k 11 then some 96 else none))) else (bif Nat.ble k 12 then (bif Nat.beq k 12 then some 97 else none) else (bif Nat.ble k 13 then (bif Nat.beq k 13 then some 104 else none) else (bif Nat.beq k 14 then some 105 else none))))) else none) else (bif Nat.beq a 97 then some (98 + k) else none)))) else (bif Nat.ble a 110 then (bif Nat.ble a 106 then (bif Nat.beq a 106 then (bif Nat.ble k 1 then (bif Nat.ble k 0 then (bif Nat.beq k 0 then some 65 else none) else (bif Nat.beq k 1 then some 43 else none)) else (bif Nat.ble k 2 then (bif Nat.beq k 2 then some 107 else none) else (bif Nat.ble k 3 then (bif Nat.beq k 3 then some 108 else none) else (bif Nat.beq k 4 then some 109 else none)))) else none) else (bif Nat.beq a 110 then (bif Nat.ble k 4 then (bif Nat.ble k 0 then (bif Nat.beq k 0 then some 111 else none) else (bif Nat.ble k 3 then (bif Nat.beq k 3 then some 112 else none) else (bif Nat.beq k 4 then some 113 else none))) else (bif Nat.ble k 5 then (bif Nat.beq k 5 then some 114 else none) else (bif Nat.ble k 6 then (bif Nat.beq k 6 then some 115 else none) else (bif Nat.beq k 7 then some 116 else none)))) else none)) else (bif Nat.ble a 117 then (bif Nat.beq a 117 then (bif Nat.ble k 0 then (bif Nat.beq k 0 then some 118 else none) else (bif Nat.ble k 1 then (bif Nat.beq k 1 then some 123 else none) else (bif Nat.beq k 2 then some 124 else none))) else none) else (bif Nat.ble a 118 then (bif Nat.beq a 118 then some (119 + k) else none) else (bif Nat.beq a 127 then (bif Nat.ble k 32 then (bif Nat.ble k 12 then (bif Nat.ble k 6 then (bif Nat.ble k 4 then (bif Nat.ble k 2 then (bif Nat.beq k 2 then some 128 else none) else (bif Nat.beq k 4 then some 129 else none)) else (bif Nat.ble k 5 then (bif Nat.beq k 5 then some 130 else none) else (bif Nat.beq k 6 then some 131 else none))) else (bif Nat.ble k 8 then (bif Nat.ble k 7 then (bif Nat.beq k 7 then some 132 else none) else (bif Nat.beq k 8 then some 133 else none)) else (bif Nat.ble k 10 then (bif Nat.beq k 10 then some 134 else none) else (bif Nat.beq k 12 then some 135 else none)))) else (bif Nat.ble k 18 then (bif Nat.ble k 14 then (bif Nat.ble k 13 then (bif Nat.beq k 13 then some 136 else none) else (bif Nat.beq k 14 then some 137 else none)) else (bif Nat.ble k 17 then (bif Nat.beq k 17 then some 138 else none) else (bif Nat.beq k 18 then some 139 else none))) else (bif Nat.ble k 29 then (bif Nat.ble k 19 then (bif Nat.beq k 19 then some 140 else none) else (bif Nat.beq k 29 then some 141 else none)) else (bif Nat.ble k 30 then (bif Nat.beq k 30 then some 142 else none) else (bif Nat.beq k 32 then some 143 else none))))) else (bif Nat.ble k 46 then (bif Nat.ble k 41 then (bif Nat.ble k 39 then (bif Nat.ble k 38 then (bif Nat.beq k 38 then some 144 else none) else (bif Nat.beq k 39 then some 145 else none)) else (bif Nat.ble k 40 then (bif Nat.beq k 40 then some 146 else none) else (bif Nat.beq k 41 then some 147 else none))) else (bif Nat.ble k 44 then (bif Nat.ble k 42 then (bif Nat.beq k 42 then some 148 else none) else (bif Nat.beq k 44 then some 149 else none)) else (bif Nat.ble k 45 then (bif Nat.beq k 45 then some 150 else none) else (bif Nat.beq k 46 then some 151 else none)))) else (bif Nat.ble k 52 then (bif Nat.ble k 49 then (bif Nat.ble k 48 then (bif Nat.beq k 48 then some 152 else none) else (bif Nat.beq k 49 then some 153 else none)) else (bif Nat.ble k 50 then (bif Nat.beq k 50 then some 154 else none) else (bif Nat.beq k 52 then some 155 else none))) else (bif Nat.ble k 54 then (bif Nat.ble k 53 then (bif Nat.beq k 53 then some 156 else none) else (bif Nat.beq k 54 then some 157 else none)) else (bif Nat.ble k 55 then (bif Nat.beq k 55 then some 158 else none) else (bif Nat.ble k 56 then (bif Nat.beq k 56 then some 159 else none) else (bif Nat.beq k 57 then some 160 else none))))))) else none))))))
theorem RF_up (w v : Nat) : z_u2 (RF w) 91 5 (some v) = RF v := by
  funext a k
  unfold z_u2
  by_cases ha : a = 91
  · subst ha
    by_cases hk : k = 5
    · subst hk; rfl
    · rw [if_pos rfl, if_neg hk]
      have : ∀ w, RF w 91 k = RF 0 91 k := by
        intro w
        have hb : Nat.beq k 5 = false := by
          cases h : Nat.beq k 5 with
          | false => rfl
          | true => exact absurd (Nat.eq_of_beq_eq_true h) hk
        simp only [RF, hb]
        rfl
      rw [this w, this v]
  · rw [if_neg ha]
    have hb : Nat.beq a 91 = false := by
      cases h : Nat.beq a 91 with
      | false => rfl
      | true => exact absurd (Nat.eq_of_beq_eq_true h) ha
    simp only [RF, hb]
    rfl
/-- a truth as a number -/
def z_bo (c : Prop) [Decidable c] : Int32 := if c then 1 else 0
theorem z_bo_0 {c : Prop} [Decidable c] : z_bo c = 0 ↔ ¬ c := by
  unfold z_bo
  split
  · rename_i h; exact ⟨fun q => absurd q (by decide), fun q => absurd h q⟩
  · rename_i h; exact ⟨fun _ => h, fun _ => rfl⟩
theorem z_bo_t {c : Prop} [Decidable c] (h : c) : z_bo c = 1 := if_pos h
theorem z_bo_f {c : Prop} [Decidable c] (h : ¬ c) : z_bo c = 0 := if_neg h
theorem z_nat (k : Nat) (h : k < 2 ^ 31) : (nI k).toNatClampNeg = k := nI_clamp h
theorem z_inN {i : Int32} {k N : Nat} (hi : i = nI k) (hk : k < N) (hN : N < 2 ^ 31) : z_in i N = true := by
  subst hi
  unfold z_in
  rw [nI_clamp (Nat.lt_trans hk hN), Bool.and_eq_true, decide_eq_true_eq]
  exact ⟨nI_pos' (Nat.lt_trans hk hN), Nat.ble_eq.mpr hk⟩
section EV2
variable {E : zE} {d : Nat} {M : zM} {pc : Nat} {ls : zL} {st : List Value} {z : Nat} {σ : zS} {r : zR}
theorem z_evBn {i : Int32} {o : Option (Nat × (Nat → Int32))} {N k : Nat} {f : Nat → Int32} {kk : Int32 → zY} (ho : o = some (N, f)) (hi : i = nI k) (hk : k < N) (h : z_EY E d M (kk (f k)) r) (hN : N < 2 ^ 31 := by decide) : z_EY E d M (z_ild o i kk) r := by
  refine z_evB ho (z_inN hi hk hN) ?_
  rw [hi, nI_clamp (Nat.lt_trans hk hN)]
  exact h
theorem z_evO {c : Prop} [Decidable c] {_ : Decidable (z_bo c = 0)} {a b : zY} (ha : ¬ c → z_EY E d M a r) (hb : c → z_EY E d M b r) : z_EY E d M (if z_bo c = 0 then a else b) r :=
  z_evI (fun h => ha (z_bo_0.mp h)) (fun h => hb (Decidable.not_not.mp (fun q => h (z_bo_0.mpr q))))
theorem z_evT {c : Prop} {_ : Decidable c} {a b : zY} (hc : c) (h : z_EY E d M a r) : z_EY E d M (if c then a else b) r := by rw [if_pos hc]; exact h
theorem z_evF {c : Prop} {_ : Decidable c} {a b : zY} (hc : ¬ c) (h : z_EY E d M b r) : z_EY E d M (if c then a else b) r := by rw [if_neg hc]; exact h
theorem z_evY {s t : Nat} {sp dp n : Int32} {N : Nat} {f : Nat → Int32} {k : Nat → zS → zY} (ho : z_ia E z σ s = some (N, f)) (hc : (z_isA z σ t 0 && decide (0 ≤ sp) && decide (0 ≤ dp) && decide (0 ≤ n) && Nat.ble (sp.toNatClampNeg + n.toNatClampNeg) N && Nat.ble (dp.toNatClampNeg + n.toNatClampNeg) (z_SH t).2) = true) (h : z_EY E d M (k z (z_ur σ.1 t (va_cpy f (σ.1 t) sp.toNatClampNeg dp.toNatClampNeg n.toNatClampNeg), σ.2.1, σ.2.2)) r) : z_EY E d M (z_copy E z σ s t sp dp n k) r := by
  unfold z_copy
  rw [ho]
  exact z_evC hc h
end EV2
