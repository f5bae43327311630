-- AT THE START: all that is told is right, and the law's call
def k_b (k : Nat) : Nat := [108, 105, 107, 101, 32, 115, 117, 109, 59, 116, 114, 117, 101, 32, 97, 43, 98, 43, 99, 59].getD k 0
theorem k_read : s_read k_b 20 = .inr ([-11, -8, -9, -43, -10, -43], 1) := by decide +kernel
theorem k_v0 : v_hour 0 k_end.1 := ⟨by decide +kernel, by decide +kernel, by decide⟩
theorem k_v1 : v_rows 0 k_end.1 := ⟨by decide +kernel, by decide +kernel, by decide, fun r c h => absurd h (Nat.not_lt_zero _)⟩
theorem k_v2 : v_things 0 0 0 k_end.1 := ⟨by decide +kernel, by decide +kernel, by decide, fun t h => absurd h (Nat.not_lt_zero _)⟩
theorem k_v3 : v_lights 0 k_end.1 := ⟨by decide +kernel, by decide +kernel, by decide, fun r c h => absurd h (Nat.not_lt_zero _)⟩
theorem k_v4 : v_eyes 0 0 k_end.1 := ⟨by decide +kernel, by decide +kernel, by decide, fun t h => absurd h (Nat.not_lt_zero _)⟩
theorem k_text : v_text 0 k_end.1 := by
  obtain ⟨d1, d2, hC, ht, hfa⟩ := s_read_ok (b := k_b) (n := 20) (by decide) k_read
  obtain ⟨rfl, rfl⟩ := List.append_inj (s₁ := [(-11 : Int32)]) (t₁ := [(-8 : Int32), -9, -43, -10, -43]) hC ht
  exact ⟨k_b, 20, [-11], [-8, -9, -43, -10, -43], ⟨by decide +kernel, by decide, by decide +kernel, .inl ⟨rfl, by decide, by decide +kernel⟩⟩, by decide +kernel, by decide +kernel, by decide, by decide +kernel, by decide +kernel, hfa⟩
theorem k_v5 : v_texts 1 0 k_end.1 := ⟨by decide +kernel, by decide +kernel, by decide, by decide +kernel, by decide +kernel, by decide, fun t ht => by
  have e : t = 0 := by omega
  subst e
  exact k_text⟩
theorem k_v6 : v_tape 0 k_end.1 := ⟨by decide +kernel, by decide +kernel, by decide, fun t h => absurd h (Nat.not_lt_zero _)⟩
theorem k_v7 : v_plates 0 0 k_end.1 := ⟨by decide +kernel, by decide +kernel, by decide, fun t h => absurd h (Nat.not_lt_zero _)⟩
theorem k_v8 : v_ages 0 k_end.1 := ⟨by decide +kernel, by decide +kernel, by decide, fun t h => absurd h (Nat.not_lt_zero _)⟩
theorem k_v9J : ∀ c, c < 8 → k_end.2.1 111 c = 0 := by decide +kernel
theorem k_v9 : v_filters 0 0 k_end.1 k_end.2.1 := ⟨by decide +kernel, by decide +kernel, by decide, fun _ => 0, fun _ => 0, fun t h => absurd h (Nat.not_lt_zero _), fun c hc => (k_v9J c hc).trans rfl, by decide +kernel, .inl (by decide +kernel)⟩
theorem k_vA : ∀ s, s < 4 → k_end.1 123 s = (-1) ∧ k_end.1 157 s = (-1) := by decide +kernel
theorem k_inv : v_Inv (fun i => if i = 5 then 1 else 0) k_end.1 k_end.2.1 := ⟨k_v0, k_v1, k_v2, k_v3, k_v4, k_v5, k_v6, k_v7, k_v8, k_v9, fun s hs => .inl (k_vA s hs)⟩
theorem k_law : z_law := fun L xs σ hL => by
  obtain ⟨τ, t⟩ := l_loop L xs hL L 0 k_end.1 k_end.2.1 92 _ (by omega) (by omega) k_inv
  refine ⟨τ, z_call (E := (L, xs)) (d := 99) (M := z_m285) (mid := 285) (as := [.ref 1006]) (z := 0) (σ := σ) rfl rfl (k_law0 (L, xs) 97 σ ?_)⟩
  rw [show k_S244 = (k_end.1, k_end.2.1, RF 92) from by rw [← k_rf]; rfl]
  exact t
