-- LAYERS: both find the same
def s_l2 (U : List Nat → Int32) (a b : List Nat) : Prop := (U a).toInt < (U b).toInt ∨ ((U a).toInt = (U b).toInt ∧ a.length < b.length)
def s_ev2 (U : List Nat → Int32) (q x : List Nat) : Bool := decide ((U x).toInt = (U q).toInt ∧ x.length = q.length)
theorem s_lst_y {U : List Nat → Int32} {o q : List Nat} (h : s_l2 U o q) : s_lst U (some (U q, q)) o = some (U o, o) := by
  unfold s_l2 at h
  refine if_pos ?_
  rcases h with h | ⟨h1, h2⟩
  · exact .inl (Int32.lt_iff_toInt_lt.mpr h)
  · exact .inr ⟨Int32.toInt_inj.mp h1, h2⟩
theorem s_lst_n {U : List Nat → Int32} {o q : List Nat} (h : ¬ s_l2 U o q) : s_lst U (some (U q, q)) o = some (U q, q) := by
  unfold s_l2 at h
  refine if_neg (fun r => h ?_)
  rcases r with r | ⟨r1, r2⟩
  · exact .inl (Int32.lt_iff_toInt_lt.mp r)
  · exact .inr ⟨by rw [r1], r2⟩
theorem s_fold1 (U : List Nat → Int32) : ∀ (L : List (List Nat)) (q0 : List Nat), ∃ q, L.foldl (s_lst U) (some (U q0, q0)) = some (U q, q) ∧ q ∈ q0 :: L ∧ (∀ x, x ∈ q0 :: L → ¬ s_l2 U x q) ∧ (q0 :: L).find? (s_ev2 U q) = some q
  | [], q0 => ⟨q0, rfl, List.mem_cons_self, fun x hx => by
      rw [List.mem_singleton] at hx
      subst hx
      unfold s_l2
      omega, by
      rw [List.find?_cons_of_pos (by unfold s_ev2; simp)]⟩
  | o :: L, q0 => by
    by_cases h : s_l2 U o q0
    · obtain ⟨q, h1, h2, h3, h4⟩ := s_fold1 U L o
      have ho := h3 o List.mem_cons_self
      refine ⟨q, ?_, List.mem_cons_of_mem _ h2, fun x hx => ?_, ?_⟩
      · rw [List.foldl_cons, s_lst_y h]; exact h1
      · rcases List.mem_cons.mp hx with hx | hx
        · subst hx
          unfold s_l2 at *
          omega
        · exact h3 x hx
      · rw [List.find?_cons_of_neg (by
          unfold s_ev2
          unfold s_l2 at h ho
          rw [decide_eq_true_iff]
          omega)]
        exact h4
    · obtain ⟨q, h1, h2, h3, h4⟩ := s_fold1 U L q0
      have h0 := h3 q0 List.mem_cons_self
      refine ⟨q, ?_, ?_, fun x hx => ?_, ?_⟩
      · rw [List.foldl_cons, s_lst_n h]; exact h1
      · rcases List.mem_cons.mp h2 with r | r
        · rw [r]; exact List.mem_cons_self
        · exact List.mem_cons_of_mem _ (List.mem_cons_of_mem _ r)
      · rcases List.mem_cons.mp hx with hx | hx
        · rw [hx]; exact h0
        · rcases List.mem_cons.mp hx with hx | hx
          · subst hx
            unfold s_l2 at *
            omega
          · exact h3 x (List.mem_cons_of_mem _ hx)
      · by_cases e : s_ev2 U q q0 = true
        · rw [List.find?_cons_of_pos e] at h4 ⊢
          exact h4
        · rw [List.find?_cons_of_neg e] at h4 ⊢
          rw [List.find?_cons_of_neg (by
            unfold s_ev2 at e ⊢
            unfold s_l2 at h h0
            rw [decide_eq_true_iff] at e ⊢
            omega)]
          exact h4
theorem s_fold0 (U : List Nat → Int32) (L : List (List Nat)) (hL : L ≠ []) : ∃ q, L.foldl (s_lst U) none = some (U q, q) ∧ q ∈ L ∧ (∀ x, x ∈ L → ¬ s_l2 U x q) ∧ L.find? (s_ev2 U q) = some q := by
  cases L with
  | nil => exact absurd rfl hL
  | cons q0 L => exact s_fold1 U L q0
theorem s_find_len (U : List Nat → Int32) (q : List Nat) (L : List (List Nat)) : L.find? (s_ev2 U q) = (L.filter (fun x => x.length == q.length)).find? (s_ev2 U q) := by
  induction L with
  | nil => rfl
  | cons a L ih =>
    by_cases e : s_ev2 U q a = true
    · have hl : (a.length == q.length) = true := by
        unfold s_ev2 at e
        rw [decide_eq_true_iff] at e
        rw [beq_iff_eq]; exact e.2
      rw [List.find?_cons_of_pos e, List.filter_cons_of_pos (p := fun x : List Nat => x.length == q.length) (a := a) hl, List.find?_cons_of_pos e]
    · rw [List.find?_cons_of_neg e]
      by_cases hl : (a.length == q.length) = true
      · rw [List.filter_cons_of_pos (p := fun x : List Nat => x.length == q.length) (a := a) hl, List.find?_cons_of_neg e]; exact ih
      · rw [List.filter_cons_of_neg (p := fun x : List Nat => x.length == q.length) (a := a) hl]; exact ih
theorem s_fold_eq (U : List Nat → Int32) {L M : List (List Nat)} (hL : L ≠ []) (hM : M ≠ []) (lL : ∀ x, x ∈ L → x.length ≤ 5) (lM : ∀ x, x ∈ M → x.length ≤ 5) (h : ∀ k, k ≤ 5 → L.filter (fun x => x.length == k) = M.filter (fun x => x.length == k)) : L.foldl (s_lst U) none = M.foldl (s_lst U) none := by
  obtain ⟨q, q1, q2, q3, q4⟩ := s_fold0 U L hL
  obtain ⟨p, p1, p2, p3, p4⟩ := s_fold0 U M hM
  have qM : q ∈ M := by
    have : q ∈ M.filter (fun x => x.length == q.length) := by rw [← h _ (lL q q2)]; exact List.mem_filter.mpr ⟨q2, by simp⟩
    exact (List.mem_filter.mp this).1
  have pL : p ∈ L := by
    have : p ∈ L.filter (fun x => x.length == p.length) := by rw [h _ (lM p p2)]; exact List.mem_filter.mpr ⟨p2, by simp⟩
    exact (List.mem_filter.mp this).1
  have a1 := p3 q qM
  have a2 := q3 p pL
  have e : (U q).toInt = (U p).toInt ∧ q.length = p.length := by
    unfold s_l2 at a1 a2
    omega
  have ef : s_ev2 U q = s_ev2 U p := by
    funext x
    unfold s_ev2
    rw [e.1, e.2]
  have : some q = some p := by
    rw [← q4, ← p4, s_find_len U q L, s_find_len U p M, ef, e.2, h _ (lM p p2)]
  cases this
  rw [q1, p1]
-- the lists
theorem s_fm_cong {α β : Type} {f g : α → List β} : ∀ {l : List α}, (∀ a, a ∈ l → f a = g a) → l.flatMap f = l.flatMap g
  | [], _ => rfl
  | a :: l, h => by
    rw [List.flatMap_cons, List.flatMap_cons, h a List.mem_cons_self, s_fm_cong (fun b hb => h b (List.mem_cons_of_mem _ hb))]
theorem s_fil_map {f : Nat → Nat} : ∀ {B : List Nat} {a : Nat}, (∀ x, x ∈ B → f x = f a → x = a) → (B.map f).filter (fun s => !(s == f a)) = (B.filter (fun s => !(s == a))).map f
  | [], a, _ => rfl
  | b :: B, a, h => by
    have ih := s_fil_map (f := f) (B := B) (a := a) (fun x hx => h x (List.mem_cons_of_mem _ hx))
    rw [List.map_cons]
    by_cases e : b = a
    · subst e
      rw [List.filter_cons_of_neg (by simp), List.filter_cons_of_neg (by simp), ih]
    · have e2 : ¬ f b = f a := fun q => e (h b List.mem_cons_self q)
      rw [List.filter_cons_of_pos (by simp [e2]), List.filter_cons_of_pos (by simp [e]), List.map_cons, ih]
theorem s_pre_map {f : Nat → Nat} : ∀ (n : Nat) (B o : List Nat), (∀ x y, x ∈ B → y ∈ B → f x = f y → x = y) → s_pre n (B.map f) (o.map f) = (s_pre n B o).map (List.map f)
  | 0, _, _, _ => rfl
  | n + 1, B, o, h => by
    show o.map f :: (B.map f).flatMap _ = (o :: B.flatMap _).map (List.map f)
    rw [List.map_cons, List.flatMap_map, List.map_flatMap]
    congr 1
    refine s_fm_cong (fun a ha => ?_)
    rw [s_fil_map (fun x hx e => h x a hx ha e), show List.map f o ++ [f a] = (o ++ [a]).map f by rw [List.map_append]; rfl]
    exact s_pre_map n _ _ (fun x y hx hy => h x y (List.mem_filter.mp hx).1 (List.mem_filter.mp hy).1)
theorem s_mw_map (tl : Nat → Nat) (m s : Nat) : ∀ u, s_mw tl m s u = (s_mw (fun k => k) m s u).map (List.map tl)
  | 0 => rfl
  | u + 1 => by
    cases h : s_nd (s_way m s u) with
    | true => rw [s_mw_t h, s_mw_t h, List.map_append, s_mw_map tl m s u, List.map_singleton, List.map_map]; rfl
    | false => rw [s_mw_f h, s_mw_f h, s_mw_map tl m s u]
theorem s_ms_map (tl : Nat → Nat) (m : Nat) : ∀ k, s_ms tl m k = (s_ms (fun k => k) m k).map (List.map tl)
  | 0 => rfl
  | k + 1 => by
    show s_ms tl m k ++ s_mw tl m (k + 1) (m ^ (k + 1)) = (s_ms (fun k => k) m k ++ s_mw (fun k => k) m (k + 1) (m ^ (k + 1))).map (List.map tl)
    rw [List.map_append, s_ms_map tl m k, s_mw_map]
def s_chk (m : Nat) : Bool := ((s_pre 5 (List.range m) []).all fun x => Nat.ble x.length 5) && ((s_ms (fun k => k) m m).all fun x => Nat.ble x.length 5) && (List.range 6).all fun k => ((s_pre 5 (List.range m) []).filter fun x => Nat.beq x.length k) == ((s_ms (fun k => k) m m).filter fun x => Nat.beq x.length k)
theorem s_chk_0 : s_chk 0 = true := by decide +kernel
theorem s_chk_1 : s_chk 1 = true := by decide +kernel
theorem s_chk_2 : s_chk 2 = true := by decide +kernel
theorem s_chk_3 : s_chk 3 = true := by decide +kernel
theorem s_chk_4 : s_chk 4 = true := by decide +kernel
theorem s_chk_5 : s_chk 5 = true := by decide +kernel
theorem s_chk_all {m : Nat} (h : m ≤ 5) : s_chk m = true := by
  rcases (by omega : m = 0 ∨ m = 1 ∨ m = 2 ∨ m = 3 ∨ m = 4 ∨ m = 5) with e | e | e | e | e | e <;> subst e
  · exact s_chk_0
  · exact s_chk_1
  · exact s_chk_2
  · exact s_chk_3
  · exact s_chk_4
  · exact s_chk_5
theorem s_bs_inc (x : Nat) : ∀ n, (s_bs x n).Pairwise (· < ·)
  | 0 => List.Pairwise.nil
  | n + 1 => by
    by_cases h : x / 2 ^ n % 2 = 1
    · rw [s_bs_t h, List.pairwise_append]
      refine ⟨s_bs_inc x n, List.pairwise_singleton _ _, fun a ha b hb => ?_⟩
      rw [List.mem_singleton] at hb
      rw [hb]; exact s_bs_lt x n a ha
    · rw [s_bs_f h]; exact s_bs_inc x n
theorem s_list_map (l : List Nat) : l = (List.range l.length).map (fun k => l.getD k 0) := by
  apply List.ext_getElem
  · simp
  · intro i h1 h2
    simp [List.getD_eq_getElem?_getD, List.getElem?_eq_getElem h1]
theorem s_flen (f : Nat → Nat) (L : List (List Nat)) (k : Nat) : (L.map (List.map f)).filter (fun x => x.length == k) = (L.filter (fun x => Nat.beq x.length k)).map (List.map f) := by
  rw [List.filter_map]
  congr 1
  apply List.filter_congr
  intro x _
  show ((List.map f x).length == k) = _
  rw [List.length_map, Bool.eq_iff_iff, beq_iff_eq, Nat.beq_eq]
theorem s_lay_eq (U : List Nat → Int32) {x m : Nat} (hm : (s_bs x 20).length = m) (h5 : m ≤ 5) : (s_pre 5 (s_bs x 20) []).foldl (s_lst U) none = (s_ms (fun k => (s_bs x 20).getD k 0) m m).foldl (s_lst U) none := by
  have c := s_chk_all h5
  unfold s_chk at c
  rw [Bool.and_eq_true, Bool.and_eq_true, List.all_eq_true, List.all_eq_true, List.all_eq_true] at c
  obtain ⟨⟨c1, c2⟩, c3⟩ := c
  have e1 : s_pre 5 (s_bs x 20) [] = (s_pre 5 (List.range m) []).map (List.map (fun k => (s_bs x 20).getD k 0)) := by
    have t := s_pre_map (f := fun k => (s_bs x 20).getD k 0) 5 (List.range m) [] (fun a b ha hb e => by
      rw [List.mem_range] at ha hb
      have inc := List.pairwise_iff_getElem.mp (s_bs_inc x 20)
      rw [← hm] at ha hb
      simp only [List.getD_eq_getElem?_getD, List.getElem?_eq_getElem ha, List.getElem?_eq_getElem hb, Option.getD_some] at e
      rcases Nat.lt_trichotomy a b with r | r | r
      · have := inc a b ha hb r; omega
      · exact r
      · have := inc b a hb ha r; omega)
    rw [← t]
    have t2 := s_list_map (s_bs x 20)
    rw [hm] at t2
    rw [← t2]
    rfl
  rw [e1, s_ms_map]
  refine s_fold_eq U ?_ ?_ ?_ ?_ ?_
  · show (_ :: _ : List (List Nat)).map _ ≠ []
    simp
  · intro q
    rw [List.map_eq_nil_iff] at q
    have : ∀ k, s_ms (fun k => k) m k ≠ [] := fun k => by
      induction k with
      | zero => show [[]] ≠ []; simp
      | succ k ih => show s_ms (fun k => k) m k ++ _ ≠ []; simp [ih]
    exact this m q
  · intro y hy
    obtain ⟨z, z1, z2⟩ := List.mem_map.mp hy
    rw [← z2, List.length_map]
    exact Nat.le_of_ble_eq_true (c1 z z1)
  · intro y hy
    obtain ⟨z, z1, z2⟩ := List.mem_map.mp hy
    rw [← z2, List.length_map]
    exact Nat.le_of_ble_eq_true (c2 z z1)
  · intro k hk
    rw [s_flen, s_flen]
    congr 1
    have := c3 k (List.mem_range.mpr (by omega))
    rw [beq_iff_eq] at this
    exact this
