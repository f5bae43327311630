-- TOKENS: pure, and by the class
def s_run (P : Nat → Bool) (n : Nat) : Nat → Nat → Nat
  | 0, _ => 0
  | f + 1, p => if p < n ∧ P p = true then s_run P n f (p + 1) + 1 else 0
def s_rn (P : Nat → Bool) (n p : Nat) : Nat := s_run P n (n - p) p
theorem s_run_lt {P : Nat → Bool} {n : Nat} : ∀ f p k, k < s_run P n f p → p + k < n ∧ P (p + k) = true
  | 0, _, _, h => absurd h (Nat.not_lt_zero _)
  | f + 1, p, k, h => by
    change k < (if p < n ∧ P p = true then s_run P n f (p + 1) + 1 else 0) at h
    by_cases q : p < n ∧ P p = true
    · rw [if_pos q] at h
      cases k with
      | zero => exact q
      | succ k => have := s_run_lt (P := P) (n := n) f (p + 1) k (by omega); rw [show p + 1 + k = p + (k + 1) by omega] at this; exact this
    · rw [if_neg q] at h; exact absurd h (Nat.not_lt_zero _)
theorem s_run_end {P : Nat → Bool} {n : Nat} : ∀ f p, n ≤ p + f → ¬ (p + s_run P n f p < n ∧ P (p + s_run P n f p) = true)
  | 0, p, h => fun q => by have : p + 0 < n := q.1; omega
  | f + 1, p, h => by
    change ¬ (p + (if p < n ∧ P p = true then s_run P n f (p + 1) + 1 else 0) < n ∧ P (p + (if p < n ∧ P p = true then s_run P n f (p + 1) + 1 else 0)) = true)
    by_cases q : p < n ∧ P p = true
    · rw [if_pos q, show p + (s_run P n f (p + 1) + 1) = p + 1 + s_run P n f (p + 1) by omega]; exact s_run_end f (p + 1) (by omega)
    · rw [if_neg q]; exact q
theorem s_run_le {P : Nat → Bool} {n : Nat} : ∀ f p, p ≤ n → p + s_run P n f p ≤ n
  | 0, p, h => h
  | f + 1, p, h => by
    change p + (if p < n ∧ P p = true then s_run P n f (p + 1) + 1 else 0) ≤ n
    split
    · have := s_run_le (P := P) f (p + 1) (n := n) (by omega); omega
    · exact h
theorem s_rn_lt {P : Nat → Bool} {n p k : Nat} (h : k < s_rn P n p) : p + k < n ∧ P (p + k) = true := s_run_lt _ _ _ h
theorem s_rn_end (P : Nat → Bool) (n p : Nat) : ¬ (p + s_rn P n p < n ∧ P (p + s_rn P n p) = true) := s_run_end _ _ (by omega)
theorem s_rn_le (P : Nat → Bool) {n p : Nat} (h : p ≤ n) : p + s_rn P n p ≤ n := s_run_le _ _ h
theorem s_rn_pos {P : Nat → Bool} {n p : Nat} (h : p < n) (q : P p = true) : 0 < s_rn P n p := by
  rcases Nat.eq_zero_or_pos (s_rn P n p) with e | e
  · exact absurd (show p + s_rn P n p < n ∧ P (p + s_rn P n p) = true by rw [e]; exact ⟨h, q⟩) (s_rn_end P n p)
  · exact e
def s_bl (b : Nat → Nat) (k : Nat) : Bool := decide (b k = 32 ∨ b k = 10)
def s_dg (b : Nat → Nat) (k : Nat) : Bool := decide (48 ≤ b k ∧ b k ≤ 57)
def s_al (b : Nat → Nat) (k : Nat) : Bool := decide (97 ≤ b k ∧ b k ≤ 122)
def s_sg (v : Nat) : Bool := v == 40 || v == 41 || v == 59 || v == 43 || v == 45 || v == 42 || v == 60 || v == 61
def s_dec (b : Nat → Nat) (s k : Nat) : Int32 := z_fo (fun j a => a * 10 + nI (b (s + j)) - 48) 0 k
/-- the first that holds -/
def s_first (P : Nat → Bool) (n : Nat) : Option Nat := z_fo (fun k o => match o with | some j => some j | none => if P k then some k else none) none n
theorem s_first_stick {P : Nat → Bool} {n j : Nat} (h : s_first P n = some j) : ∀ d, s_first P (n + d) = some j
  | 0 => h
  | d + 1 => by
    change (match s_first P (n + d) with | some j => some j | none => if P (n + d) then some (n + d) else none) = some j
    rw [s_first_stick h d]
theorem s_first_t {P : Nat → Bool} {k : Nat} (h : s_first P k = none) (q : P k = true) : s_first P (k + 1) = some k := by
  change (match s_first P k with | some j => some j | none => if P k then some k else none) = some k
  rw [h]; exact if_pos q
theorem s_first_f {P : Nat → Bool} {k : Nat} (h : s_first P k = none) (q : ¬ P k = true) : s_first P (k + 1) = none := by
  change (match s_first P k with | some j => some j | none => if P k then some k else none) = none
  rw [h]; exact if_neg q
theorem s_first_hit {P : Nat → Bool} {k n : Nat} (hk : k < n) (h : s_first P k = none) (q : P k = true) : s_first P n = some k := by
  have := s_first_stick (s_first_t h q) (n - (k + 1))
  rw [show k + 1 + (n - (k + 1)) = n by omega] at this
  exact this
def s_ltr (b : Nat → Nat) (s e i : Nat) : Int32 := if s + i < e then nI (b (s + i)) else 32
def s_isw (b : Nat → Nat) (s e k : Nat) : Bool := decide (e - s < 5) && (s_first (fun i => !(z_wordsL.getD (k * 5 + i) 0 == s_ltr b s e i)) 5).isNone
def s_wtok : Option Nat → Nat
  | none => 1
  | some k => 3 + k
theorem z_dgE {x : Int32} {v : Nat} (e : x = nI v) (h : v < 256) : (¬ x < 48 ∧ ¬ 57 < x) ↔ decide (48 ≤ v ∧ v ≤ 57) = true := by
  rw [show (x < 48) ↔ v < 48 from z_ltN e rfl (by omega) (by decide), show (57 < x) ↔ 57 < v from z_ltN rfl e (by decide) (by omega), decide_eq_true_eq]
  omega
theorem z_alE {x : Int32} {v : Nat} (e : x = nI v) (h : v < 256) : (¬ x < 97 ∧ ¬ 122 < x) ↔ decide (97 ≤ v ∧ v ≤ 122) = true := by
  rw [show (x < 97) ↔ v < 97 from z_ltN e rfl (by omega) (by decide), show (122 < x) ↔ 122 < v from z_ltN rfl e (by decide) (by omega), decide_eq_true_eq]
  omega
theorem z_sub3 (k : Nat) : nI (3 + k) - 3 = nI k := (z_subE (a := 3 + k) (b := 3) rfl rfl (by omega)).trans (by rw [show 3 + k - 3 = k by omega])
set_option maxRecDepth 20000 in
theorem z_wch : ∀ j, j < 55 → ((z_wordsL.getD j 0 &&& 255).toUInt32 % 65536).toInt32 = z_wordsL.getD j 0 := by decide
set_option maxRecDepth 20000 in
theorem z_wcn : ∀ j, j < 55 → decide (narrow .char (.int (z_wordsL.getD j 0)) = .int (z_wordsL.getD j 0)) = true := by decide
theorem z_u22 {α : Type} (f : Nat → Nat → α) {a i j : Nat} (x y x' y' : α) (h : i ≠ j) : z_u2 (z_u2 (z_u2 (z_u2 f a i x) a j y) a i x') a j y' = z_u2 (z_u2 f a i x') a j y' := by
  funext c k
  unfold z_u2
  by_cases hc : c = a
  · subst hc
    by_cases h1 : k = j
    · simp [h1]
    · by_cases h2 : k = i
      · simp [h2, h]
      · simp [h1, h2]
  · simp [hc]
theorem z_u2u {α : Type} (f : Nat → Nat → α) {a i : Nat} (x y : α) : z_u2 (z_u2 f a i x) a i y = z_u2 f a i y := by
  funext c k
  unfold z_u2
  by_cases hc : c = a
  · subst hc
    by_cases h1 : k = i
    · simp [h1]
    · simp [h1]
  · simp [hc]
set_option maxRecDepth 20000 in
/-- java/lang/String.coder -/
theorem x_words_coder (E : zE) (d : Nat) (I : Nat → Nat → Int32) (J : Nat → Nat → Int64) (w : Nat) : z_cl E (d + 1) 265 [.ref 1002] (161, I, J, RF w) = some (some (.int 0), 161, I, J, RF w) := by
  refine z_call (d := d + 0) (M := z_m265) rfl rfl ?_
  refine z_evG 2 (y := if 1 = 0 then z_go 13 [some (.ref 1002)] [] 161 (I, J, RF w) else z_go 6 [some (.ref 1002)] [] 161 (I, J, RF w)) (fun _ => rfl) ?_
  refine z_evI (fun q => absurd q (by decide)) (fun _ => ?_)
  refine z_evL ?_
  refine z_evG 4 (y := some (.inr (some (.int 0), 161, I, J, RF w))) (fun _ => rfl) ?_
  exact z_evR rfl
set_option maxRecDepth 20000 in
/-- java/lang/String.isLatin1 -/
theorem x_words_isLatin1 (E : zE) (d : Nat) (I : Nat → Nat → Int32) (J : Nat → Nat → Int64) (w : Nat) : z_cl E (d + 1) 266 [.ref 1002] (161, I, J, RF w) = some (some (.int 1), 161, I, J, RF w) := by
  refine z_call (d := d + 0) (M := z_m266) rfl rfl ?_
  refine z_evG 2 (y := if 1 = 0 then z_go 17 [some (.ref 1002)] [] 161 (I, J, RF w) else z_go 6 [some (.ref 1002)] [] 161 (I, J, RF w)) (fun _ => rfl) ?_
  refine z_evI (fun q => absurd q (by decide)) (fun _ => ?_)
  refine z_evL ?_
  refine z_evG 3 (y := if 0 = 0 then z_go 13 [some (.ref 1002)] [] 161 (I, J, RF w) else z_go 17 [some (.ref 1002)] [] 161 (I, J, RF w)) (fun _ => rfl) ?_
  refine z_evI (fun _ => ?_) (fun q => absurd (by decide) q)
  refine z_evL ?_
  refine z_evG 3 (y := some (.inr (some (.int 1), 161, I, J, RF w))) (fun _ => rfl) ?_
  exact z_evR rfl
set_option maxRecDepth 20000 in
/-- java/lang/String.length -/
theorem x_words_length (E : zE) (d : Nat) (I : Nat → Nat → Int32) (J : Nat → Nat → Int64) (w : Nat) : z_cl E (d + 2) 261 [.ref 1002] (161, I, J, RF w) = some (some (.int 55), 161, I, J, RF w) := by
  refine z_call (d := d + 1) (M := z_m261) rfl rfl ?_
  refine z_evG 5 (y := z_ret (z_cl E (d + 1) 265 [.ref 1002] (161, (I, J, RF w))) 9 [some (.ref 1002)] [.int 55]) (fun _ => rfl) ?_
  refine z_evK (v := .int 0) (z' := 161) (σ' := (I, J, RF w)) (x_words_coder E d I J w) ?_
  refine z_evG 2 (y := some (.inr (some (.int 55), 161, I, J, RF w))) (fun _ => rfl) ?_
  exact z_evR rfl
set_option maxRecDepth 20000 in
/-- java/lang/String.coder -/
theorem x_signs_coder (E : zE) (d : Nat) (I : Nat → Nat → Int32) (J : Nat → Nat → Int64) (w : Nat) : z_cl E (d + 1) 265 [.ref 1004] (161, I, J, RF w) = some (some (.int 0), 161, I, J, RF w) := by
  refine z_call (d := d + 0) (M := z_m265) rfl rfl ?_
  refine z_evG 2 (y := if 1 = 0 then z_go 13 [some (.ref 1004)] [] 161 (I, J, RF w) else z_go 6 [some (.ref 1004)] [] 161 (I, J, RF w)) (fun _ => rfl) ?_
  refine z_evI (fun q => absurd q (by decide)) (fun _ => ?_)
  refine z_evL ?_
  refine z_evG 4 (y := some (.inr (some (.int 0), 161, I, J, RF w))) (fun _ => rfl) ?_
  exact z_evR rfl
set_option maxRecDepth 20000 in
/-- java/lang/String.isLatin1 -/
theorem x_signs_isLatin1 (E : zE) (d : Nat) (I : Nat → Nat → Int32) (J : Nat → Nat → Int64) (w : Nat) : z_cl E (d + 1) 266 [.ref 1004] (161, I, J, RF w) = some (some (.int 1), 161, I, J, RF w) := by
  refine z_call (d := d + 0) (M := z_m266) rfl rfl ?_
  refine z_evG 2 (y := if 1 = 0 then z_go 17 [some (.ref 1004)] [] 161 (I, J, RF w) else z_go 6 [some (.ref 1004)] [] 161 (I, J, RF w)) (fun _ => rfl) ?_
  refine z_evI (fun q => absurd q (by decide)) (fun _ => ?_)
  refine z_evL ?_
  refine z_evG 3 (y := if 0 = 0 then z_go 13 [some (.ref 1004)] [] 161 (I, J, RF w) else z_go 17 [some (.ref 1004)] [] 161 (I, J, RF w)) (fun _ => rfl) ?_
  refine z_evI (fun _ => ?_) (fun q => absurd (by decide) q)
  refine z_evL ?_
  refine z_evG 3 (y := some (.inr (some (.int 1), 161, I, J, RF w))) (fun _ => rfl) ?_
  exact z_evR rfl
set_option maxRecDepth 20000 in
/-- java/lang/String.length -/
theorem x_signs_length (E : zE) (d : Nat) (I : Nat → Nat → Int32) (J : Nat → Nat → Int64) (w : Nat) : z_cl E (d + 2) 261 [.ref 1004] (161, I, J, RF w) = some (some (.int 8), 161, I, J, RF w) := by
  refine z_call (d := d + 1) (M := z_m261) rfl rfl ?_
  refine z_evG 5 (y := z_ret (z_cl E (d + 1) 265 [.ref 1004] (161, (I, J, RF w))) 9 [some (.ref 1004)] [.int 8]) (fun _ => rfl) ?_
  refine z_evK (v := .int 0) (z' := 161) (σ' := (I, J, RF w)) (x_signs_coder E d I J w) ?_
  refine z_evG 2 (y := some (.inr (some (.int 8), 161, I, J, RF w))) (fun _ => rfl) ?_
  exact z_evR rfl
set_option maxRecDepth 20000 in
/-- jdk/internal/util/Preconditions.checkIndex -/
theorem x_pcheckIndex (E : zE) (d : Nat) (I : Nat → Nat → Int32) (J : Nat → Nat → Int64) (w : Nat) (i n : Nat) (hl_i : i < n) (hn : n < 2 ^ 31) : z_cl E (d + 1) 283 [.int (nI i), .int (nI n), .ref 1007] (161, I, J, RF w) = some (some (.int (nI i)), 161, I, J, RF w) := by
  refine z_call (d := d + 0) (M := z_m283) rfl rfl ?_
  refine z_evG 2 (y := if (nI i) < 0 then z_go 9 [some (.int (nI i)), some (.int (nI n)), some (.ref 1007)] [] 161 (I, J, RF w) else z_go 4 [some (.int (nI i)), some (.int (nI n)), some (.ref 1007)] [] 161 (I, J, RF w)) (fun _ => rfl) ?_
  refine z_evF ((mt (show _ ↔ i < 0 from z_ltN rfl rfl (by omega) (by omega)).mp (by omega))) ?_
  refine z_evL ?_
  refine z_evG 3 (y := if (nI i) < (nI n) then z_go 16 [some (.int (nI i)), some (.int (nI n)), some (.ref 1007)] [] 161 (I, J, RF w) else z_go 9 [some (.int (nI i)), some (.int (nI n)), some (.ref 1007)] [] 161 (I, J, RF w)) (fun _ => rfl) ?_
  refine z_evT (((show _ ↔ i < n from z_ltN rfl rfl (by omega) (by omega)).mpr (by omega))) ?_
  refine z_evL ?_
  refine z_evG 2 (y := some (.inr (some (.int (nI i)), 161, I, J, RF w))) (fun _ => rfl) ?_
  exact z_evR rfl
set_option maxRecDepth 20000 in
/-- java/lang/String.checkIndex -/
theorem x_checkIndex (E : zE) (d : Nat) (I : Nat → Nat → Int32) (J : Nat → Nat → Int64) (w : Nat) (i n : Nat) (hl_i : i < n) (hn : n < 2 ^ 31) : z_cl E (d + 2) 267 [.int (nI i), .int (nI n)] (161, I, J, RF w) = some (none, 161, I, J, RF w) := by
  refine z_call (d := d + 1) (M := z_m267) rfl rfl ?_
  refine z_evG 4 (y := z_ret (z_cl E (d + 1) 283 [.int (nI i), .int (nI n), .ref 1007] (161, (I, J, RF w))) 8 [some (.int (nI i)), some (.int (nI n))] []) (fun _ => rfl) ?_
  refine z_evK (v := .int (nI i)) (z' := 161) (σ' := (I, J, RF w)) (x_pcheckIndex E d I J w i n (by omega) hn) ?_
  refine z_evG 2 (y := some (.inr (none, 161, I, J, RF w))) (fun _ => rfl) ?_
  exact z_evR rfl
set_option maxRecDepth 20000 in
/-- java/lang/StringLatin1.charAt -/
theorem x_latin_charAt (E : zE) (d : Nat) (I : Nat → Nat → Int32) (J : Nat → Nat → Int64) (w : Nat) (i : Nat) (hl_i : i < 55) : z_cl E (d + 3) 269 [.ref 1003, .int (nI i)] (161, I, J, RF w) = some (some (.int (z_wordsL.getD i 0)), 161, I, J, RF w) := by
  refine z_call (d := d + 2) (M := z_m269) rfl rfl ?_
  refine z_evG 4 (y := z_ret (z_cl E (d + 2) 267 [.int (nI i), .int 55] (161, (I, J, RF w))) 6 [some (.ref 1003), some (.int (nI i))] []) (fun _ => rfl) ?_
  refine z_evV (z' := 161) (σ' := (I, J, RF w)) (x_checkIndex E d I J w i 55 (by omega) (by decide)) ?_
  refine z_evG 3 (y := z_ild (z_ba 161 (I, J, RF w) 1003) (nI i) fun vv => z_go 9 [some (.ref 1003), some (.int (nI i))] [.int vv] 161 (I, J, RF w)) (fun _ => rfl) ?_
  refine z_evBn (N := 55) (f := (fun j => z_wordsL.getD j 0)) (k := i) rfl rfl (by omega) ?_
  refine z_evL ?_
  refine z_evG 4 (y := z_ck (decide (narrow .char (.int (((((fun j => z_wordsL.getD j 0) i) &&& 255).toUInt32 % 65536).toInt32)) = .int (((((fun j => z_wordsL.getD j 0) i) &&& 255).toUInt32 % 65536).toInt32))) (some (.inr (some (.int (((((fun j => z_wordsL.getD j 0) i) &&& 255).toUInt32 % 65536).toInt32)), 161, I, J, RF w)))) (fun _ => rfl) ?_
  refine z_evC (show decide (narrow .char (.int (((z_wordsL.getD i 0 &&& 255).toUInt32 % 65536).toInt32)) = .int (((z_wordsL.getD i 0 &&& 255).toUInt32 % 65536).toInt32)) = true by rw [z_wch i (by omega)]; exact z_wcn i (by omega)) ?_
  exact z_evR (by rw [show (((fun j => z_wordsL.getD j 0) i &&& 255).toUInt32 % 65536).toInt32 = _ from z_wch i (by omega)])
set_option maxRecDepth 20000 in
/-- java/lang/String.charAt -/
theorem x_charAt (E : zE) (d : Nat) (I : Nat → Nat → Int32) (J : Nat → Nat → Int64) (w : Nat) (i : Nat) (hl_i : i < 55) : z_cl E (d + 4) 262 [.ref 1002, .int (nI i)] (161, I, J, RF w) = some (some (.int (z_wordsL.getD i 0)), 161, I, J, RF w) := by
  refine z_call (d := d + 3) (M := z_m262) rfl rfl ?_
  refine z_evG 2 (y := z_ret (z_cl E (d + 3) 266 [.ref 1002] (161, (I, J, RF w))) 4 [some (.ref 1002), some (.int (nI i))] []) (fun _ => rfl) ?_
  refine z_evK (v := .int 1) (z' := 161) (σ' := (I, J, RF w)) (x_words_isLatin1 E (d + 2) I J w) ?_
  refine z_evG 1 (y := if 1 = 0 then z_go 16 [some (.ref 1002), some (.int (nI i))] [] 161 (I, J, RF w) else z_go 7 [some (.ref 1002), some (.int (nI i))] [] 161 (I, J, RF w)) (fun _ => rfl) ?_
  refine z_evI (fun q => absurd q (by decide)) (fun _ => ?_)
  refine z_evL ?_
  refine z_evG 4 (y := z_ret (z_cl E (d + 3) 269 [.ref 1003, .int (nI i)] (161, (I, J, RF w))) 15 [some (.ref 1002), some (.int (nI i))] []) (fun _ => rfl) ?_
  refine z_evK (v := .int (z_wordsL.getD i 0)) (z' := 161) (σ' := (I, J, RF w)) (x_latin_charAt E d I J w i (by omega)) ?_
  refine z_evG 1 (y := z_ck (decide (narrow .char (.int (z_wordsL.getD i 0)) = .int (z_wordsL.getD i 0))) (some (.inr (some (.int (z_wordsL.getD i 0)), 161, I, J, RF w)))) (fun _ => rfl) ?_
  refine z_evC (z_wcn i (by omega)) ?_
  exact z_evR rfl
set_option maxRecDepth 20000 in
/-- java/lang/StringLatin1.canEncode -/
theorem x_canEncode (E : zE) (d : Nat) (I : Nat → Nat → Int32) (J : Nat → Nat → Int64) (w : Nat) (v : Nat) (hl_v : v < 256) : z_cl E (d + 1) 270 [.int (nI v)] (161, I, J, RF w) = some (some (.int 1), 161, I, J, RF w) := by
  refine z_call (d := d + 0) (M := z_m270) rfl rfl ?_
  refine z_evG 2 (y := if (nI v) < 0 then z_go 15 [some (.int (nI v))] [] 161 (I, J, RF w) else z_go 4 [some (.int (nI v))] [] 161 (I, J, RF w)) (fun _ => rfl) ?_
  refine z_evF ((mt (show _ ↔ v < 0 from z_ltN rfl rfl (by omega) (by omega)).mp (by omega))) ?_
  refine z_evL ?_
  refine z_evG 3 (y := if 255 < (nI v) then z_go 15 [some (.int (nI v))] [] 161 (I, J, RF w) else z_go 11 [some (.int (nI v))] [] 161 (I, J, RF w)) (fun _ => rfl) ?_
  refine z_evF ((mt (show _ ↔ 255 < v from z_ltN rfl rfl (by omega) (by omega)).mp (by omega))) ?_
  refine z_evL ?_
  refine z_evG 3 (y := some (.inr (some (.int 1), 161, I, J, RF w))) (fun _ => rfl) ?_
  exact z_evR rfl
set_option maxRecDepth 20000 in
/-- java/lang/StringLatin1.indexOfChar -/
theorem x_indexOfChar (E : zE) (d : Nat) (I : Nat → Nat → Int32) (J : Nat → Nat → Int64) (w : Nat) (v : Nat) (hl_v : v < 256) : z_cl E (d + 1) 272 [.ref 1005, .int (nI v), .int 0, .int 8] (161, I, J, RF w) = some (some (.int (z_enc (s_first (fun k => z_signsL.getD k 0 == (nI v).toInt8.toInt32) 8))), 161, I, J, RF w) := by
  refine z_call (d := d + 0) (M := z_m272) rfl rfl ?_
  refine z_evG 5 (y := z_go 7 [some (.ref 1005), some (.int (nI v)), some (.int 0), some (.int 8), some (.int ((nI v).toInt8.toInt32)), some (.int 0)] [] 161 (I, J, RF w)) (fun _ => rfl) ?_
  refine z_evL ?_
  refine z_loop (F := fun k => ([some (.ref 1005), some (.int (nI v)), some (.int 0), some (.int 8), some (.int ((nI v).toInt8.toInt32)), some (.int (nI k))], (I, J, RF w))) (P := fun k => s_first (fun k => z_signsL.getD k 0 == (nI v).toInt8.toInt32) k = none) 8 rfl (fun hP => ?_) (fun k hk hP next => ?_)
  · show z_Ev E d z_m272 7 [some (.ref 1005), some (.int (nI v)), some (.int 0), some (.int 8), some (.int ((nI v).toInt8.toInt32)), some (.int (nI 8))] [] 161 (I, J, RF w) _
    refine z_evG 3 (y := if (nI 8) < 8 then z_go 13 [some (.ref 1005), some (.int (nI v)), some (.int 0), some (.int 8), some (.int ((nI v).toInt8.toInt32)), some (.int (nI 8))] [] 161 (I, J, RF w) else z_go 31 [some (.ref 1005), some (.int (nI v)), some (.int 0), some (.int 8), some (.int ((nI v).toInt8.toInt32)), some (.int (nI 8))] [] 161 (I, J, RF w)) (fun _ => rfl) ?_
    refine z_evF (mt (show _ ↔ 8 < 8 from z_ltN rfl rfl (by omega) (by omega)).mp (by omega)) ?_
    refine z_evL ?_
    refine z_evG 2 (y := some (.inr (some (.int (-1)), 161, I, J, RF w))) (fun _ => rfl) ?_
    exact z_evR (by rw [hP]; rfl)
  · show z_Ev E d z_m272 7 [some (.ref 1005), some (.int (nI v)), some (.int 0), some (.int 8), some (.int ((nI v).toInt8.toInt32)), some (.int (nI k))] [] 161 (I, J, RF w) _
    have nx : (s_first (fun k => z_signsL.getD k 0 == (nI v).toInt8.toInt32) (k + 1) = none) → z_Ev E d z_m272 7 [some (.ref 1005), some (.int (nI v)), some (.int 0), some (.int 8), some (.int ((nI v).toInt8.toInt32)), some (.int (nI (k + 1)))] [] 161 (I, J, RF w) _ := next
    refine z_evG 3 (y := if (nI k) < 8 then z_go 13 [some (.ref 1005), some (.int (nI v)), some (.int 0), some (.int 8), some (.int ((nI v).toInt8.toInt32)), some (.int (nI k))] [] 161 (I, J, RF w) else z_go 31 [some (.ref 1005), some (.int (nI v)), some (.int 0), some (.int 8), some (.int ((nI v).toInt8.toInt32)), some (.int (nI k))] [] 161 (I, J, RF w)) (fun _ => rfl) ?_
    refine z_evT ((show _ ↔ k < 8 from z_ltN rfl rfl (by omega) (by omega)).mpr (by omega)) ?_
    refine z_evL ?_
    refine z_evG 3 (y := z_ild (z_ba 161 (I, J, RF w) 1005) (nI k) fun vv => z_go 17 [some (.ref 1005), some (.int (nI v)), some (.int 0), some (.int 8), some (.int ((nI v).toInt8.toInt32)), some (.int (nI k))] [.int vv] 161 (I, J, RF w)) (fun _ => rfl) ?_
    refine z_evBn (N := 8) (f := (fun j => z_signsL.getD j 0)) (k := k) rfl rfl (by omega) ?_
    refine z_evL ?_
    refine z_evG 2 (y := if ((fun j => z_signsL.getD j 0) k) = ((nI v).toInt8.toInt32) then z_go 22 [some (.ref 1005), some (.int (nI v)), some (.int 0), some (.int 8), some (.int ((nI v).toInt8.toInt32)), some (.int (nI k))] [] 161 (I, J, RF w) else z_go 25 [some (.ref 1005), some (.int (nI v)), some (.int 0), some (.int 8), some (.int ((nI v).toInt8.toInt32)), some (.int (nI k))] [] 161 (I, J, RF w)) (fun _ => rfl) ?_
    refine z_evI (fun h3 => ?_) (fun h3 => ?_)
    · refine z_evL ?_
      refine z_evG 2 (y := some (.inr (some (.int (nI k)), 161, I, J, RF w))) (fun _ => rfl) ?_
      exact z_evR (by rw [s_first_hit hk hP (beq_iff_eq.mpr h3)]; rfl)
    · refine z_evL ?_
      refine z_evG 2 (y := z_go 7 [some (.ref 1005), some (.int (nI v)), some (.int 0), some (.int 8), some (.int ((nI v).toInt8.toInt32)), some (.int ((nI k) + 1))] [] 161 (I, J, RF w)) (fun _ => rfl) ?_
      refine z_evL ?_
      rw [nI_1 k]
      exact nx (s_first_f hP (fun q => h3 (beq_iff_eq.mp q)))
set_option maxRecDepth 20000 in
/-- java/lang/StringLatin1.indexOf -/
theorem x_latin_indexOf (E : zE) (d : Nat) (I : Nat → Nat → Int32) (J : Nat → Nat → Int64) (w : Nat) (v : Nat) (hl_v : v < 256) : z_cl E (d + 2) 271 [.ref 1005, .int (nI v), .int 0, .int 8] (161, I, J, RF w) = some (some (.int (z_enc (s_first (fun k => z_signsL.getD k 0 == (nI v).toInt8.toInt32) 8))), 161, I, J, RF w) := by
  refine z_call (d := d + 1) (M := z_m271) rfl rfl ?_
  refine z_evG 2 (y := z_ret (z_cl E (d + 1) 270 [.int (nI v)] (161, (I, J, RF w))) 4 [some (.ref 1005), some (.int (nI v)), some (.int 0), some (.int 8)] []) (fun _ => rfl) ?_
  refine z_evK (v := .int 1) (z' := 161) (σ' := (I, J, RF w)) (x_canEncode E d I J w v (by omega)) ?_
  refine z_evG 1 (y := if 1 = 0 then z_go 7 [some (.ref 1005), some (.int (nI v)), some (.int 0), some (.int 8)] [] 161 (I, J, RF w) else z_go 9 [some (.ref 1005), some (.int (nI v)), some (.int 0), some (.int 8)] [] 161 (I, J, RF w)) (fun _ => rfl) ?_
  refine z_evI (fun q => absurd q (by decide)) (fun _ => ?_)
  refine z_evL ?_
  refine z_evG 12 (y := if 0 < 8 then z_go 29 [some (.ref 1005), some (.int (nI v)), some (.int 0), some (.int 8)] [] 161 (I, J, RF w) else z_go 27 [some (.ref 1005), some (.int (nI v)), some (.int 0), some (.int 8)] [] 161 (I, J, RF w)) (fun _ => rfl) ?_
  refine z_evI (fun _ => ?_) (fun q => absurd (by decide) q)
  refine z_evL ?_
  refine z_evG 5 (y := z_ret (z_cl E (d + 1) 272 [.ref 1005, .int (nI v), .int 0, .int 8] (161, (I, J, RF w))) 36 [some (.ref 1005), some (.int (nI v)), some (.int 0), some (.int 8)] []) (fun _ => rfl) ?_
  refine z_evK (v := .int (z_enc (s_first (fun k => z_signsL.getD k 0 == (nI v).toInt8.toInt32) 8))) (z' := 161) (σ' := (I, J, RF w)) (x_indexOfChar E d I J w v (by omega)) ?_
  refine z_evG 1 (y := some (.inr (some (.int (z_enc (s_first (fun k => z_signsL.getD k 0 == (nI v).toInt8.toInt32) 8))), 161, I, J, RF w))) (fun _ => rfl) ?_
  exact z_evR rfl
set_option maxRecDepth 20000 in
/-- java/lang/String.indexOf -/
theorem x_indexOf2 (E : zE) (d : Nat) (I : Nat → Nat → Int32) (J : Nat → Nat → Int64) (w : Nat) (v : Nat) (hl_v : v < 256) : z_cl E (d + 3) 264 [.ref 1004, .int (nI v), .int 0] (161, I, J, RF w) = some (some (.int (z_enc (s_first (fun k => z_signsL.getD k 0 == (nI v).toInt8.toInt32) 8))), 161, I, J, RF w) := by
  refine z_call (d := d + 2) (M := z_m264) rfl rfl ?_
  refine z_evG 2 (y := z_ret (z_cl E (d + 2) 266 [.ref 1004] (161, (I, J, RF w))) 4 [some (.ref 1004), some (.int (nI v)), some (.int 0)] []) (fun _ => rfl) ?_
  refine z_evK (v := .int 1) (z' := 161) (σ' := (I, J, RF w)) (x_signs_isLatin1 E (d + 1) I J w) ?_
  refine z_evG 1 (y := if 1 = 0 then z_go 23 [some (.ref 1004), some (.int (nI v)), some (.int 0)] [] 161 (I, J, RF w) else z_go 7 [some (.ref 1004), some (.int (nI v)), some (.int 0)] [] 161 (I, J, RF w)) (fun _ => rfl) ?_
  refine z_evI (fun q => absurd q (by decide)) (fun _ => ?_)
  refine z_evL ?_
  refine z_evG 6 (y := z_ret (z_cl E (d + 2) 261 [.ref 1004] (161, (I, J, RF w))) 17 [some (.ref 1004), some (.int (nI v)), some (.int 0)] [.int 0, .int (nI v), .ref 1005]) (fun _ => rfl) ?_
  refine z_evK (v := .int 8) (z' := 161) (σ' := (I, J, RF w)) (x_signs_length E d I J w) ?_
  refine z_evG 1 (y := z_ret (z_cl E (d + 2) 271 [.ref 1005, .int (nI v), .int 0, .int 8] (161, (I, J, RF w))) 20 [some (.ref 1004), some (.int (nI v)), some (.int 0)] []) (fun _ => rfl) ?_
  refine z_evK (v := .int (z_enc (s_first (fun k => z_signsL.getD k 0 == (nI v).toInt8.toInt32) 8))) (z' := 161) (σ' := (I, J, RF w)) (x_latin_indexOf E d I J w v (by omega)) ?_
  refine z_evG 2 (y := some (.inr (some (.int (z_enc (s_first (fun k => z_signsL.getD k 0 == (nI v).toInt8.toInt32) 8))), 161, I, J, RF w))) (fun _ => rfl) ?_
  exact z_evR rfl
set_option maxRecDepth 20000 in
/-- java/lang/String.indexOf -/
theorem x_indexOf (E : zE) (d : Nat) (I : Nat → Nat → Int32) (J : Nat → Nat → Int64) (w : Nat) (v : Nat) (hl_v : v < 256) : z_cl E (d + 4) 263 [.ref 1004, .int (nI v)] (161, I, J, RF w) = some (some (.int (z_enc (s_first (fun k => z_signsL.getD k 0 == (nI v).toInt8.toInt32) 8))), 161, I, J, RF w) := by
  refine z_call (d := d + 3) (M := z_m263) rfl rfl ?_
  refine z_evG 4 (y := z_ret (z_cl E (d + 3) 264 [.ref 1004, .int (nI v), .int 0] (161, (I, J, RF w))) 6 [some (.ref 1004), some (.int (nI v))] []) (fun _ => rfl) ?_
  refine z_evK (v := .int (z_enc (s_first (fun k => z_signsL.getD k 0 == (nI v).toInt8.toInt32) 8))) (z' := 161) (σ' := (I, J, RF w)) (x_indexOf2 E d I J w v (by omega)) ?_
  refine z_evG 1 (y := some (.inr (some (.int (z_enc (s_first (fun k => z_signsL.getD k 0 == (nI v).toInt8.toInt32) 8))), 161, I, J, RF w))) (fun _ => rfl) ?_
  exact z_evR rfl
