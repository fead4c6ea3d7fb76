theorem nb {r : Int32} (h : r = 0 ∨ r = 1) : narrow .boolean (.int r) = .int r := by rcases h with rfl | rfl <;> rfl
theorem pb0 {u : MS} : pb (0, u) := Or.inl rfl
theorem pb1 {u : MS} : pb (1, u) := Or.inr rfl
theorem pb_ite {c : Prop} [Decidable c] {x y : Int32 × MS} (hx : pb x) (hy : pb y) : pb (if c then x else y) := by split <;> assumption
theorem win_ok {a b : Int32} (h : ¬ f_within a.toInt64 0 b.toInt64 = 0) : 0 ≤ a.toInt ∧ a.toInt ≤ b.toInt := by
  unfold f_within at h
  split at h
  · exact absurd rfl h
  · rename_i h1
    split at h
    · exact absurd rfl h
    · rename_i h2
      rw [Int64.lt_iff_toInt_lt, Int32.toInt_toInt64] at h1 h2
      rw [Int32.toInt_toInt64] at h2
      have e1 : (0 : Int64).toInt = 0 := rfl
      rw [e1] at h1; omega
theorem win_ok3 {a : Int32} (h : ¬ f_within a.toInt64 0 3 = 0) : 0 ≤ a.toInt ∧ a.toInt ≤ 3 := by
  unfold f_within at h
  split at h
  · exact absurd rfl h
  · rename_i h1
    split at h
    · exact absurd rfl h
    · rename_i h2
      rw [Int64.lt_iff_toInt_lt, Int32.toInt_toInt64] at h1 h2
      have e1 : (0 : Int64).toInt = 0 := rfl
      have e2 : (3 : Int64).toInt = 3 := rfl
      rw [e1] at h1; rw [e2] at h2; omega
theorem isOne_or {c a b d e : Int32} (h : ¬ f_isOne c a b d e = 0) : c = a ∨ c = b ∨ c = d ∨ c = e := by
  by_cases h1 : c = a
  · exact Or.inl h1
  · by_cases h2 : c = b
    · exact Or.inr (Or.inl h2)
    · by_cases h3 : c = d
      · exact Or.inr (Or.inr (Or.inl h3))
      · by_cases h4 : c = e
        · exact Or.inr (Or.inr (Or.inr h4))
        · simp only [f_isOne, h1, h2, h3, h4, ↓reduceIte, not_true_eq_false, not_false_eq_true] at h
theorem cc1 {c : Int32} (h : ¬ f_isOne c 43 45 42 47 = 0) : cset c := by
  rcases isOne_or h with h | h | h | h <;> simp [cset, h]
theorem cc2 {c : Int32} (h : ¬ f_isOne c 37 118 126 107 = 0) : cset c := by
  rcases isOne_or h with h | h | h | h <;> simp [cset, h]
theorem cc3 {c : Int32} (h : c = 88) : cset c := by simp [cset, h]
theorem b_digitsL {f0 : Int32} : ∀ (fu : Nat) (v2 i1 g1 : Int32) (w1 : Int64) (a1 b1 k1 : Int32) (τ : MS), (F_digits_L47 f0 fu v2 i1 g1 w1 a1 b1 k1 τ).1 = 0 ∨ (F_digits_L47 f0 fu v2 i1 g1 w1 a1 b1 k1 τ).1 = 1 := by
  intro fu
  induction fu with
  | zero => intros; exact Or.inl rfl
  | succ fu ih =>
    intros
    simp only [F_digits_L47]
    show pb _
    repeat' first | with_reducible exact pb0 | with_reducible exact pb1 | with_reducible apply pb_ite | exact ih _ _ _ _ _ _ _ _
theorem b_brackets100 {f0 : Int32} : ∀ (fu : Nat) (v2 i1 n1 k1 : Int32) (τ : MS), (F_brackets_L100 f0 fu v2 i1 n1 k1 τ).1 = 0 ∨ (F_brackets_L100 f0 fu v2 i1 n1 k1 τ).1 = 1 := by
  intro fu
  induction fu with
  | zero => intros; exact Or.inl rfl
  | succ fu ih =>
    intros
    simp only [F_brackets_L100]
    show pb _
    repeat' first | with_reducible exact pb0 | with_reducible exact pb1 | with_reducible apply pb_ite | exact ih _ _ _ _ _
theorem b_brackets14 {f0 : Int32} : ∀ (fu : Nat) (v2 o1 i1 : Int32) (τ : MS), (F_brackets_L14 f0 fu v2 o1 i1 τ).1 = 0 ∨ (F_brackets_L14 f0 fu v2 o1 i1 τ).1 = 1 := by
  intro fu
  induction fu with
  | zero => intros; exact Or.inl rfl
  | succ fu ih =>
    intros
    simp only [F_brackets_L14]
    show pb _
    repeat' first | with_reducible exact pb0 | with_reducible exact pb1 | with_reducible apply pb_ite | exact ih _ _ _ _ | exact b_brackets100 _ _ _ _ _ _
theorem b_digits {σ u : MS} {r : Int32} {f0 : Int32} (h : F_digits σ f0 = (r, u)) : r = 0 ∨ r = 1 := by
  have h1 : pb (F_digits σ f0) := by
    unfold F_digits
    try dsimp only
    repeat' first | with_reducible exact pb0 | with_reducible exact pb1 | with_reducible apply pb_ite | exact b_digitsL _ _ _ _ _ _ _ _ _
  rw [h] at h1; exact h1
theorem b_brackets {σ u : MS} {r : Int32} {f0 : Int32} (h : F_brackets σ f0 = (r, u)) : r = 0 ∨ r = 1 := by
  have h1 : pb (F_brackets σ f0) := by
    unfold F_brackets
    try dsimp only
    repeat' first | with_reducible exact pb0 | with_reducible exact pb1 | with_reducible apply pb_ite | exact b_brackets14 _ _ _ _ _
  rw [h] at h1; exact h1
theorem b_calculates {σ u : MS} {r : Int32} {c0 : Int32} (h : F_calculates σ c0 = (r, u)) : r = 0 ∨ r = 1 := by
  have h1 : pb (F_calculates σ c0) := by
    unfold F_calculates
    try dsimp only
    repeat' first | with_reducible exact pb0 | with_reducible exact pb1 | with_reducible apply pb_ite
  rw [h] at h1; exact h1
theorem b_moves {σ u : MS} {r : Int32} {c0 : Int32} (h : F_moves σ c0 = (r, u)) : r = 0 ∨ r = 1 := by
  have h1 : pb (F_moves σ c0) := by
    unfold F_moves
    try dsimp only
    repeat' first | with_reducible exact pb0 | with_reducible exact pb1 | with_reducible apply pb_ite
  rw [h] at h1; exact h1
theorem b_stores {σ u : MS} {r : Int32} {c0 : Int32} {r0 : Int32} (h : F_stores σ c0 r0 = (r, u)) : r = 0 ∨ r = 1 := by
  have h1 : pb (F_stores σ c0 r0) := by
    unfold F_stores
    try dsimp only
    repeat' first | with_reducible exact pb0 | with_reducible exact pb1 | with_reducible apply pb_ite
  rw [h] at h1; exact h1
theorem b_tests {σ u : MS} {r : Int32} {c0 : Int32} {r0 : Int32} {i0 : Int32} (h : F_tests σ c0 r0 i0 = (r, u)) : r = 0 ∨ r = 1 := by
  have h1 : pb (F_tests σ c0 r0 i0) := by
    unfold F_tests
    try dsimp only
    repeat' first | with_reducible exact pb0 | with_reducible exact pb1 | with_reducible apply pb_ite
  rw [h] at h1; exact h1
theorem b_runs {σ u : MS} {r : Int32} {i0 : Int32} (h : F_runs σ i0 = (r, u)) : r = 0 ∨ r = 1 := by
  have h1 : pb (F_runs σ i0) := by
    unfold F_runs
    try dsimp only
    repeat' first | with_reducible exact pb0 | with_reducible exact pb1 | with_reducible apply pb_ite
  rw [h] at h1; exact h1
