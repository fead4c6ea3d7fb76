/-! what is at the top -/
theorem sbt_in {σ : XS} {c : Nat} {k : Int32} (h0 : 0 ≤ (σ.1 c).toInt) (hl : (σ.1 c).toInt ≤ 40) (k0 : 0 ≤ k.toInt) (k1 : k.toInt < (σ.1 c).toInt) : (Xsh_slotBelowTop σ c k).toInt = (σ.1 c).toInt - 1 - k.toInt := by
  have z0 : (0 : Int32).toInt = 0 := rfl
  unfold Xsh_slotBelowTop
  rw [if_neg (by rw [Int32.lt_iff_toInt_lt]; omega), if_pos (by rw [Int32.lt_iff_toInt_lt]; omega)]
  exact i_subE (i_subE rfl (show (1 : Int32).toInt = 1 from rfl) (by omega) (by omega)) rfl (by omega) (by omega)
theorem sbt_out {σ : XS} {c : Nat} {k : Int32} (h : ¬ (0 ≤ k.toInt ∧ k.toInt < (σ.1 c).toInt)) : Xsh_slotBelowTop σ c k = -1 := by
  have z0 : (0 : Int32).toInt = 0 := rfl
  unfold Xsh_slotBelowTop
  by_cases c1 : k < 0
  · rw [if_pos c1]
  · rw [if_neg c1, if_neg]
    rw [Int32.lt_iff_toInt_lt] at c1 ⊢
    omega
theorem has_yes {σ : XS} {c : Nat} {i : Int32} (hc : c ∈ shN) (h0 : 0 ≤ i.toInt) (h1 : i.toInt < (σ.1 c).toInt) (h2 : (σ.1 c).toInt ≤ xlen c) : Xsh_has σ c i = 1 := by
  obtain ⟨hl, hl1, hl2⟩ := xlen_of hc
  have z0 : (0 : Int32).toInt = 0 := rfl
  unfold Xsh_has
  rw [if_neg (by rw [Int32.lt_iff_toInt_lt]; omega), if_neg (by rw [Int32.le_iff_toInt_le]; omega), if_neg (by rw [Int32.le_iff_toInt_le]; omega)]
theorem has_no {σ : XS} {c : Nat} : Xsh_has σ c (-1) = 0 := by
  unfold Xsh_has; rw [if_pos (by decide)]
theorem slot_in {σ : XS} {c : Nat} {i : Int32} (hc : c ∈ shN) (h0 : 0 ≤ i.toInt) (h1 : i.toInt < (σ.1 c).toInt) (h2 : (σ.1 c).toInt ≤ xlen c) : Xsh_valueAt σ c i = σ.2.2.1 (c + 1) i.toInt.toNat ∧ Xsh_placesAt σ c i = σ.2.1 (c + 2) i.toInt.toNat ∧ Xsh_rowAt σ c i = σ.2.2.2.1 (c + 3) i.toInt.toNat ∧ Xsh_startAt σ c i = σ.2.1 (c + 4) i.toInt.toNat := by
  have hh := has_yes hc h0 h1 h2
  have hn : i.toNatClampNeg = i.toInt.toNat := (Int32.toNat_toInt i).symm
  unfold Xsh_valueAt Xsh_placesAt Xsh_rowAt Xsh_startAt
  rw [hh, hn]
  exact ⟨if_neg (by decide), if_neg (by decide), if_neg (by decide), if_neg (by decide)⟩
theorem top_in {σ : XS} {c : Nat} {k : Int32} (hc : c ∈ shN) (h2 : (σ.1 c).toInt ≤ xlen c) (k0 : 0 ≤ k.toInt) (k1 : k.toInt < (σ.1 c).toInt) : Xsh_valueAt σ c (Xsh_slotBelowTop σ c k) = σ.2.2.1 (c + 1) ((σ.1 c).toInt - 1 - k.toInt).toNat ∧ Xsh_placesAt σ c (Xsh_slotBelowTop σ c k) = σ.2.1 (c + 2) ((σ.1 c).toInt - 1 - k.toInt).toNat ∧ Xsh_rowAt σ c (Xsh_slotBelowTop σ c k) = σ.2.2.2.1 (c + 3) ((σ.1 c).toInt - 1 - k.toInt).toNat ∧ Xsh_startAt σ c (Xsh_slotBelowTop σ c k) = σ.2.1 (c + 4) ((σ.1 c).toInt - 1 - k.toInt).toNat := by
  obtain ⟨hl, hl1, hl2⟩ := xlen_of hc
  have e := sbt_in (σ := σ) (c := c) (k := k) (by omega) (by omega) k0 k1
  have := slot_in (σ := σ) (i := Xsh_slotBelowTop σ c k) hc (by omega) (by omega) h2
  rw [e] at this
  exact this
theorem top_out {σ : XS} {c : Nat} {k : Int32} (h : ¬ (0 ≤ k.toInt ∧ k.toInt < (σ.1 c).toInt)) : Xsh_valueAt σ c (Xsh_slotBelowTop σ c k) = 0 ∧ Xsh_placesAt σ c (Xsh_slotBelowTop σ c k) = -2 := by
  rw [sbt_out h]
  unfold Xsh_valueAt Xsh_placesAt
  rw [has_no]
  exact ⟨if_pos rfl, if_pos rfl⟩
theorem clamp_sub {d k : Int32} (h0 : 0 ≤ k.toInt) (h1 : k.toInt ≤ d.toInt) (h2 : d.toInt ≤ 100) : (d - k).toInt = d.toInt - k.toInt ∧ (d - k).toNatClampNeg = (d.toInt - k.toInt).toNat := by
  have e : (d - k).toInt = d.toInt - k.toInt := i_subE rfl rfl (by omega) (by omega)
  exact ⟨e, by rw [← Int32.toNat_toInt, e]⟩
/-- an item is a number, or a text -/
theorem itm_num {σ : XS} {c i : Nat} {μ : MS} {k : Nat} (h : itm σ c i μ k) : (σ.2.2.2.1 (c + 3) i = none ∧ pls (μ.2.2.1 3 k) ∧ fit (μ.2.2.2 2 k).toInt) ∨ (∃ n, σ.2.2.2.1 (c + 3) i = some n ∧ μ.2.2.1 3 k = -1) := by
  obtain ⟨h1, h2, h3⟩ := h
  rcases h3 with ⟨a, b, c9⟩ | ⟨n, a, b, _⟩
  · exact Or.inl ⟨a, by rw [← h2]; exact b, by rw [← h1]; exact c9⟩
  · exact Or.inr ⟨n, a, by rw [← h2]; exact b⟩
/-- the codes of the exceptions -/
def xcd (E : String) : Int32 := if E = "java/lang/IllegalArgumentException" then 1 else if E = "java/lang/IllegalStateException" then 2 else if E = "java/lang/IndexOutOfBoundsException" then 3 else if E = "java/lang/ArithmeticException" then 4 else 5
theorem xcd_1 : xcd "java/lang/IllegalArgumentException" = 1 := by decide
theorem xcd_2 : xcd "java/lang/IllegalStateException" = 2 := by decide
theorem xcd_3 : xcd "java/lang/IndexOutOfBoundsException" = 3 := by decide
theorem xcd_4 : xcd "java/lang/ArithmeticException" = 4 := by decide
theorem xcd_5 : xcd "java/lang/UnsupportedOperationException" = 5 := by decide
theorem ST.depth {σ : XS} {μ : MS} (h : ST σ μ) : σ.1 6 = μ.1 5 ∧ 0 ≤ (μ.1 5).toInt ∧ (μ.1 5).toInt ≤ 40 := ⟨h.1.1, h.1.2.1, h.1.2.2.1⟩
theorem need_yes {σ : XS} {μ : MS} {n : Int32} (h : ST σ μ) (hn : n.toInt ≤ (μ.1 5).toInt) : Xdesk_needItems σ n = .inr σ ∧ F_have μ n = (1, μ) := by
  obtain ⟨h1, h2, h3⟩ := h.depth
  have c : n ≤ μ.1 5 := by rw [Int32.le_iff_toInt_le]; exact hn
  unfold Xdesk_needItems F_have
  rw [h1]
  exact ⟨if_pos c, if_pos c⟩
theorem need_no {σ : XS} {μ : MS} {n : Int32} (h : ST σ μ) (hn : ¬ n.toInt ≤ (μ.1 5).toInt) : Xdesk_needItems σ n = .inl ("java/lang/IllegalStateException", σ) ∧ F_have μ n = (0, si μ 16 2) := by
  obtain ⟨h1, h2, h3⟩ := h.depth
  have c : ¬ n ≤ μ.1 5 := by rw [Int32.le_iff_toInt_le]; exact hn
  unfold Xdesk_needItems F_have
  rw [h1]
  exact ⟨if_neg c, if_neg c⟩
/-- the k-th item below the top, in both -/
theorem top_itm {σ : XS} {μ : MS} (h : ST σ μ) {k : Int32} (k0 : 0 ≤ k.toInt) (k1 : k.toInt < (μ.1 5).toInt) : itm σ 6 ((μ.1 5).toInt - 1 - k.toInt).toNat μ ((μ.1 5).toInt - 1 - k.toInt).toNat := by
  have := h.1.2.2.2 ((μ.1 5).toInt - 1 - k.toInt).toNat (by omega)
  rw [Nat.zero_add] at this
  exact this
theorem topX {σ : XS} {μ : MS} (h : ST σ μ) {k : Int32} (k0 : 0 ≤ k.toInt) (k1 : k.toInt < (μ.1 5).toInt) : Xsh_valueAt σ 6 (Xsh_slotBelowTop σ 6 k) = μ.2.2.2 2 ((μ.1 5).toInt - 1 - k.toInt).toNat ∧ Xsh_placesAt σ 6 (Xsh_slotBelowTop σ 6 k) = μ.2.2.1 3 ((μ.1 5).toInt - 1 - k.toInt).toNat ∧ Xsh_rowAt σ 6 (Xsh_slotBelowTop σ 6 k) = σ.2.2.2.1 9 ((μ.1 5).toInt - 1 - k.toInt).toNat ∧ Xsh_startAt σ 6 (Xsh_slotBelowTop σ 6 k) = σ.2.1 10 ((μ.1 5).toInt - 1 - k.toInt).toNat := by
  obtain ⟨h1, h2, h3⟩ := h.depth
  have hi := top_itm h k0 k1
  have ht := top_in (σ := σ) (c := 6) (k := k) (by decide) (by rw [h1]; exact h3) k0 (by rw [h1]; exact k1)
  rw [h1] at ht
  obtain ⟨t1, t2, t3, t4⟩ := ht
  exact ⟨t1.trans hi.1, t2.trans hi.2.1, t3, t4⟩
theorem neg1_lt : ¬ (0 : Int32) ≤ -1 := by decide
theorem pls_le {p : Int32} (h : pls p) : (0 : Int32) ≤ p := by rw [Int32.le_iff_toInt_le]; exact h.1
/-- one number is wanted -/
theorem num1 {σ : XS} {μ : MS} (h : ST σ μ) :
    (¬ 1 ≤ (μ.1 5).toInt ∧ Xdesk_needNumbers σ 1 = .inl ("java/lang/IllegalStateException", σ) ∧ F_numbers μ 1 = (0, si μ 16 2)) ∨
    (1 ≤ (μ.1 5).toInt ∧ Xdesk_needNumbers σ 1 = .inl ("java/lang/IndexOutOfBoundsException", σ) ∧ F_numbers μ 1 = (0, si μ 16 3)) ∨
    (1 ≤ (μ.1 5).toInt ∧ Xdesk_needNumbers σ 1 = .inr σ ∧ F_numbers μ 1 = (1, μ) ∧ σ.2.2.2.1 9 ((μ.1 5).toInt - 1).toNat = none ∧ pls (μ.2.2.1 3 ((μ.1 5).toInt - 1).toNat) ∧ fit (μ.2.2.2 2 ((μ.1 5).toInt - 1).toNat).toInt) := by
  obtain ⟨h1, h2, h3⟩ := h.depth
  have z0 : (0 : Int32).toInt = 0 := rfl
  have z1 : (1 : Int32).toInt = 1 := rfl
  by_cases c : 1 ≤ (μ.1 5).toInt
  · obtain ⟨x1, m1⟩ := need_yes (n := 1) h (by rw [z1]; exact c)
    have hi := top_itm (k := 0) h (by decide) (by rw [z0]; omega)
    have hx := topX (k := 0) h (by decide) (by rw [z0]; omega)
    rw [z0, Int.sub_zero] at hi hx
    obtain ⟨-, e2⟩ := clamp_sub (d := μ.1 5) (k := 1) (by decide) (by rw [z1]; exact c) (by omega)
    rw [z1] at e2
    have hX : Xdesk_needNumbers σ 1 = Xdesk_needNumbers_L7 1 3 0 σ := by unfold Xdesk_needNumbers; simp only [x1]
    have hM : F_numbers μ 1 = F_numbers_L12 1 3 1 μ := by unfold F_numbers; simp only [m1, show ¬ (1 : Int32) = 0 by decide, ↓reduceIte]
    rcases itm_num hi with ⟨a, b, d⟩ | ⟨n, a, b⟩
    · refine Or.inr (Or.inr ⟨c, ?_, ?_, a, b, d⟩)
      · rw [hX]
        simp only [Xdesk_needNumbers_L7, hx.2.2.1, a, show ¬ (1 : Int32) ≤ 0 by decide, show (1 : Int32) ≤ 0 + 1 by decide, ↓reduceIte]
      · rw [hM]
        simp only [F_numbers_L12, e2, pls_le b, show ¬ (1 : Int32) < 1 by decide, show (1 : Int32) < 1 + 1 by decide, ↓reduceIte]
    · refine Or.inr (Or.inl ⟨c, ?_, ?_⟩)
      · rw [hX]
        simp only [Xdesk_needNumbers_L7, hx.2.2.1, a, show ¬ (1 : Int32) ≤ 0 by decide, ↓reduceIte]
      · rw [hM]
        simp only [F_numbers_L12, e2, b, neg1_lt, show ¬ (1 : Int32) < 1 by decide, ↓reduceIte]
  · obtain ⟨x1, m1⟩ := need_no (n := 1) h (by rw [z1]; exact c)
    refine Or.inl ⟨c, ?_, ?_⟩
    · unfold Xdesk_needNumbers; simp only [x1]
    · unfold F_numbers; simp only [m1, ↓reduceIte]
/-- two numbers are wanted -/
theorem num2 {σ : XS} {μ : MS} (h : ST σ μ) :
    (Xdesk_needNumbers σ 2 = .inl ("java/lang/IllegalStateException", σ) ∧ F_numbers μ 2 = (0, si μ 16 2)) ∨
    (Xdesk_needNumbers σ 2 = .inl ("java/lang/IndexOutOfBoundsException", σ) ∧ F_numbers μ 2 = (0, si μ 16 3)) ∨
    (2 ≤ (μ.1 5).toInt ∧ Xdesk_needNumbers σ 2 = .inr σ ∧ F_numbers μ 2 = (1, μ) ∧ pls (μ.2.2.1 3 ((μ.1 5).toInt - 1).toNat) ∧ fit (μ.2.2.2 2 ((μ.1 5).toInt - 1).toNat).toInt ∧ pls (μ.2.2.1 3 ((μ.1 5).toInt - 2).toNat) ∧ fit (μ.2.2.2 2 ((μ.1 5).toInt - 2).toNat).toInt) := by
  obtain ⟨h1, h2, h3⟩ := h.depth
  have z0 : (0 : Int32).toInt = 0 := rfl
  have z1 : (1 : Int32).toInt = 1 := rfl
  have z2 : (2 : Int32).toInt = 2 := rfl
  have z11 : (0 + 1 : Int32) = 1 := by decide
  have z12 : (1 + 1 : Int32) = 2 := by decide
  by_cases c : 2 ≤ (μ.1 5).toInt
  · obtain ⟨x1, m1⟩ := need_yes (n := 2) h (by rw [z2]; exact c)
    have hi := top_itm (k := 0) h (by decide) (by rw [z0]; omega)
    have hx := topX (k := 0) h (by decide) (by rw [z0]; omega)
    have hi1 := top_itm (k := 1) h (by decide) (by rw [z1]; omega)
    have hx1 := topX (k := 1) h (by decide) (by rw [z1]; omega)
    rw [z0, Int.sub_zero] at hi hx
    rw [z1, show (μ.1 5).toInt - 1 - 1 = (μ.1 5).toInt - 2 by omega] at hi1 hx1
    obtain ⟨-, e2⟩ := clamp_sub (d := μ.1 5) (k := 1) (by decide) (by rw [z1]; omega) (by omega)
    obtain ⟨-, e3⟩ := clamp_sub (d := μ.1 5) (k := 2) (by decide) (by rw [z2]; exact c) (by omega)
    rw [z1] at e2; rw [z2] at e3
    have hX : Xdesk_needNumbers σ 2 = Xdesk_needNumbers_L7 2 3 0 σ := by unfold Xdesk_needNumbers; simp only [x1]
    have hM : F_numbers μ 2 = F_numbers_L12 2 3 1 μ := by unfold F_numbers; simp only [m1, show ¬ (1 : Int32) = 0 by decide, ↓reduceIte]
    rcases itm_num hi with ⟨a, b, d⟩ | ⟨n, a, b⟩
    · rcases itm_num hi1 with ⟨a1, b1, d1⟩ | ⟨n1, a1, b1⟩
      · refine Or.inr (Or.inr ⟨c, ?_, ?_, b, d, b1, d1⟩)
        · rw [hX]
          simp only [Xdesk_needNumbers_L7, hx.2.2.1, a, z11, hx1.2.2.1, a1, z12, show ¬ (2 : Int32) ≤ 0 by decide, show ¬ (2 : Int32) ≤ 1 by decide, show (2 : Int32) ≤ 2 by decide, ↓reduceIte]
        · rw [hM]
          simp only [F_numbers_L12, e2, pls_le b, z12, e3, pls_le b1, show ¬ (2 : Int32) < 1 by decide, show ¬ (2 : Int32) < 2 by decide, show (2 : Int32) < 2 + 1 by decide, ↓reduceIte]
      · refine Or.inr (Or.inl ⟨?_, ?_⟩)
        · rw [hX]
          simp only [Xdesk_needNumbers_L7, hx.2.2.1, a, z11, hx1.2.2.1, a1, show ¬ (2 : Int32) ≤ 0 by decide, show ¬ (2 : Int32) ≤ 1 by decide, ↓reduceIte]
        · rw [hM]
          simp only [F_numbers_L12, e2, pls_le b, z12, e3, b1, neg1_lt, show ¬ (2 : Int32) < 1 by decide, show ¬ (2 : Int32) < 2 by decide, ↓reduceIte]
    · refine Or.inr (Or.inl ⟨?_, ?_⟩)
      · rw [hX]
        simp only [Xdesk_needNumbers_L7, hx.2.2.1, a, show ¬ (2 : Int32) ≤ 0 by decide, ↓reduceIte]
      · rw [hM]
        simp only [F_numbers_L12, e2, b, neg1_lt, show ¬ (2 : Int32) < 1 by decide, ↓reduceIte]
  · obtain ⟨x1, m1⟩ := need_no (n := 2) h (by rw [z2]; exact c)
    refine Or.inl ⟨?_, ?_⟩
    · unfold Xdesk_needNumbers; simp only [x1]
    · unfold F_numbers; simp only [m1, ↓reduceIte]
