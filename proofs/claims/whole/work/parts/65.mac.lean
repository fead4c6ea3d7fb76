theorem isNothing_eq {c : Int32} : f_isNothing c = 0 ↔ ¬ blk c := by
  unfold f_isNothing blk
  by_cases h1 : c = 32
  · rw [if_pos h1]; exact ⟨fun h => absurd h (by decide), fun h => absurd (Or.inl h1) h⟩
  · rw [if_neg h1]
    by_cases h2 : c = 10
    · rw [if_pos h2]; exact ⟨fun h => absurd h (by decide), fun h => absurd (Or.inr h2) h⟩
    · rw [if_neg h2]; exact ⟨fun _ h => h.elim h1 h2, fun _ => rfl⟩
theorem sd_ar {S i k i2 k2 : Int} {n : Nat} (hsz : (S - i).toNat = n + 1) (hk0 : 0 ≤ k) (hk : k + ((n + 1 : Nat) : Int) ≤ 160) (ei : i2 = i + 1) (ek : k2 = k + 1) : (S - i2).toNat = n ∧ 0 ≤ k2 ∧ k2 + n ≤ 160 ∧ i < S := by
  refine ⟨by omega, by omega, by omega, by omega⟩
/-- blanks skipped, and whether a text is done -/
theorem skip_done {μ : MS} {x0 v2 : Int32} (hv2 : v2 = μ.1 11 - 1) : ∀ (n f f' : Nat) (τ : XS) (i1 k : Int32), NX τ μ i1.toInt → rok τ → ((μ.2.2.1 9 ((μ.1 11).toInt - 1).toNat).toInt - i1.toInt).toNat = n → n < f → n < f' → 0 ≤ k.toInt → k.toInt + n ≤ 160 → ∃ i' : Int, i1.toInt ≤ i' ∧ i' ≤ (μ.2.2.1 9 ((μ.1 11).toInt - 1).toNat).toInt ∧ NX (Xnest_skipBlanks_L2 f k τ) μ i' ∧ kp τ (Xnest_skipBlanks_L2 f k τ) ∧ (∀ j : Nat, i1.toInt ≤ j → (j : Int) < i' → blk (μ.2.2.1 8 (160 * ((μ.1 11).toInt - 1).toNat + j))) ∧ (i' < (μ.2.2.1 9 ((μ.1 11).toInt - 1).toNat).toInt → ¬ blk (μ.2.2.1 8 (160 * ((μ.1 11).toInt - 1).toNat + i'.toNat))) ∧ F_isDone_L9 x0 f' v2 i1 μ = if i' = (μ.2.2.1 9 ((μ.1 11).toInt - 1).toNat).toInt then 1 else 0 := by
  intro n
  have z160 : (160 : Int32).toInt = 160 := rfl
  have z1 : (1 : Int32).toInt = 1 := rfl
  induction n with
  | zero =>
    intro f f' τ i1 k hn hr hsz hf hf' hk0 hk
    obtain ⟨f, rfl⟩ : ∃ x, f = x + 1 := ⟨f - 1, by omega⟩
    obtain ⟨f', rfl⟩ : ∃ x, f' = x + 1 := ⟨f' - 1, by omega⟩
    obtain ⟨-, hl2⟩ := look_eq hr hn
    obtain ⟨-, h1, -, nn, st, ha⟩ := id hn
    have a7 := ha.2.2.2.2.2.2.1
    have hl0 := hl2 (by omega)
    have hv2N : v2.toNatClampNeg = ((μ.1 11).toInt - 1).toNat := by rw [hv2]; exact (ix_lv (i := 0) hn.2.1 hn.1.2.2 (by decide)).1
    have e : Xnest_skipBlanks_L2 (f + 1) k τ = τ := by
      rw [Xnest_skipBlanks_L2]
      simp only [hl0, show ¬ (0 : Int32) = 32 by decide, show ¬ (0 : Int32) = 10 by decide, ↓reduceIte, ite_self]
    rw [e]
    refine ⟨i1.toInt, Int.le_refl _, a7, hn, kp.rf, fun j h1 h2 => by omega, fun h => by omega, ?_⟩
    rw [F_isDone_L9, hv2N, if_pos (by rw [Int32.le_iff_toInt_le]; omega), if_pos (by omega)]
  | succ n ih =>
    intro f f' τ i1 k hn hr hsz hf hf' hk0 hk
    obtain ⟨f, rfl⟩ : ∃ x, f = x + 1 := ⟨f - 1, by omega⟩
    obtain ⟨f', rfl⟩ : ∃ x, f' = x + 1 := ⟨f' - 1, by omega⟩
    obtain ⟨hl1, -⟩ := look_eq hr hn
    obtain ⟨-, h1, -, nn, st, ha⟩ := id hn
    obtain ⟨-, -, -, -, -, a6, a7, a8, -, -⟩ := ha
    obtain ⟨hl3, -, -⟩ := hl1 (by omega)
    have hv2N : v2.toNatClampNeg = ((μ.1 11).toInt - 1).toNat := by rw [hv2]; exact (ix_lv (i := 0) hn.2.1 hn.1.2.2 (by decide)).1
    have hix : ((160 * v2) + i1).toNatClampNeg = 160 * ((μ.1 11).toInt - 1).toNat + i1.toInt.toNat := by rw [hv2]; exact (ix_lv (i := i1) hn.2.1 hn.1.2.2 (by omega)).2
    have hkn : ¬ (160 : Int32) ≤ k := by rw [Int32.le_iff_toInt_le]; omega
    have hsi : ¬ μ.2.2.1 9 v2.toNatClampNeg ≤ i1 := by rw [hv2N, Int32.le_iff_toInt_le]; omega
    have ek : (k + 1).toInt = k.toInt + 1 := i_addE rfl z1 (by omega) (by omega)
    have ei : (i1 + 1).toInt = i1.toInt + 1 := i_addE rfl z1 (by omega) (by omega)
    obtain ⟨q1, q2, q3, q4⟩ := sd_ar hsz hk0 hk ei ek
    by_cases hb : blk (Xnest_look τ)
    · have hnx := pass_NX hn q4
      rw [← ei] at hnx
      have hkp := pass_kp (σ := τ)
      obtain ⟨i', b1, b2, b3, b4, b5, b6, b7⟩ := ih f f' (Xnest_pass τ) (i1 + 1) (k + 1) hnx (rok_rs hkp.1 hr) q1 (Nat.lt_of_succ_lt_succ hf) (Nat.lt_of_succ_lt_succ hf') q2 q3
      have e : Xnest_skipBlanks_L2 (f + 1) k τ = Xnest_skipBlanks_L2 f (k + 1) (Xnest_pass τ) := by
        rw [Xnest_skipBlanks_L2]
        rcases hb with hb | hb
        · simp only [hkn, hb, ↓reduceIte]
        · simp only [hkn, hb, show ¬ (10 : Int32) = 32 by decide, ↓reduceIte]
      have hbM : ¬ f_isNothing (μ.2.2.1 8 (160 * ((μ.1 11).toInt - 1).toNat + i1.toInt.toNat)) = 0 := fun h => isNothing_eq.mp h (by rw [← hl3]; exact hb)
      have eM : F_isDone_L9 x0 (f' + 1) v2 i1 μ = F_isDone_L9 x0 f' v2 (i1 + 1) μ := by
        rw [F_isDone_L9]
        simp only [hsi, hix, hbM, ↓reduceIte]
      rw [e, eM]
      refine ⟨i', by omega, b2, b3, hkp.tr b4, fun j h1 h2 => ?_, b6, b7⟩
      by_cases hj : (j : Int) = i1.toInt
      · have : j = i1.toInt.toNat := by omega
        subst this
        rw [← hl3]; exact hb
      · exact b5 j (by omega) h2
    · have e : Xnest_skipBlanks_L2 (f + 1) k τ = τ := by
        have n1 : ¬ Xnest_look τ = 32 := fun h => hb (Or.inl h)
        have n2 : ¬ Xnest_look τ = 10 := fun h => hb (Or.inr h)
        rw [Xnest_skipBlanks_L2]
        simp only [hkn, n1, n2, ↓reduceIte]
      have hbM : f_isNothing (μ.2.2.1 8 (160 * ((μ.1 11).toInt - 1).toNat + i1.toInt.toNat)) = 0 := isNothing_eq.mpr (by rw [← hl3]; exact hb)
      have eM : F_isDone_L9 x0 (f' + 1) v2 i1 μ = 0 := by
        rw [F_isDone_L9]
        simp only [hsi, hix, hbM, ↓reduceIte]
      rw [e, eM]
      exact ⟨i1.toInt, Int.le_refl _, a7, hn, kp.rf, fun j h1 h2 => by omega, fun _ => by rw [← hl3]; exact hb, by rw [if_neg (by omega)]⟩
/-- the reference copies a text into the level behind the last -/
theorem L58 {s0 x0 : Int32} {L : Int32} {sz : Int32} (hs : 0 ≤ s0.toInt ∧ s0.toInt ≤ 81) (hL : 0 ≤ L.toInt ∧ L.toInt ≤ 11) (hz : 0 ≤ sz.toInt ∧ sz.toInt ≤ 160) : ∀ (m fu : Nat) (k : Int32) (τ : MS), τ.1 11 = L → τ.2.2.1 9 L.toInt.toNat = sz → 0 ≤ k.toInt → k.toInt ≤ sz.toInt → (sz.toInt - k.toInt).toNat = m → m < fu → ∃ υ : MS, F_begin_L58 s0 x0 fu k τ = si υ 11 (L + 1) ∧ υ.1 = τ.1 ∧ υ.2.2.2 = τ.2.2.2 ∧ (∀ q, q ≠ 8 → υ.2.2.1 q = τ.2.2.1 q) ∧ (∀ j : Nat, k.toInt ≤ j → (j : Int) < sz.toInt → υ.2.2.1 8 (160 * L.toInt.toNat + j) = τ.2.2.1 4 (160 * s0.toInt.toNat + j)) ∧ (∀ i : Nat, (i < 160 * L.toInt.toNat ∨ (i : Int) < 160 * L.toInt + k.toInt) → υ.2.2.1 8 i = τ.2.2.1 8 i) := by
  intro m
  have z1 : (1 : Int32).toInt = 1 := rfl
  have hLn : L.toNatClampNeg = L.toInt.toNat := (Int32.toNat_toInt L).symm
  induction m with
  | zero =>
    intro fu k τ h11 h9 h0 hk hm hfu
    obtain ⟨g, rfl⟩ : ∃ g, fu = g + 1 := ⟨fu - 1, by omega⟩
    have c : τ.2.2.1 9 (τ.1 11).toNatClampNeg ≤ k := by rw [h11, hLn, h9, Int32.le_iff_toInt_le]; omega
    exact ⟨τ, by rw [F_begin_L58, if_pos c, h11], rfl, rfl, fun _ _ => rfl, fun j h1 h2 => by omega, fun _ _ => rfl⟩
  | succ m ih =>
    intro fu k τ h11 h9 h0 hk hm hfu
    obtain ⟨g, rfl⟩ : ∃ g, fu = g + 1 := ⟨fu - 1, by omega⟩
    have c : ¬ τ.2.2.1 9 (τ.1 11).toNatClampNeg ≤ k := by rw [h11, hLn, h9, Int32.le_iff_toInt_le]; omega
    have ek : (k + 1).toInt = k.toInt + 1 := i_addE rfl z1 (by omega) (by omega)
    have x1 := ix160 (t := L) (k := k) (by omega) (by omega)
    have x2 := ix160 (t := s0) (k := k) hs (by omega)
    obtain ⟨υ, u1, u2, u3, u4, u5, u6⟩ := ih g (k + 1) (sa τ 8 (160 * L.toInt.toNat + k.toInt.toNat) (τ.2.2.1 4 (160 * s0.toInt.toNat + k.toInt.toNat))) h11 (by simp only [sa, ↓reduceIte, show ¬ (9 = 8) by decide]; exact h9) (by omega) (by omega) (by omega) (by omega)
    refine ⟨υ, ?_, u2, u3, fun q hq => by rw [u4 q hq]; simp [sa, hq], fun j h1 h2 => ?_, fun i hi => ?_⟩
    · rw [F_begin_L58, if_neg c, h11, x1, x2]
      exact u1
    · by_cases hj : (j : Int) = k.toInt
      · rw [u6 _ (by omega)]
        have : j = k.toInt.toNat := by omega
        subst this
        simp only [sa, upd, ↓reduceIte]
      · rw [u5 j (by omega) h2]
        simp only [sa, ↓reduceIte, show ¬ (4 = 8) by decide]
    · rw [u6 i (by omega)]
      simp only [sa, ↓reduceIte, upd]
      rw [if_neg (by omega)]
