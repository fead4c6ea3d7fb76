theorem DM_eq {μ : MS} {v2 i1 g : Int32} {w : Int64} {a b : Int32} : (if a < 1 then ((0, (si μ 16 1))) else if 18 < a then ((0, (si μ 16 1))) else if b ≤ 9 then (let q_166 := F_room μ; if q_166.1 = 0 then ((0, q_166.2)) else if g = 0 then (if 0 ≤ b then ((1, (sa (si (sa (sb (si μ 5 ((μ.1 5) - 0)) 2 ((μ.1 5) - 0).toNatClampNeg w) 3 ((μ.1 5) - 0).toNatClampNeg b) 5 (((μ.1 5) - 0) + 1)) 10 v2.toNatClampNeg i1))) else (1, (sa (si (sa (sb (si μ 5 ((μ.1 5) - 0)) 2 ((μ.1 5) - 0).toNatClampNeg w) 3 ((μ.1 5) - 0).toNatClampNeg 0) 5 (((μ.1 5) - 0) + 1)) 10 v2.toNatClampNeg i1))) else if 0 ≤ b then ((1, (sa (si (sa (sb (si μ 5 ((μ.1 5) - 0)) 2 ((μ.1 5) - 0).toNatClampNeg (-w)) 3 ((μ.1 5) - 0).toNatClampNeg b) 5 (((μ.1 5) - 0) + 1)) 10 v2.toNatClampNeg i1))) else (1, (sa (si (sa (sb (si μ 5 ((μ.1 5) - 0)) 2 ((μ.1 5) - 0).toNatClampNeg (-w)) 3 ((μ.1 5) - 0).toNatClampNeg 0) 5 (((μ.1 5) - 0) + 1)) 10 v2.toNatClampNeg i1))) else (0, (si μ 16 1)) : Int32 × MS) = DM μ v2 i1 g w a b := by
  unfold DM
  by_cases hg : g = 0
  · by_cases hb : (0 : Int32) ≤ b
    · simp only [hg, hb, ↓reduceIte]
    · simp only [hg, hb, ↓reduceIte]
  · by_cases hb : (0 : Int32) ≤ b
    · simp only [hg, hb, ↓reduceIte]
    · simp only [hg, hb, ↓reduceIte]
theorem DM_eq2 {μ : MS} {v2 i1 g : Int32} {w : Int64} {a b : Int32} (hb : (0 : Int32) ≤ b) : (if a < 1 then ((0, (si μ 16 1))) else if 18 < a then ((0, (si μ 16 1))) else if b ≤ 9 then (let q_166 := F_room μ; if q_166.1 = 0 then ((0, q_166.2)) else if g = 0 then ((1, (sa (si (sa (sb (si μ 5 ((μ.1 5) - 0)) 2 ((μ.1 5) - 0).toNatClampNeg w) 3 ((μ.1 5) - 0).toNatClampNeg b) 5 (((μ.1 5) - 0) + 1)) 10 v2.toNatClampNeg i1))) else (1, (sa (si (sa (sb (si μ 5 ((μ.1 5) - 0)) 2 ((μ.1 5) - 0).toNatClampNeg (-w)) 3 ((μ.1 5) - 0).toNatClampNeg b) 5 (((μ.1 5) - 0) + 1)) 10 v2.toNatClampNeg i1))) else (0, (si μ 16 1)) : Int32 × MS) = DM μ v2 i1 g w a b := by
  unfold DM
  by_cases hg : g = 0
  · simp only [hg, hb, ↓reduceIte]
  · simp only [hg, hb, ↓reduceIte]
theorem pw_le {a : Int32} (h0 : 0 ≤ a.toInt) (h1 : a.toInt ≤ 18) : 10 ^ (min a.toInt.toNat 18) ≤ 1000000000000000000 := by
  have : 10 ^ (min a.toInt.toNat 18) ≤ 10 ^ 18 := Nat.pow_le_pow_right (by decide) (Nat.min_le_right _ _)
  exact this
set_option maxHeartbeats 2000000 in
/-- the digits, in both -/
theorem dig_rel {μ : MS} {f0 v2 g : Int32} (h16 : μ.1 16 = 0) (hv2 : v2 = μ.1 11 - 1) : ∀ (n f f' : Nat) (τ : XS) (i1 : Int32) (w : Int64) (a b p q k : Int32), NX τ μ i1.toInt → ST τ μ → rok τ → xWF τ → ((μ.2.2.1 9 ((μ.1 11).toInt - 1).toNat).toInt - i1.toInt).toNat = n → n < f → n < f' → 0 ≤ k.toInt → k.toInt + n ≤ 160 → (μ.2.2.1 10 ((μ.1 11).toInt - 1).toNat).toInt ≤ i1.toInt → 0 ≤ a.toInt → a.toInt ≤ k.toInt → ((b = -1 ∧ p = 0 ∧ q = 0) ∨ (0 ≤ b.toInt ∧ b.toInt ≤ k.toInt ∧ p = b ∧ q = 1)) → 0 ≤ w.toInt → w.toInt < (10 ^ (min a.toInt.toNat 18) : Nat) → dres τ μ (Xdesk_putWrittenNumber_L43 f g w a p q k τ) (F_digits_L47 f0 f' v2 i1 g w a b k μ) := by
  intro n
  induction n with
  | zero =>
    intro f f' τ i1 w a b p q k hn hs hr hw hsz hf hf' hk0 hk hat ha0 hak hbp hw0 hw1
    obtain ⟨f, rfl⟩ : ∃ x, f = x + 1 := ⟨f - 1, by omega⟩
    obtain ⟨f', rfl⟩ : ∃ x, f' = x + 1 := ⟨f' - 1, by omega⟩
    obtain ⟨-, hl2⟩ := look_eq hr hn
    have hl0 := hl2 (by omega)
    have hcM : F_charAt μ v2 i1 = 0 := by rw [hv2, look_M hr hn, hl0]
    have hv2N : v2.toNatClampNeg = ((μ.1 11).toInt - 1).toNat := by rw [hv2]; exact (ix_lv (i := 0) hn.2.1 hn.1.2.2 (by decide)).1
    have hb1 : -1 ≤ b.toInt := by exact hbp.elim (fun h => by rw [h.1]; decide) (fun h => by omega)
    have hp : p = if 0 ≤ b then b else 0 := by
      rcases hbp with ⟨h1, h2, -⟩ | ⟨h1, -, h2, -⟩
      · rw [h1, h2]; decide
      · rw [if_pos (by rw [Int32.le_iff_toInt_le]; exact h1), h2]
    have hend := dig_end (v2 := v2) (g := g) (w := w) (a := a) (b := b) (p := p) hs hw hn h16 hv2N ha0 hb1 hp hw0 (fun h9 => by have := pw_le ha0 h9; omega) hat
    have hX : Xdesk_putWrittenNumber_L43 (f + 1) g w a p q k τ = DX τ g w a p := by
      rw [Xdesk_putWrittenNumber_L43]
      simp only [hl0, show Xd_isDigit 0 = 0 by decide, show ¬ (0 : Int32) = 46 by decide, ↓reduceIte, ite_self]
      unfold DX
      by_cases hg : g = 0
      · simp only [hg, ↓reduceIte]; cases Xsh_putNumber τ 6 w p <;> rfl
      · simp only [hg, ↓reduceIte]; cases Xsh_putNumber τ 6 (-w) p <;> rfl
    have hM : F_digits_L47 f0 (f' + 1) v2 i1 g w a b k μ = DM μ v2 i1 g w a b := by
      rw [F_digits_L47]
      simp only [hcM, show f_within (Int32.toInt64 0) 48 57 = 0 by decide, show ¬ (0 : Int32) = 46 by decide, ↓reduceIte, DM_eq, ite_self]
    rw [hX, hM]
    exact hend
  | succ n ih =>
    intro f f' τ i1 w a b p q k hn hs hr hw hsz hf hf' hk0 hk hat ha0 hak hbp hw0 hw1
    obtain ⟨f, rfl⟩ : ∃ x, f = x + 1 := ⟨f - 1, by omega⟩
    obtain ⟨f', rfl⟩ : ∃ x, f' = x + 1 := ⟨f' - 1, by omega⟩
    obtain ⟨hl1, -⟩ := look_eq hr hn
    obtain ⟨-, hlp, hlq⟩ := hl1 (by omega)
    have hcM : F_charAt μ v2 i1 = Xnest_look τ := by rw [hv2, look_M hr hn]
    have hv2N : v2.toNatClampNeg = ((μ.1 11).toInt - 1).toNat := by rw [hv2]; exact (ix_lv (i := 0) hn.2.1 hn.1.2.2 (by decide)).1
    have hb1 : -1 ≤ b.toInt := by exact hbp.elim (fun h => by rw [h.1]; decide) (fun h => by omega)
    have hp : p = if 0 ≤ b then b else 0 := by
      rcases hbp with ⟨h1, h2, -⟩ | ⟨h1, -, h2, -⟩
      · rw [h1, h2]; decide
      · rw [if_pos (by rw [Int32.le_iff_toInt_le]; exact h1), h2]
    have hend := dig_end (v2 := v2) (g := g) (w := w) (a := a) (b := b) (p := p) hs hw hn h16 hv2N ha0 hb1 hp hw0 (fun h9 => by have := pw_le ha0 h9; omega) hat
    have z160 : (160 : Int32).toInt = 160 := rfl
    have z18 : (18 : Int32).toInt = 18 := rfl
    have z1 : (1 : Int32).toInt = 1 := rfl
    have hkn : ¬ (160 : Int32) ≤ k := by rw [Int32.le_iff_toInt_le]; omega
    have ek : (k + 1).toInt = k.toInt + 1 := i_addE rfl z1 (by omega) (by omega)
    have ei : (i1 + 1).toInt = i1.toInt + 1 := by
      obtain ⟨-, -, -, nn, st, ha⟩ := hn
      obtain ⟨-, -, -, -, -, a6, a7, a8, -, -⟩ := ha
      exact i_addE rfl z1 (by omega) (by omega)
    have ea : (a + 1).toInt = a.toInt + 1 := i_addE rfl z1 (by omega) (by omega)
    have hnx := pass_NX hn (by omega)
    rw [← ei] at hnx
    have hkp := pass_kp (σ := τ)
    have hs' := ST_kp hkp hs
    have hr' := rok_rs hkp.1 hr
    have hw' := pass_wf hw
    generalize hc : Xnest_look τ = c at *
    by_cases hdig : 48 ≤ c.toInt ∧ c.toInt ≤ 57
    · have hX1 : ¬ Xd_isDigit c = 0 := fun h => isDigit_eq.mp h hdig
      have hM1 : ¬ f_within c.toInt64 48 57 = 0 := fun h => within_eq.mp h hdig
      have h46 : ¬ c = 46 := fun h => by rw [h] at hdig; exact absurd hdig (by decide)
      -- the number with this digit behind it
      have ec : (c - 48).toInt = c.toInt - 48 := i_subE rfl (show (48 : Int32).toInt = 48 from rfl) (by omega) (by omega)
      by_cases h18 : a + 1 ≤ 18
      · have h18' := h18; rw [Int32.le_iff_toInt_le, ea, z18] at h18'
        have hM18 : ¬ (18 : Int32) ≤ a := by rw [Int32.le_iff_toInt_le]; omega
        have hmin : min a.toInt.toNat 18 = a.toInt.toNat := by omega
        have hmin' : min (a + 1).toInt.toNat 18 = a.toInt.toNat + 1 := by rw [ea]; omega
        rw [hmin] at hw1
        have hpw : (10 : Nat) ^ (a.toInt.toNat + 1) = 10 * 10 ^ a.toInt.toNat := by rw [Nat.pow_succ]; omega
        have hpb : 10 ^ a.toInt.toNat ≤ 100000000000000000 := by
          have : 10 ^ a.toInt.toNat ≤ 10 ^ 17 := Nat.pow_le_pow_right (by decide) (by omega)
          exact this
        have eX : ((w * 10) + ((c - 48).toInt64)).toInt = w.toInt * 10 + (c.toInt - 48) := l_addE (l_mulE rfl (show (10 : Int64).toInt = 10 from rfl) (by omega) (by omega)) (by rw [Int32.toInt_toInt64]; exact ec) (by omega) (by omega)
        have eM : (((10 * w) + c.toInt64) - 48).toInt = 10 * w.toInt + c.toInt - 48 := l_subE (l_addE (l_mulE (show (10 : Int64).toInt = 10 from rfl) rfl (by omega) (by omega)) (Int32.toInt_toInt64 c) (by omega) (by omega)) (show (48 : Int64).toInt = 48 from rfl) (by omega) (by omega)
        have eXM : ((10 * w) + c.toInt64) - 48 = (w * 10) + ((c - 48).toInt64) := Int64.toInt_inj.mp (by rw [eX, eM]; omega)
        rcases hbp with ⟨b1, b2, b3⟩ | ⟨b1, b2, b3, b4⟩
        · have hbn : b < 0 := by rw [b1]; decide
          have hX : Xdesk_putWrittenNumber_L43 (f + 1) g w a p q k τ = Xdesk_putWrittenNumber_L43 f g ((w * 10) + ((c - 48).toInt64)) (a + 1) p q (k + 1) (Xnest_pass τ) := by
            rw [Xdesk_putWrittenNumber_L43]
            simp only [hkn, hc, hX1, b3, h18, ↓reduceIte]
            rw [b2]; rfl
          have hM : F_digits_L47 f0 (f' + 1) v2 i1 g w a b k μ = F_digits_L47 f0 f' v2 (i1 + 1) g ((w * 10) + ((c - 48).toInt64)) (a + 1) b (k + 1) μ := by
            rw [F_digits_L47]
            simp only [hkn, hcM, h46, hM1, hM18, hbn, eXM, ↓reduceIte]
          rw [hX, hM]
          exact dres_kp hkp (ih f f' _ (i1 + 1) _ (a + 1) b p q (k + 1) hnx hs' hr' hw' (by omega) (by omega) (by omega) (by omega) (by omega) (by omega) (by omega) (by omega) (Or.inl ⟨b1, b2, b3⟩) (by omega) (by rw [hmin', hpw, eX]; omega))
        · have hbn : ¬ b < 0 := by rw [Int32.lt_iff_toInt_lt]; have : (0 : Int32).toInt = 0 := rfl; omega
          have eb : (b + 1).toInt = b.toInt + 1 := i_addE rfl z1 (by omega) (by omega)
          have hX : Xdesk_putWrittenNumber_L43 (f + 1) g w a p q k τ = Xdesk_putWrittenNumber_L43 f g ((w * 10) + ((c - 48).toInt64)) (a + 1) (p + 1) q (k + 1) (Xnest_pass τ) := by
            rw [Xdesk_putWrittenNumber_L43]
            simp only [hkn, hc, hX1, b4, h18, show ¬ (1 : Int32) = 0 by decide, ↓reduceIte]
          have hM : F_digits_L47 f0 (f' + 1) v2 i1 g w a b k μ = F_digits_L47 f0 f' v2 (i1 + 1) g ((w * 10) + ((c - 48).toInt64)) (a + 1) (b + 1) (k + 1) μ := by
            rw [F_digits_L47]
            simp only [hkn, hcM, h46, hM1, hM18, hbn, eXM, ↓reduceIte]
          rw [hX, hM]
          exact dres_kp hkp (ih f f' _ (i1 + 1) _ (a + 1) (b + 1) (p + 1) q (k + 1) hnx hs' hr' hw' (by omega) (by omega) (by omega) (by omega) (by omega) (by omega) (by omega) (by omega) (Or.inr ⟨by omega, by omega, by rw [b3], b4⟩) (by omega) (by rw [hmin', hpw, eX]; omega))
      · have h18' := h18; rw [Int32.le_iff_toInt_le, ea, z18] at h18'
        have hM18 : (18 : Int32) ≤ a := by rw [Int32.le_iff_toInt_le]; omega
        have hmin : min a.toInt.toNat 18 = 18 := by omega
        have hmin' : min (a + 1).toInt.toNat 18 = 18 := by rw [ea]; omega
        rw [hmin] at hw1
        rcases hbp with ⟨b1, b2, b3⟩ | ⟨b1, b2, b3, b4⟩
        · have hbn : b < 0 := by rw [b1]; decide
          have hX : Xdesk_putWrittenNumber_L43 (f + 1) g w a p q k τ = Xdesk_putWrittenNumber_L43 f g w (a + 1) p q (k + 1) (Xnest_pass τ) := by
            rw [Xdesk_putWrittenNumber_L43]
            simp only [hkn, hc, hX1, b3, h18, ↓reduceIte]
            rw [b2]; rfl
          have hM : F_digits_L47 f0 (f' + 1) v2 i1 g w a b k μ = F_digits_L47 f0 f' v2 (i1 + 1) g w (a + 1) b (k + 1) μ := by
            rw [F_digits_L47]
            simp only [hkn, hcM, h46, hM1, hM18, hbn, ↓reduceIte]
          rw [hX, hM]
          exact dres_kp hkp (ih f f' _ (i1 + 1) _ (a + 1) b p q (k + 1) hnx hs' hr' hw' (by omega) (by omega) (by omega) (by omega) (by omega) (by omega) (by omega) (by omega) (Or.inl ⟨b1, b2, b3⟩) hw0 (by rw [hmin']; exact hw1))
        · have hbn : ¬ b < 0 := by rw [Int32.lt_iff_toInt_lt]; have : (0 : Int32).toInt = 0 := rfl; omega
          have eb : (b + 1).toInt = b.toInt + 1 := i_addE rfl z1 (by omega) (by omega)
          have hX : Xdesk_putWrittenNumber_L43 (f + 1) g w a p q k τ = Xdesk_putWrittenNumber_L43 f g w (a + 1) (p + 1) q (k + 1) (Xnest_pass τ) := by
            rw [Xdesk_putWrittenNumber_L43]
            simp only [hkn, hc, hX1, b4, h18, show ¬ (1 : Int32) = 0 by decide, ↓reduceIte]
          have hM : F_digits_L47 f0 (f' + 1) v2 i1 g w a b k μ = F_digits_L47 f0 f' v2 (i1 + 1) g w (a + 1) (b + 1) (k + 1) μ := by
            rw [F_digits_L47]
            simp only [hkn, hcM, h46, hM1, hM18, hbn, ↓reduceIte]
          rw [hX, hM]
          exact dres_kp hkp (ih f f' _ (i1 + 1) _ (a + 1) (b + 1) (p + 1) q (k + 1) hnx hs' hr' hw' (by omega) (by omega) (by omega) (by omega) (by omega) (by omega) (by omega) (by omega) (Or.inr ⟨by omega, by omega, by rw [b3], b4⟩) hw0 (by rw [hmin']; exact hw1))
    · have hX1 : Xd_isDigit c = 0 := isDigit_eq.mpr hdig
      have hM1 : f_within c.toInt64 48 57 = 0 := within_eq.mpr hdig
      by_cases h46 : c = 46
      · rcases hbp with ⟨b1, b2, b3⟩ | ⟨b1, b2, b3, b4⟩
        · have hbn : ¬ (0 : Int32) ≤ b := by rw [b1]; decide
          have hX : Xdesk_putWrittenNumber_L43 (f + 1) g w a p q k τ = Xdesk_putWrittenNumber_L43 f g w a p 1 (k + 1) (Xnest_pass τ) := by
            rw [Xdesk_putWrittenNumber_L43]
            simp only [hkn, hc, hX1, h46, b3, show Xd_isDigit 46 = 0 by decide, ↓reduceIte]
          have hM : F_digits_L47 f0 (f' + 1) v2 i1 g w a b k μ = F_digits_L47 f0 f' v2 (i1 + 1) g w a 0 (k + 1) μ := by
            rw [F_digits_L47]
            simp only [hkn, hcM, h46, hbn, ↓reduceIte]
          rw [hX, hM]
          exact dres_kp hkp (ih f f' _ (i1 + 1) _ a 0 p 1 (k + 1) hnx hs' hr' hw' (by omega) (by omega) (by omega) (by omega) (by omega) (by omega) (by omega) (by omega) (Or.inr ⟨by decide, by show (0 : Int) ≤ _; omega, b2, rfl⟩) hw0 hw1)
        · have hbn : (0 : Int32) ≤ b := by rw [Int32.le_iff_toInt_le]; exact b1
          have hX : Xdesk_putWrittenNumber_L43 (f + 1) g w a p q k τ = DX τ g w a p := by
            rw [Xdesk_putWrittenNumber_L43]
            simp only [hkn, hc, h46, b4, show Xd_isDigit 46 = 0 by decide, show ¬ (1 : Int32) = 0 by decide, ↓reduceIte]
            unfold DX
            by_cases hg : g = 0
            · simp only [hg, ↓reduceIte]; cases Xsh_putNumber τ 6 w p <;> rfl
            · simp only [hg, ↓reduceIte]; cases Xsh_putNumber τ 6 (-w) p <;> rfl
          have hM : F_digits_L47 f0 (f' + 1) v2 i1 g w a b k μ = DM μ v2 i1 g w a b := by
            rw [F_digits_L47]
            rw [h46] at hM1
            simp only [hkn, hcM, h46, hbn, hM1, ↓reduceIte, DM_eq2 hbn]
          rw [hX, hM]
          exact hend
      · have hX : Xdesk_putWrittenNumber_L43 (f + 1) g w a p q k τ = DX τ g w a p := by
          rw [Xdesk_putWrittenNumber_L43]
          simp only [hkn, hc, hX1, h46, ↓reduceIte]
          unfold DX
          by_cases hg : g = 0
          · simp only [hg, ↓reduceIte]; cases Xsh_putNumber τ 6 w p <;> rfl
          · simp only [hg, ↓reduceIte]; cases Xsh_putNumber τ 6 (-w) p <;> rfl
        have hM : F_digits_L47 f0 (f' + 1) v2 i1 g w a b k μ = DM μ v2 i1 g w a b := by
          rw [F_digits_L47]
          simp only [hkn, hcM, h46, hM1, ↓reduceIte, DM_eq]
        rw [hX, hM]
        exact hend
