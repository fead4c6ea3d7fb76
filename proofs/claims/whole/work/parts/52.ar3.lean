theorem tdiv_pow {w : Int} {n : Nat} : (w.tdiv 10).tdiv (10 ^ n : Nat) = w.tdiv (10 ^ (n + 1) : Nat) := by
  have key : ∀ m : Nat, ((m : Int).tdiv 10).tdiv (10 ^ n : Nat) = (m : Int).tdiv (10 ^ (n + 1) : Nat) := by
    intro m
    rw [show (10 : Int) = ((10 : Nat) : Int) from rfl, ← Int.ofNat_tdiv, ← Int.ofNat_tdiv, ← Int.ofNat_tdiv, Nat.div_div_eq_div_mul, Nat.pow_succ, Nat.mul_comm]
  obtain ⟨m, rfl | rfl⟩ := Int.eq_nat_or_neg w
  · exact key m
  · rw [Int.neg_tdiv, Int.neg_tdiv, Int.neg_tdiv, key m]
theorem tdiv_fit {w : Int} {n : Nat} (h : fit w) : fit (w.tdiv (10 ^ n : Nat)) := by
  unfold fit at *
  have := Int.natAbs_tdiv_le_natAbs w (10 ^ n : Nat)
  omega
theorem cutL {v0 : Int64} {k0 : Int32} (hk : k0.toInt ≤ 100) : ∀ (n f : Nat) (w : Int64) (j : Int32), 0 ≤ j.toInt → (k0.toInt - j.toInt).toNat = n → n < f → fit w.toInt → (f_cut_L5 v0 k0 f w j).toInt = w.toInt.tdiv (10 ^ n : Nat) := by
  intro n
  induction n with
  | zero =>
    intro f w j hj hn hf hw
    obtain ⟨f, rfl⟩ : ∃ g, f = g + 1 := ⟨f - 1, by omega⟩
    have hle : k0 ≤ j := by rw [Int32.le_iff_toInt_le]; omega
    simp only [f_cut_L5, hle, ↓reduceIte]
    show w.toInt = w.toInt.tdiv ((1 : Nat) : Int)
    rw [show ((1 : Nat) : Int) = 1 from rfl, Int.tdiv_one]
  | succ n ih =>
    intro f w j hj hn hf hw
    obtain ⟨f, rfl⟩ : ∃ g, f = g + 1 := ⟨f - 1, by omega⟩
    have hle : ¬ k0 ≤ j := by rw [Int32.le_iff_toInt_le]; omega
    have ej : (j + 1).toInt = j.toInt + 1 := i_addE rfl (show (1 : Int32).toInt = 1 from rfl) (by omega) (by omega)
    have z3 : (10 : Int64).toInt = 10 := by decide
    have hw' := hw
    unfold fit at hw'
    have ew : (w / 10).toInt = w.toInt.tdiv 10 := l_divE rfl z3 (by omega)
    simp only [f_cut_L5, hle, ↓reduceIte]
    rw [ih f (w / 10) (j + 1) (by omega) (by omega) (by omega) (by rw [ew]; exact tdiv_fit (n := 1) hw), ew, tdiv_pow]
theorem cut_toInt {v : Int64} {k : Int32} (hk : k.toInt ≤ 100) (hv : fit v.toInt) : (f_cut v k).toInt = v.toInt.tdiv (10 ^ k.toInt.toNat : Nat) := by
  have z0 : (0 : Int32).toInt = 0 := rfl
  exact cutL hk k.toInt.toNat _ v 0 (by decide) (by omega) (by omega) hv
theorem tdiv_big {w : Int} {n : Nat} (h : fit w) (hn : 18 ≤ n) : w.tdiv (10 ^ n : Nat) = 0 := by
  have h1 : 10 ^ 18 ≤ 10 ^ n := Nat.pow_le_pow_right (by decide) hn
  have h2 : (10 : Nat) ^ 18 = 1000000000000000000 := by decide
  unfold fit at h
  rw [← Int.natAbs_eq_zero, Int.natAbs_tdiv, Int.natAbs_natCast]
  exact Nat.div_eq_of_lt (by omega)
theorem D_cut {v : Int64} {k : Int32} (hk : k.toInt ≤ 100) (hv : fit v.toInt) : D_cutOff v k = .inr (f_cut v k) := by
  have hp : (p10 (min k.toInt.toNat 18)).toInt = (10 ^ (min k.toInt.toNat 18) : Nat) := p10_toInt (Nat.min_le_right _ _)
  have hpos : 0 < (p10 (min k.toInt.toNat 18)).toInt := by rw [hp]; exact Int.ofNat_lt.mpr (Nat.pow_pos (by decide))
  have hne : ¬ p10 (min k.toInt.toNat 18) = 0 := fun e => by rw [e] at hpos; exact absurd hpos (by decide)
  have hv' := hv
  unfold fit at hv'
  unfold D_cutOff
  simp only [D_pow]
  unfold D_divide
  simp only [hne, ↓reduceIte]
  congr 1
  apply Int64.toInt_inj.mp
  rw [l_divE rfl hp (by omega), cut_toInt hk hv]
  by_cases c : k.toInt.toNat ≤ 18
  · rw [Nat.min_eq_left c]
  · rw [tdiv_big hv (by omega), tdiv_big hv (by omega)]
/-- the product, where there is one -/
theorem F_times_ok {μ : MS} {x y : Int64} {p q : Int32} {s : Int32} (hN : F_numbers μ 2 = (1, μ)) (h16 : μ.1 16 = 0) (ex : μ.2.2.2 2 (μ.1 5 - 2).toNatClampNeg = x) (ey : μ.2.2.2 2 (μ.1 5 - 1).toNatClampNeg = y) (ep : μ.2.2.1 3 (μ.1 5 - 2).toNatClampNeg = p) (eq : μ.2.2.1 3 (μ.1 5 - 1).toNatClampNeg = q) (hx : fit x.toInt) (hy : fit y.toInt) (hs : s = if f_greater (μ.1 6) (f_greater q p) ≤ q + p then f_greater (μ.1 6) (f_greater q p) else q + p) (h : fit (x.toInt * y.toInt)) : ∃ (μ' : MS), F_times μ = (1, μ') ∧ okC μ μ' (f_cut (x * y) (q + p - s)) s := by
  have hP := product_ok (τ := si μ 20 s) hx hy h
  have e16 : (si μ 20 s).1 16 = 0 := si16_20.trans h16
  unfold F_times
  by_cases c : f_greater (μ.1 6) (f_greater q p) ≤ q + p
  · rw [if_pos c] at hs
    subst hs
    refine ⟨sm (si μ 20 (f_greater (μ.1 6) (f_greater q p))) (f_cut (x * y) (q + p - (f_greater (μ.1 6) (f_greater q p)))), ?_, ⟨sfm_sm (sfm_si20 sfm_rf), e16, rfl, si20_20 (μ := μ)⟩⟩
    simp only [hN, ex, ey, ep, eq, c, hP, e16, ↓reduceIte, show ¬ (1 : Int32) = 0 by decide]
    rw [si_same e16]
  · rw [if_neg c] at hs
    subst hs
    refine ⟨sm (si μ 20 (q + p)) (f_cut (x * y) (q + p - (q + p))), ?_, ⟨sfm_sm (sfm_si20 sfm_rf), e16, rfl, si20_20 (μ := μ)⟩⟩
    simp only [hN, ex, ey, ep, eq, c, si_twice, hP, e16, ↓reduceIte, show ¬ (1 : Int32) = 0 by decide]
    rw [si_same e16]
theorem F_times_no {μ : MS} {x y : Int64} {p q : Int32} (hN : F_numbers μ 2 = (1, μ)) (h16 : μ.1 16 = 0) (ex : μ.2.2.2 2 (μ.1 5 - 2).toNatClampNeg = x) (ey : μ.2.2.2 2 (μ.1 5 - 1).toNatClampNeg = y) (ep : μ.2.2.1 3 (μ.1 5 - 2).toNatClampNeg = p) (eq : μ.2.2.1 3 (μ.1 5 - 1).toNatClampNeg = q) (hx : fit x.toInt) (hy : fit y.toInt) (h : ¬ fit (x.toInt * y.toInt)) : ∃ (μ' : MS), F_times μ = (0, μ') ∧ noC μ μ' 5 := by
  have hP := fun s : Int32 => product_no (τ := si μ 20 s) hx hy h
  have h5 : ¬ (5 : Int32) = 0 := by decide
  unfold F_times
  by_cases c : f_greater (μ.1 6) (f_greater q p) ≤ q + p
  · simp only [hN, ex, ey, ep, eq, c, hP, z16, h5, ↓reduceIte, show ¬ (1 : Int32) = 0 by decide]
    exact ⟨_, rfl, sfm_sm (sfm_si16 (sfm_si20 sfm_rf)), by simp [sm, si, upd]⟩
  · simp only [hN, ex, ey, ep, eq, c, si_twice, hP, z16, h5, ↓reduceIte, show ¬ (1 : Int32) = 0 by decide]
    exact ⟨_, rfl, sfm_sm (sfm_si16 (sfm_si20 sfm_rf)), by simp [sm, si, upd]⟩
/-- the quotient, where there is one -/
def quoC (x y e : Int) : Prop := if 0 < e then fitN x e.toNat else fitN y (-e).toNat
def quoV (x y e : Int) : Int := if 0 < e then (x * (10 ^ e.toNat : Nat)).tdiv y else x.tdiv (y * (10 ^ (-e).toNat : Nat))
theorem tdiv_fit' {a b : Int} (h : fit a) : fit (a.tdiv b) := by
  unfold fit at *
  have := Int.natAbs_tdiv_le_natAbs a b
  omega
theorem quoV_fit {x y e : Int} (hx : fit x) (h : quoC x y e) : fit (quoV x y e) := by
  unfold quoV quoC at *
  split
  · rename_i c; rw [if_pos c] at h; exact tdiv_fit' (fit_mul h)
  · exact tdiv_fit' hx
theorem mul_ne {y : Int} {n : Nat} (h : y ≠ 0) : y * (10 ^ n : Nat) ≠ 0 := Int.mul_ne_zero h (by have := Nat.pow_pos (n := n) (show 0 < 10 by decide); omega)
theorem divide_ok {a b : Int64} {x y : Int} (ha : a.toInt = x) (hb : b.toInt = y) (hx : fit x) (hy : y ≠ 0) : D_divide a b = .inr (a / b) ∧ (a / b).toInt = x.tdiv y := by
  have hne : ¬ b = 0 := fun e => hy (by rw [← hb, e]; rfl)
  unfold fit at hx
  refine ⟨?_, l_divE ha hb (by omega)⟩
  unfold D_divide; rw [if_neg hne]
theorem pw_toInt {k p q : Int32} (hk : pls k) (hp : pls p) (hq : pls q) : (k + q - p).toInt = k.toInt + q.toInt - p.toInt ∧ (-(k + q - p)).toInt = -(k.toInt + q.toInt - p.toInt) := by
  unfold pls at *
  have e1 : (k + q - p).toInt = k.toInt + q.toInt - p.toInt := i_subE (i_addE rfl rfl (by omega) (by omega)) rfl (by omega) (by omega)
  refine ⟨e1, ?_⟩
  rw [Int32.toInt_neg, e1]; exact i_bm (by omega) (by omega)
theorem D_quo_ok {x y : Int64} {p q k : Int32} (hx : fit x.toInt) (hy : fit y.toInt) (hy0 : y.toInt ≠ 0) (hp : pls p) (hq : pls q) (hk : pls k) (h : quoC x.toInt y.toInt (k.toInt + q.toInt - p.toInt)) : ∃ r : Int64, D_quotient x p y q k = .inr r ∧ r.toInt = quoV x.toInt y.toInt (k.toInt + q.toInt - p.toInt) := by
  obtain ⟨e1, e2⟩ := pw_toInt hk hp hq
  have hne : ¬ y = 0 := fun e => hy0 (by rw [e]; rfl)
  have z0 : (0 : Int32).toInt = 0 := rfl
  unfold D_quotient
  rw [if_neg hne]
  unfold quoC quoV at *
  by_cases c : 0 < k.toInt + q.toInt - p.toInt
  · rw [if_pos c] at h ⊢
    rw [if_neg (by rw [Int32.le_iff_toInt_le]; omega)]
    obtain ⟨r1, f1, g1⟩ := raise_ok (k := k + q - p) hx (by rw [e1]; exact h)
    rw [e1] at g1
    obtain ⟨d1, d2⟩ := divide_ok g1 rfl (fit_mul h) hy0
    exact ⟨_, by simp only [f1, d1], d2⟩
  · rw [if_neg c] at h ⊢
    rw [if_pos (by rw [Int32.le_iff_toInt_le]; omega)]
    obtain ⟨r1, f1, g1⟩ := raise_ok (k := -(k + q - p)) hy (by rw [e2]; exact h)
    rw [e2] at g1
    obtain ⟨d1, d2⟩ := divide_ok rfl g1 hx (mul_ne hy0)
    exact ⟨_, by simp only [f1, d1], d2⟩
theorem D_quo_no {x y : Int64} {p q k : Int32} (hx : fit x.toInt) (hy : fit y.toInt) (hy0 : y.toInt ≠ 0) (hp : pls p) (hq : pls q) (hk : pls k) (h : ¬ quoC x.toInt y.toInt (k.toInt + q.toInt - p.toInt)) : D_quotient x p y q k = .inl "java/lang/UnsupportedOperationException" := by
  obtain ⟨e1, e2⟩ := pw_toInt hk hp hq
  have hne : ¬ y = 0 := fun e => hy0 (by rw [e]; rfl)
  have z0 : (0 : Int32).toInt = 0 := rfl
  unfold D_quotient
  rw [if_neg hne]
  unfold quoC at h
  by_cases c : 0 < k.toInt + q.toInt - p.toInt
  · rw [if_pos c] at h
    rw [if_neg (by rw [Int32.le_iff_toInt_le]; omega)]
    simp only [raise_no (k := k + q - p) hx (by rw [e1]; exact h)]
  · rw [if_neg c] at h
    rw [if_pos (by rw [Int32.le_iff_toInt_le]; omega)]
    simp only [raise_no (k := -(k + q - p)) hy (by rw [e2]; exact h)]
theorem fitN_zero {z : Int} {n : Nat} (h : fit z) (hn : n = 0) : fitN z n := by subst hn; exact fitN_0.mpr h
theorem F_quo_ok {μ : MS} {x y : Int64} {p q k : Int32} (hN : F_numbers μ 2 = (1, μ)) (h16 : μ.1 16 = 0) (ex : μ.2.2.2 2 (μ.1 5 - 2).toNatClampNeg = x) (ey : μ.2.2.2 2 (μ.1 5 - 1).toNatClampNeg = y) (ep : μ.2.2.1 3 (μ.1 5 - 2).toNatClampNeg = p) (eq : μ.2.2.1 3 (μ.1 5 - 1).toNatClampNeg = q) (ek : μ.1 6 = k) (hx : fit x.toInt) (hy : fit y.toInt) (hy0 : y.toInt ≠ 0) (hp : pls p) (hq : pls q) (hk : pls k) (h : quoC x.toInt y.toInt (k.toInt + q.toInt - p.toInt)) : ∃ (r : Int64) (μ' : MS), F_quotient μ = (1, μ') ∧ okC μ μ' r k ∧ r.toInt = quoV x.toInt y.toInt (k.toInt + q.toInt - p.toInt) := by
  obtain ⟨e1, e2⟩ := pw_toInt hk hp hq
  have hne : ¬ y = 0 := fun e => hy0 (by rw [e]; rfl)
  have hle : μ.1 16 ≤ 0 := by rw [h16]; decide
  have eS : si μ 16 (μ.1 16) = μ := si_same rfl
  unfold pls at hp hq hk
  have key : fitN x.toInt (k + q - p).toInt.toNat ∧ fitN y.toInt (-(k + q - p)).toInt.toNat := by
    rw [e1, e2]
    unfold quoC at h
    split at h
    · exact ⟨h, fitN_zero hy (by omega)⟩
    · exact ⟨fitN_zero hx (by omega), h⟩
  obtain ⟨r1, f1, g1⟩ := raised_ok (k := k + q - p) h16 (by omega) hx key.1
  obtain ⟨r2, f2, g2⟩ := raised_ok (k := -(k + q - p)) h16 (by omega) hy key.2
  have b1 := fit_mul key.1
  rw [← g1] at b1
  unfold fit at b1
  refine ⟨r1 / r2, si (sm μ (r1 / r2)) 20 k, ?_, ⟨sfm_si20 (sfm_sm sfm_rf), si16_20.trans h16, rfl, si20_20⟩, ?_⟩
  · unfold F_quotient
    simp only [hN, ex, ey, ep, eq, ek, hne, f1, eS, f2, hle, ↓reduceIte, show ¬ (1 : Int32) = 0 by decide]
  · rw [l_divE rfl rfl (by omega), g1, g2, e1, e2]
    unfold quoV
    split
    · rename_i c
      rw [show (-(k.toInt + q.toInt - p.toInt)).toNat = 0 by omega]
      show _ = Int.tdiv _ _
      rw [Nat.pow_zero, show ((1 : Nat) : Int) = 1 from rfl, Int.mul_one]
    · rename_i c
      rw [show (k.toInt + q.toInt - p.toInt).toNat = 0 by omega, Nat.pow_zero, show ((1 : Nat) : Int) = 1 from rfl, Int.mul_one]
theorem F_quo_zero {μ : MS} (hN : F_numbers μ 2 = (1, μ)) (ey : μ.2.2.2 2 (μ.1 5 - 1).toNatClampNeg = 0) : F_quotient μ = (0, si μ 16 4) := by
  unfold F_quotient
  simp only [hN, ey, ↓reduceIte, show ¬ (1 : Int32) = 0 by decide]
theorem F_quo_no {μ : MS} {x y : Int64} {p q k : Int32} (hN : F_numbers μ 2 = (1, μ)) (h16 : μ.1 16 = 0) (ex : μ.2.2.2 2 (μ.1 5 - 2).toNatClampNeg = x) (ey : μ.2.2.2 2 (μ.1 5 - 1).toNatClampNeg = y) (ep : μ.2.2.1 3 (μ.1 5 - 2).toNatClampNeg = p) (eq : μ.2.2.1 3 (μ.1 5 - 1).toNatClampNeg = q) (ek : μ.1 6 = k) (hx : fit x.toInt) (hy : fit y.toInt) (hy0 : y.toInt ≠ 0) (hp : pls p) (hq : pls q) (hk : pls k) (h : ¬ quoC x.toInt y.toInt (k.toInt + q.toInt - p.toInt)) : F_quotient μ = (0, si μ 16 5) := by
  obtain ⟨e1, e2⟩ := pw_toInt hk hp hq
  have hne : ¬ y = 0 := fun e => hy0 (by rw [e]; rfl)
  have eS : si μ 16 (μ.1 16) = μ := si_same rfl
  have h5 : ¬ (5 : Int32) ≤ 0 := by decide
  unfold pls at hp hq hk
  unfold quoC at h
  unfold F_quotient
  by_cases c : 0 < k.toInt + q.toInt - p.toInt
  · rw [if_pos c] at h
    obtain ⟨r1, f1⟩ := raised_no (k := k + q - p) h16 (by omega) hx (by rw [e1]; exact h)
    have f2 := raised_fault (τ := si μ 16 5) (v := y) (k := -(k + q - p)) (by rw [z16]; decide)
    simp only [hN, ex, ey, ep, eq, ek, hne, f1, z16, f2, h5, si_twice, ↓reduceIte, show ¬ (1 : Int32) = 0 by decide]
  · rw [if_neg c] at h
    obtain ⟨r1, f1, g1⟩ := raised_ok (k := k + q - p) h16 (by omega) hx (fitN_zero hx (by omega))
    obtain ⟨r2, f2⟩ := raised_no (k := -(k + q - p)) h16 (by omega) hy (by rw [e2]; exact h)
    simp only [hN, ex, ey, ep, eq, ek, hne, f1, eS, f2, z16, h5, si_twice, ↓reduceIte, show ¬ (1 : Int32) = 0 by decide]
