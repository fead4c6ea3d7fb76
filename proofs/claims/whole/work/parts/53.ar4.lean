/-- the remainder's number: r the quotient, p the product's places, q those of x -/
def remC (x y r p q : Int) : Prop := fit (r * y) ∧ fitN (r * y) (max p q - p).toNat ∧ fitN x (max p q - q).toNat ∧ max p q ≤ 9 ∧ fit (x * (10 ^ (max p q - q).toNat : Nat) - r * y * (10 ^ (max p q - p).toNat : Nat))
def remV (x y r p q : Int) : Int := x * (10 ^ (max p q - q).toNat : Nat) - r * y * (10 ^ (max p q - p).toNat : Nat)
theorem D_rem_ok {x y r : Int64} {i j k : Int32} (hx : fit x.toInt) (hy : fit y.toInt) (hr : fit r.toInt) (hi : pls i) (hj : pls j) (hk : pls k) (hq : D_quotient x i y j k = .inr r) (h : remC x.toInt y.toInt r.toInt (k.toInt + j.toInt) i.toInt) : ∃ v : Int64, D_remainder x i y j k = .inr v ∧ v.toInt = remV x.toInt y.toInt r.toInt (k.toInt + j.toInt) i.toInt := by
  unfold pls at hi hj hk
  have ek : (k + j).toInt = k.toInt + j.toInt := i_addE rfl rfl (by omega) (by omega)
  have eg := mx_toInt (p := k + j) (q := i)
  rw [ek] at eg
  obtain ⟨h1, h2, h3, h4, h5⟩ := h
  have e1 : ((if k + j < i then i else k + j) - (k + j)).toInt = max (k.toInt + j.toInt) i.toInt - (k.toInt + j.toInt) := by rw [sub_toInt (by omega) (by omega), eg, ek]
  have e2 : ((if k + j < i then i else k + j) - i).toInt = max (k.toInt + j.toInt) i.toInt - i.toInt := by rw [sub_toInt (by omega) (by omega), eg]
  have z9 : (9 : Int32).toInt = 9 := rfl
  have hle : (if k + j < i then i else k + j) ≤ 9 := by rw [Int32.le_iff_toInt_le, eg]; omega
  obtain ⟨t1, t2⟩ := D_times_ok hr (Or.inl hy) h1
  obtain ⟨r1, f1, g1⟩ := raise_ok (v := r * y) (k := (if k + j < i then i else k + j) - (k + j)) (by rw [t2]; exact h1) (by rw [e1, t2]; exact h2)
  obtain ⟨r2, f2, g2⟩ := raise_ok (k := (if k + j < i then i else k + j) - i) hx (by rw [e2]; exact h3)
  rw [e1, t2] at g1; rw [e2] at g2
  have b1 := fit_mul h2; have b2 := fit_mul h3
  rw [← g1] at b1; rw [← g2] at b2
  unfold fit at b1 b2
  have es : (r2 - r1).toInt = r2.toInt - r1.toInt := l_subE rfl rfl (by omega) (by omega)
  refine ⟨r2 - r1, ?_, by rw [es, g1, g2]; rfl⟩
  unfold D_remainder
  simp only [hq, hle, t1, f1, f2, ↓reduceIte]
  rw [fitting_ok (by rw [es, g1, g2]; exact h5)]
theorem D_rem_no {x y r : Int64} {i j k : Int32} (hx : fit x.toInt) (hy : fit y.toInt) (hr : fit r.toInt) (hi : pls i) (hj : pls j) (hk : pls k) (hq : D_quotient x i y j k = .inr r) (h : ¬ remC x.toInt y.toInt r.toInt (k.toInt + j.toInt) i.toInt) : D_remainder x i y j k = .inl "java/lang/UnsupportedOperationException" := by
  unfold pls at hi hj hk
  have ek : (k + j).toInt = k.toInt + j.toInt := i_addE rfl rfl (by omega) (by omega)
  have eg := mx_toInt (p := k + j) (q := i)
  rw [ek] at eg
  have e1 : ((if k + j < i then i else k + j) - (k + j)).toInt = max (k.toInt + j.toInt) i.toInt - (k.toInt + j.toInt) := by rw [sub_toInt (by omega) (by omega), eg, ek]
  have e2 : ((if k + j < i then i else k + j) - i).toInt = max (k.toInt + j.toInt) i.toInt - i.toInt := by rw [sub_toInt (by omega) (by omega), eg]
  have z9 : (9 : Int32).toInt = 9 := rfl
  unfold D_remainder
  by_cases h4 : max (k.toInt + j.toInt) i.toInt ≤ 9
  · have hle : (if k + j < i then i else k + j) ≤ 9 := by rw [Int32.le_iff_toInt_le, eg]; omega
    by_cases h1 : fit (r.toInt * y.toInt)
    · obtain ⟨t1, t2⟩ := D_times_ok hr (Or.inl hy) h1
      by_cases h2 : fitN (r.toInt * y.toInt) (max (k.toInt + j.toInt) i.toInt - (k.toInt + j.toInt)).toNat
      · obtain ⟨r1, f1, g1⟩ := raise_ok (v := r * y) (k := (if k + j < i then i else k + j) - (k + j)) (by rw [t2]; exact h1) (by rw [e1, t2]; exact h2)
        rw [e1, t2] at g1
        by_cases h3 : fitN x.toInt (max (k.toInt + j.toInt) i.toInt - i.toInt).toNat
        · obtain ⟨r2, f2, g2⟩ := raise_ok (k := (if k + j < i then i else k + j) - i) hx (by rw [e2]; exact h3)
          rw [e2] at g2
          have b1 := fit_mul h2; have b2 := fit_mul h3
          rw [← g1] at b1; rw [← g2] at b2
          unfold fit at b1 b2
          have es : (r2 - r1).toInt = r2.toInt - r1.toInt := l_subE rfl rfl (by omega) (by omega)
          simp only [hq, hle, t1, f1, f2, ↓reduceIte]
          rw [fitting_no (by rw [es]; omega) (by rw [es, g1, g2]; exact fun h9 => h ⟨h1, h2, h3, h4, h9⟩)]
        · simp only [hq, hle, t1, f1, raise_no (k := (if k + j < i then i else k + j) - i) hx (by rw [e2]; exact h3), ↓reduceIte]
      · simp only [hq, hle, t1, raise_no (v := r * y) (k := (if k + j < i then i else k + j) - (k + j)) (by rw [t2]; exact h1) (by rw [e1, t2]; exact h2), ↓reduceIte]
    · simp only [hq, hle, D_times_no hr (Or.inl hy) h1, ↓reduceIte]
  · have hle : ¬ (if k + j < i then i else k + j) ≤ 9 := by rw [Int32.le_iff_toInt_le, eg]; omega
    simp only [hq, hle, ↓reduceIte]
theorem F_rest_q {μ μ1 : MS} (hq : F_quotient μ = (0, μ1)) : ∃ μ', F_rest μ = (0, μ') ∧ noC μ μ' (μ1.1 16) := by
  unfold F_rest
  simp only [hq, ↓reduceIte]
  exact ⟨_, rfl, sfm_si20 (sfm_sm (sfm_si16 sfm_rf)), by simp [sm, si, upd]⟩
set_option maxHeartbeats 1000000 in
theorem F_rest_ok {μ μ1 : MS} {x y r : Int64} {p q k : Int32} (hq1 : F_quotient μ = (1, μ1)) (ho : okC μ μ1 r k) (ex : μ.2.2.2 2 (μ.1 5 - 2).toNatClampNeg = x) (ey : μ.2.2.2 2 (μ.1 5 - 1).toNatClampNeg = y) (ep : μ.2.2.1 3 (μ.1 5 - 2).toNatClampNeg = p) (eq : μ.2.2.1 3 (μ.1 5 - 1).toNatClampNeg = q) (ek : μ.1 6 = k) (hx : fit x.toInt) (hy : fit y.toInt) (hr : fit r.toInt) (hp : pls p) (hq : pls q) (hk : pls k) :
    (remC x.toInt y.toInt r.toInt (k.toInt + q.toInt) p.toInt → ∃ (v : Int64) (μ' : MS), F_rest μ = (1, μ') ∧ okC μ μ' v (f_greater (k + q) p) ∧ v.toInt = remV x.toInt y.toInt r.toInt (k.toInt + q.toInt) p.toInt) ∧
    (¬ remC x.toInt y.toInt r.toInt (k.toInt + q.toInt) p.toInt → ∃ (μ' : MS), F_rest μ = (0, μ') ∧ noC μ μ' 5) := by
  unfold pls at hp hq hk
  obtain ⟨hs, o16, om, o20⟩ := ho
  have ekq : (k + q).toInt = k.toInt + q.toInt := i_addE rfl rfl (by omega) (by omega)
  have eg := greater_toInt (p := k + q) (q := p)
  rw [ekq] at eg
  have e1 : (f_greater (k + q) p - (k + q)).toInt = max (k.toInt + q.toInt) p.toInt - (k.toInt + q.toInt) := by rw [sub_toInt (by omega) (by omega), eg, ekq]
  have e2 : (f_greater (k + q) p - p).toInt = max (k.toInt + q.toInt) p.toInt - p.toInt := by rw [sub_toInt (by omega) (by omega), eg]
  have z9 : (9 : Int32).toInt = 9 := rfl
  have hc9 : (9 : Int32) < f_greater (k + q) p ↔ ¬ max (k.toInt + q.toInt) p.toInt ≤ 9 := by rw [Int32.lt_iff_toInt_lt, eg]; omega
  unfold F_rest
  simp only [hq1, o16, om, o20, ex, ey, ep, eq, ek, show ¬ (1 : Int32) = 0 by decide, ↓reduceIte]
  have t16 : (si (si (sm (si μ 16 0) r) 20 k) 20 (f_greater (k + q) p)).1 16 = 0 := by simp [sm, si, upd]
  have hsT : sfm μ (si (si (sm (si μ 16 0) r) 20 k) 20 (f_greater (k + q) p)) := sfm_si20 (sfm_si20 (sfm_sm (sfm_si16 sfm_rf)))
  have t20 : (si (si (sm (si μ 16 0) r) 20 k) 20 (f_greater (k + q) p)).1 20 = f_greater (k + q) p := si20_20
  generalize si (si (sm (si μ 16 0) r) 20 k) 20 (f_greater (k + q) p) = τ at t16 hsT t20
  have eS : si τ 16 (τ.1 16) = τ := si_same rfl
  have h5 : ¬ (5 : Int32) = 0 := by decide
  by_cases h1 : fit (r.toInt * y.toInt)
  · have P1 := product_ok (τ := τ) hr hy h1
    have h1' := h1
    unfold fit at h1'
    have em : (r * y).toInt = r.toInt * y.toInt := l_mulE rfl rfl (by omega) (by omega)
    by_cases h2 : fitN (r.toInt * y.toInt) (max (k.toInt + q.toInt) p.toInt - (k.toInt + q.toInt)).toNat
    · obtain ⟨r1, f1, g1⟩ := raised_ok (v := r * y) (k := f_greater (k + q) p - (k + q)) t16 (by omega) (by rw [em]; exact h1) (by rw [e1, em]; exact h2)
      rw [e1, em] at g1
      by_cases h3 : fitN x.toInt (max (k.toInt + q.toInt) p.toInt - p.toInt).toNat
      · obtain ⟨r2, f2, g2⟩ := raised_ok (k := f_greater (k + q) p - p) t16 (by omega) hx (by rw [e2]; exact h3)
        rw [e2] at g2
        have b1 := fit_mul h2; have b2 := fit_mul h3
        rw [← g1] at b1; rw [← g2] at b2
        unfold fit at b1 b2
        have es : (r2 - r1).toInt = r2.toInt - r1.toInt := l_subE rfl rfl (by omega) (by omega)
        have eS0 : si τ 16 0 = τ := si_same t16
        simp only [P1, t16, eS0, f1, f2, ↓reduceIte]
        by_cases h4 : max (k.toInt + q.toInt) p.toInt ≤ 9
        · have hn : ¬ (9 : Int32) < f_greater (k + q) p := fun h => hc9.mp h h4
          simp only [hn, ↓reduceIte]
          by_cases h6 : fit (r2 - r1).toInt
          · rw [isBig_ok h6, if_pos rfl]
            refine ⟨fun _ => ⟨r2 - r1, sm τ (r2 - r1), rfl, ⟨sfm_sm hsT, t16, rfl, t20⟩, by rw [es, g1, g2]; rfl⟩, fun h => absurd ⟨h1, h2, h3, h4, by rw [es, g1, g2] at h6; exact h6⟩ h⟩
          · rw [isBig_no h6, if_neg (by decide)]
            refine ⟨fun h => absurd (by rw [es, g1, g2]; exact h.2.2.2.2) h6, fun _ => ⟨_, rfl, sfm_si16 (sfm_sm hsT), z16⟩⟩
        · have hn : (9 : Int32) < f_greater (k + q) p := hc9.mpr h4
          simp only [hn, ↓reduceIte]
          exact ⟨fun h => absurd h.2.2.2.1 h4, fun _ => ⟨_, rfl, sfm_si16 (sfm_sm hsT), z16⟩⟩
      · obtain ⟨r2, f2⟩ := raised_no (k := f_greater (k + q) p - p) t16 (by omega) hx (by rw [e2]; exact h3)
        simp only [P1, eS, f1, f2, z16, h5, ↓reduceIte]
        exact ⟨fun h => absurd h.2.2.1 h3, fun _ => ⟨_, rfl, sfm_sm (sfm_si16 hsT), by simp [sm, si, upd]⟩⟩
    · obtain ⟨r1, f1⟩ := raised_no (v := r * y) (k := f_greater (k + q) p - (k + q)) t16 (by omega) (by rw [em]; exact h1) (by rw [e1, em]; exact h2)
      have f2 := raised_fault (τ := si τ 16 5) (v := x) (k := f_greater (k + q) p - p) (by rw [z16]; decide)
      simp only [P1, eS, f1, z16, f2, h5, si_twice, ↓reduceIte]
      exact ⟨fun h => absurd h.2.1 h2, fun _ => ⟨_, rfl, sfm_sm (sfm_si16 hsT), by simp [sm, si, upd]⟩⟩
  · have P1 := product_no (τ := τ) hr hy h1
    have f1 := raised_fault (τ := si τ 16 5) (v := 0) (k := f_greater (k + q) p - (k + q)) (by rw [z16]; decide)
    have f2 := raised_fault (τ := si τ 16 5) (v := x) (k := f_greater (k + q) p - p) (by rw [z16]; decide)
    simp only [P1, z16, si_twice, f1, f2, h5, ↓reduceIte]
    exact ⟨fun h => absurd h.1 h1, fun _ => ⟨_, rfl, sfm_sm (sfm_si16 hsT), by simp [sm, si, upd]⟩⟩
/-- the whole root -/
def isRt (y r : Int) : Prop := 0 ≤ r ∧ r * r ≤ y ∧ y < (r + 1) * (r + 1)
theorem isRt_uniq {y r s : Int} (h1 : isRt y r) (h2 : isRt y s) : r = s := by
  obtain ⟨a1, a2, a3⟩ := h1
  obtain ⟨b1, b2, b3⟩ := h2
  rcases Int.lt_trichotomy r s with h | h | h
  · have : (r + 1) * (r + 1) ≤ s * s := Int.mul_le_mul (by omega) (by omega) (by omega) (by omega)
    omega
  · exact h
  · have : (s + 1) * (s + 1) ≤ r * r := Int.mul_le_mul (by omega) (by omega) (by omega) (by omega)
    omega
theorem mid_toInt {l h : Int64} (hl : 0 ≤ l.toInt) (hlh : l.toInt ≤ h.toInt) (hh : h.toInt ≤ 1000000000) : (((l + h) + 1) / 2).toInt = (l.toInt + h.toInt + 1) / 2 := by
  rw [l_divE (l_addE (l_addE rfl rfl (by omega) (by omega)) (show (1 : Int64).toInt = 1 from rfl) (by omega) (by omega)) (show (2 : Int64).toInt = 2 from rfl) (by omega)]
  rw [Int.tdiv_eq_ediv_of_nonneg (by omega)]
theorem rootX {a0 : Int64} {i0 j0 : Int32} {y : Int64} : ∀ (m f : Nat) (l h : Int64) (n : Int32), 0 ≤ n.toInt → n.toInt + m ≤ 31 → m < f → 0 ≤ l.toInt → l.toInt ≤ h.toInt → h.toInt ≤ 1000000000 → h.toInt - l.toInt < 2 ^ m → l.toInt * l.toInt ≤ y.toInt → y.toInt < (h.toInt + 1) * (h.toInt + 1) → ∃ r : Int64, D_root_L38 a0 i0 j0 f y l h n = .inr r ∧ isRt y.toInt r.toInt := by
  intro m
  induction m with
  | zero =>
    intro f l h n h0 hn hf hl hlh hh hd h1 h2
    obtain ⟨f, rfl⟩ : ∃ g, f = g + 1 := ⟨f - 1, by omega⟩
    have e : h.toInt = l.toInt := by have : (2 : Int) ^ 0 = 1 := rfl; omega
    refine ⟨l, ?_, hl, h1, by rw [← e]; exact h2⟩
    simp only [D_root_L38]
    rw [if_pos (show h ≤ l by rw [Int64.le_iff_toInt_le]; omega)]
    split <;> rfl
  | succ m ih =>
    intro f l h n h0 hn hf hl hlh hh hd h1 h2
    obtain ⟨f, rfl⟩ : ∃ g, f = g + 1 := ⟨f - 1, by omega⟩
    have z31 : (31 : Int32).toInt = 31 := rfl
    have c1 : ¬ (31 : Int32) ≤ n := by rw [Int32.le_iff_toInt_le]; omega
    have en : (n + 1).toInt = n.toInt + 1 := i_addE rfl (show (1 : Int32).toInt = 1 from rfl) (by omega) (by omega)
    have hp : (2 : Int) ^ (m + 1) = 2 * 2 ^ m := by rw [Int.pow_succ]; omega
    by_cases c2 : h ≤ l
    · have c2' := c2; rw [Int64.le_iff_toInt_le] at c2'
      have e : h.toInt = l.toInt := by omega
      exact ⟨l, by simp only [D_root_L38, c1, c2, ↓reduceIte], hl, h1, by rw [← e]; exact h2⟩
    · have c2' := c2; rw [Int64.le_iff_toInt_le] at c2'
      have em := mid_toInt hl hlh hh
      have hb : (((l + h) + 1) / 2).toInt ≤ 1000000000 := by omega
      have hb0 : 0 ≤ (((l + h) + 1) / 2).toInt := by omega
      have hsq : (((l + h) + 1) / 2).toInt * (((l + h) + 1) / 2).toInt ≤ 1000000000 * 1000000000 := Int.mul_le_mul hb hb hb0 (by omega)
      have hsq0 : 0 ≤ (((l + h) + 1) / 2).toInt * (((l + h) + 1) / 2).toInt := Int.mul_nonneg hb0 hb0
      have eq9 : ((((l + h) + 1) / 2) * (((l + h) + 1) / 2)).toInt = (((l + h) + 1) / 2).toInt * (((l + h) + 1) / 2).toInt := l_mulE rfl rfl (by omega) (by omega)
      by_cases c3 : y < ((((l + h) + 1) / 2) * (((l + h) + 1) / 2))
      · have c3' := c3; rw [Int64.lt_iff_toInt_lt, eq9] at c3'
        have ed : ((((l + h) + 1) / 2) - 1).toInt = (((l + h) + 1) / 2).toInt - 1 := l_subE rfl (show (1 : Int64).toInt = 1 from rfl) (by omega) (by omega)
        obtain ⟨r, e1, e2⟩ := ih f l ((((l + h) + 1) / 2) - 1) (n + 1) (by omega) (by omega) (by omega) hl (by omega) (by omega) (by omega) h1 (by rw [ed, Int.sub_add_cancel]; exact c3')
        exact ⟨r, by simp only [D_root_L38, c1, c2, c3, ↓reduceIte]; exact e1, e2⟩
      · have c3' := c3; rw [Int64.lt_iff_toInt_lt, eq9] at c3'
        obtain ⟨r, e1, e2⟩ := ih f (((l + h) + 1) / 2) h (n + 1) (by omega) (by omega) (by omega) hb0 (by omega) hh (by omega) (by omega) h2
        exact ⟨r, by simp only [D_root_L38, c1, c2, c3, ↓reduceIte]; exact e1, e2⟩
theorem rootM {y : Int64} {τ : MS} : ∀ (m f : Nat) (l h : Int64) (n : Int32), 0 ≤ n.toInt → n.toInt + m ≤ 40 → m < f → 0 ≤ l.toInt → l.toInt ≤ h.toInt → h.toInt ≤ 1000000000 → h.toInt - l.toInt < 2 ^ m → l.toInt * l.toInt ≤ y.toInt → y.toInt < (h.toInt + 1) * (h.toInt + 1) → ∃ r : Int64, F_root_L107 f y l h n τ = (1, sm τ r) ∧ isRt y.toInt r.toInt := by
  intro m
  induction m with
  | zero =>
    intro f l h n h0 hn hf hl hlh hh hd h1 h2
    obtain ⟨f, rfl⟩ : ∃ g, f = g + 1 := ⟨f - 1, by omega⟩
    have e : h.toInt = l.toInt := by have : (2 : Int) ^ 0 = 1 := rfl; omega
    refine ⟨l, ?_, hl, h1, by rw [← e]; exact h2⟩
    simp only [F_root_L107]
    rw [if_pos (show h ≤ l by rw [Int64.le_iff_toInt_le]; omega)]
    split <;> rfl
  | succ m ih =>
    intro f l h n h0 hn hf hl hlh hh hd h1 h2
    obtain ⟨f, rfl⟩ : ∃ g, f = g + 1 := ⟨f - 1, by omega⟩
    have z31 : (40 : Int32).toInt = 40 := rfl
    have c1 : ¬ (40 : Int32) ≤ n := by rw [Int32.le_iff_toInt_le]; omega
    have en : (n + 1).toInt = n.toInt + 1 := i_addE rfl (show (1 : Int32).toInt = 1 from rfl) (by omega) (by omega)
    have hp : (2 : Int) ^ (m + 1) = 2 * 2 ^ m := by rw [Int.pow_succ]; omega
    by_cases c2 : h ≤ l
    · have c2' := c2; rw [Int64.le_iff_toInt_le] at c2'
      have e : h.toInt = l.toInt := by omega
      exact ⟨l, by simp only [F_root_L107, c1, c2, ↓reduceIte], hl, h1, by rw [← e]; exact h2⟩
    · have c2' := c2; rw [Int64.le_iff_toInt_le] at c2'
      have em := mid_toInt hl hlh hh
      have hb : (((l + h) + 1) / 2).toInt ≤ 1000000000 := by omega
      have hb0 : 0 ≤ (((l + h) + 1) / 2).toInt := by omega
      have hsq : (((l + h) + 1) / 2).toInt * (((l + h) + 1) / 2).toInt ≤ 1000000000 * 1000000000 := Int.mul_le_mul hb hb hb0 (by omega)
      have hsq0 : 0 ≤ (((l + h) + 1) / 2).toInt * (((l + h) + 1) / 2).toInt := Int.mul_nonneg hb0 hb0
      have eq9 : ((((l + h) + 1) / 2) * (((l + h) + 1) / 2)).toInt = (((l + h) + 1) / 2).toInt * (((l + h) + 1) / 2).toInt := l_mulE rfl rfl (by omega) (by omega)
      by_cases c3 : y < ((((l + h) + 1) / 2) * (((l + h) + 1) / 2))
      · have c3' := c3; rw [Int64.lt_iff_toInt_lt, eq9] at c3'
        have ed : ((((l + h) + 1) / 2) - 1).toInt = (((l + h) + 1) / 2).toInt - 1 := l_subE rfl (show (1 : Int64).toInt = 1 from rfl) (by omega) (by omega)
        obtain ⟨r, e1, e2⟩ := ih f l ((((l + h) + 1) / 2) - 1) (n + 1) (by omega) (by omega) (by omega) hl (by omega) (by omega) (by omega) h1 (by rw [ed, Int.sub_add_cancel]; exact c3')
        exact ⟨r, by simp only [F_root_L107, c1, c2, c3, ↓reduceIte]; exact e1, e2⟩
      · have c3' := c3; rw [Int64.lt_iff_toInt_lt, eq9] at c3'
        obtain ⟨r, e1, e2⟩ := ih f (((l + h) + 1) / 2) h (n + 1) (by omega) (by omega) (by omega) hb0 (by omega) hh (by omega) (by omega) h2
        exact ⟨r, by simp only [F_root_L107, c1, c2, c3, ↓reduceIte]; exact e1, e2⟩
/-- the root of both, where there is one -/
theorem root_ok {μ : MS} {y : Int64} {q k : Int32} (hN : F_numbers μ 1 = (1, μ)) (h16 : μ.1 16 = 0) (ey : μ.2.2.2 2 (μ.1 5 - 1).toNatClampNeg = y) (eq : μ.2.2.1 3 (μ.1 5 - 1).toNatClampNeg = q) (ek : μ.1 6 = k) (hy : fit y.toInt) (hy0 : 0 ≤ y.toInt) (hq : pls q) (hk : pls k) (h : fitN y.toInt (2 * max k.toInt q.toInt - q.toInt).toNat) : ∃ (r : Int64) (μ' : MS), D_root y q (f_greater k q) = .inr r ∧ F_root μ = (1, μ') ∧ okC μ μ' r (f_greater k q) ∧ fit r.toInt := by
  unfold pls at hq hk
  have eg := greater_toInt (p := k) (q := q)
  have e1 : (2 * f_greater k q - q).toInt = 2 * max k.toInt q.toInt - q.toInt := by
    rw [i_subE (i_mulE (show (2 : Int32).toInt = 2 from rfl) eg (by omega) (by omega)) rfl (by omega) (by omega)]
  have hle : (0 : Int64) ≤ y := by rw [Int64.le_iff_toInt_le]; exact hy0
  have t16 : (si μ 20 (f_greater k q)).1 16 = 0 := si16_20.trans h16
  have hle16 : (si μ 20 (f_greater k q)).1 16 ≤ 0 := by rw [t16]; decide
  have eS : si (si μ 20 (f_greater k q)) 16 ((si μ 20 (f_greater k q)).1 16) = si μ 20 (f_greater k q) := si_same rfl
  obtain ⟨r1, f1, g1⟩ := raise_ok (k := 2 * f_greater k q - q) hy (by rw [e1]; exact h)
  obtain ⟨r2, f2, g2⟩ := raised_ok (τ := si μ 20 (f_greater k q)) (k := 2 * f_greater k q - q) t16 (by omega) hy (by rw [e1]; exact h)
  have e12 : r2 = r1 := Int64.toInt_inj.mp (by rw [g1, g2])
  subst e12
  rw [e1] at g1
  have b1 := fit_mul h
  rw [← g1] at b1
  have b1' := b1
  unfold fit at b1'
  have h0 : 0 ≤ r2.toInt := by rw [g1]; exact Int.mul_nonneg hy0 (Int.natCast_nonneg _)
  obtain ⟨s1, x1, x2⟩ := rootX (a0 := y) (i0 := q) (j0 := f_greater k q) (y := r2) 30 32 0 999999999 0 (by decide) (by decide) (by decide) (by decide) (by decide) (by decide) (by decide) (by show (0 : Int) * 0 ≤ _; omega) (by show _ < ((999999999 : Int) + 1) * (999999999 + 1); omega)
  obtain ⟨s2, y1, y2⟩ := rootM (y := r2) (τ := si μ 20 (f_greater k q)) 30 41 0 1000000000 0 (by decide) (by decide) (by decide) (by decide) (by decide) (by decide) (by decide) (by show (0 : Int) * 0 ≤ _; omega) (by show _ < ((1000000000 : Int) + 1) * (1000000000 + 1); omega)
  have e9 : s2 = s1 := Int64.toInt_inj.mp (isRt_uniq y2 x2)
  subst e9
  refine ⟨s2, sm (si μ 20 (f_greater k q)) s2, ?_, ?_, ⟨sfm_sm (sfm_si20 sfm_rf), t16, rfl, si20_20 (μ := μ)⟩, ?_⟩
  · unfold D_root
    rw [if_pos hle]
    simp only [f1, x1]
  · unfold F_root
    simp only [hN, ey, eq, ek, hle, f2, hle16, eS, y1, ↓reduceIte, show ¬ (1 : Int32) = 0 by decide]
  · obtain ⟨a1, a2, a3⟩ := x2
    unfold fit
    refine ⟨by omega, ?_⟩
    by_cases c : s2.toInt ≤ 999999999999999999
    · exact c
    · have : (999999999999999999 : Int) * 999999999999999999 ≤ s2.toInt * s2.toInt := Int.mul_le_mul (by omega) (by omega) (by omega) (by omega)
      omega
theorem root_no {μ : MS} {y : Int64} {q k : Int32} (hN : F_numbers μ 1 = (1, μ)) (h16 : μ.1 16 = 0) (ey : μ.2.2.2 2 (μ.1 5 - 1).toNatClampNeg = y) (eq : μ.2.2.1 3 (μ.1 5 - 1).toNatClampNeg = q) (ek : μ.1 6 = k) (hy : fit y.toInt) (hy0 : 0 ≤ y.toInt) (hq : pls q) (hk : pls k) (h : ¬ fitN y.toInt (2 * max k.toInt q.toInt - q.toInt).toNat) : ∃ (μ' : MS), D_root y q (f_greater k q) = .inl "java/lang/UnsupportedOperationException" ∧ F_root μ = (0, μ') ∧ noC μ μ' 5 := by
  unfold pls at hq hk
  have eg := greater_toInt (p := k) (q := q)
  have e1 : (2 * f_greater k q - q).toInt = 2 * max k.toInt q.toInt - q.toInt := by
    rw [i_subE (i_mulE (show (2 : Int32).toInt = 2 from rfl) eg (by omega) (by omega)) rfl (by omega) (by omega)]
  have hle : (0 : Int64) ≤ y := by rw [Int64.le_iff_toInt_le]; exact hy0
  have t16 : (si μ 20 (f_greater k q)).1 16 = 0 := si16_20.trans h16
  have h5 : ¬ (5 : Int32) ≤ 0 := by decide
  obtain ⟨r2, f2⟩ := raised_no (τ := si μ 20 (f_greater k q)) (k := 2 * f_greater k q - q) t16 (by omega) hy (by rw [e1]; exact h)
  refine ⟨si (si μ 20 (f_greater k q)) 16 5, ?_, ?_, sfm_si16 (sfm_si20 sfm_rf), z16⟩
  · unfold D_root
    rw [if_pos hle]
    simp only [raise_no (k := 2 * f_greater k q - q) hy (by rw [e1]; exact h)]
  · unfold F_root
    simp only [hN, ey, eq, ek, hle, f2, z16, h5, ↓reduceIte, show ¬ (1 : Int32) = 0 by decide]
theorem root_neg {μ : MS} {y : Int64} {q k : Int32} (hN : F_numbers μ 1 = (1, μ)) (ey : μ.2.2.2 2 (μ.1 5 - 1).toNatClampNeg = y) (hy0 : y.toInt < 0) : D_root y q k = .inl "java/lang/ArithmeticException" ∧ F_root μ = (0, si μ 16 4) := by
  have hle : ¬ (0 : Int64) ≤ y := by rw [Int64.le_iff_toInt_le]; have : (0 : Int64).toInt = 0 := rfl; omega
  constructor
  · unfold D_root; rw [if_neg hle]
  · unfold F_root
    simp only [hN, ey, hle, ↓reduceIte, show ¬ (1 : Int32) = 0 by decide]
