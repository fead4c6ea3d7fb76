theorem abs64' {a : Int64} (h : -9223372036854775808 < a.toInt) : (if 0 < a then a else -a).toInt = a.toInt.natAbs := by
  have z0 : (0 : Int64).toInt = 0 := rfl
  have hb := Int64.toInt_lt a
  split
  · rename_i c; rw [Int64.lt_iff_toInt_lt] at c; omega
  · rename_i c; rw [Int64.lt_iff_toInt_lt] at c
    rw [l_negE rfl (by omega) (by omega)]; omega
theorem fitting_ok {v : Int64} (h : fit v.toInt) : D_fitting v = .inr v := by
  have z : (999999999999999999 : Int64).toInt = 999999999999999999 := by decide
  unfold fit at h
  unfold D_fitting
  rw [if_pos]
  rw [Int64.le_iff_toInt_le, abs64' (by omega), z]; omega
theorem fitting_no {v : Int64} (h9 : -9223372036854775808 < v.toInt) (h : ¬ fit v.toInt) : D_fitting v = .inl "java/lang/UnsupportedOperationException" := by
  have z : (999999999999999999 : Int64).toInt = 999999999999999999 := by decide
  unfold fit at h
  unfold D_fitting
  rw [if_neg]
  rw [Int64.le_iff_toInt_le, abs64' (by omega), z]; omega
theorem isBig_ok {v : Int64} (h : fit v.toInt) : f_isBig v = 0 := by
  have z : (999999999999999999 : Int64).toInt = 999999999999999999 := by decide
  have z2 : (-999999999999999999 : Int64).toInt = -999999999999999999 := by decide
  unfold fit at h
  unfold f_isBig
  rw [if_neg (by rw [Int64.lt_iff_toInt_lt, z]; omega), if_pos (by rw [Int64.le_iff_toInt_le, z2]; omega)]
theorem isBig_no {v : Int64} (h : ¬ fit v.toInt) : f_isBig v = 1 := by
  have z : (999999999999999999 : Int64).toInt = 999999999999999999 := by decide
  have z2 : (-999999999999999999 : Int64).toInt = -999999999999999999 := by decide
  unfold fit at h
  unfold f_isBig
  split
  · rfl
  · rename_i c; rw [Int64.lt_iff_toInt_lt, z] at c
    rw [if_neg (by rw [Int64.le_iff_toInt_le, z2]; omega)]
/-- places of a number -/
def pls (p : Int32) : Prop := 0 ≤ p.toInt ∧ p.toInt ≤ 9
theorem greater_toInt {p q : Int32} : (f_greater p q).toInt = max p.toInt q.toInt := by
  unfold f_greater
  split
  · rename_i c; rw [Int32.le_iff_toInt_le] at c; omega
  · rename_i c; rw [Int32.le_iff_toInt_le] at c; omega
theorem mx_toInt {p q : Int32} : (if p < q then q else p).toInt = max p.toInt q.toInt := by
  split
  · rename_i c; rw [Int32.lt_iff_toInt_lt] at c; omega
  · rename_i c; rw [Int32.lt_iff_toInt_lt] at c; omega
theorem mn_toInt {p q : Int32} : (if q < p then q else p).toInt = min p.toInt q.toInt := by
  split
  · rename_i c; rw [Int32.lt_iff_toInt_lt] at c; omega
  · rename_i c; rw [Int32.lt_iff_toInt_lt] at c; omega
theorem mx_eq {p q : Int32} : (if p < q then q else p) = f_greater q p := by
  apply Int32.toInt_inj.mp; rw [mx_toInt, greater_toInt]; omega
theorem sub_toInt {g p : Int32} (hg : 0 ≤ g.toInt ∧ g.toInt ≤ 100) (hp : -100 ≤ p.toInt ∧ p.toInt ≤ 100) : (g - p).toInt = g.toInt - p.toInt := i_subE rfl rfl (by omega) (by omega)
theorem fit_mul {v : Int} {n : Nat} (h : fitN v n) : fit (v * (10 ^ n : Nat)) := fitN_mul.mp h
/-- the sum's number, where there is one -/
def sumC (x : Int) (p : Int) (y : Int) (q : Int) : Prop := fitN x (max p q - p).toNat ∧ fitN y (max p q - q).toNat ∧ fit (x * (10 ^ (max p q - p).toNat : Nat) + y * (10 ^ (max p q - q).toNat : Nat))
theorem D_sum_ok {x y : Int64} {p q : Int32} (hx : fit x.toInt) (hy : fit y.toInt) (hp : pls p) (hq : pls q) (h : sumC x.toInt p.toInt y.toInt q.toInt) : ∃ r : Int64, D_sum x p y q = .inr r ∧ r.toInt = x.toInt * (10 ^ (max p.toInt q.toInt - p.toInt).toNat : Nat) + y.toInt * (10 ^ (max p.toInt q.toInt - q.toInt).toNat : Nat) := by
  unfold pls at hp hq
  have eg := mx_toInt (p := p) (q := q)
  have e1 : ((if p < q then q else p) - p).toInt = max p.toInt q.toInt - p.toInt := by rw [sub_toInt (by omega) (by omega), eg]
  have e2 : ((if p < q then q else p) - q).toInt = max p.toInt q.toInt - q.toInt := by rw [sub_toInt (by omega) (by omega), eg]
  obtain ⟨h1, h2, h3⟩ := h
  obtain ⟨r1, f1, g1⟩ := raise_ok (k := (if p < q then q else p) - p) hx (by rw [e1]; exact h1)
  obtain ⟨r2, f2, g2⟩ := raise_ok (k := (if p < q then q else p) - q) hy (by rw [e2]; exact h2)
  rw [e1] at g1; rw [e2] at g2
  have b1 := fit_mul h1; have b2 := fit_mul h2
  rw [← g1] at b1; rw [← g2] at b2
  have b1' := b1; have b2' := b2
  unfold fit at b1' b2'
  have es : (r1 + r2).toInt = r1.toInt + r2.toInt := l_addE rfl rfl (by omega) (by omega)
  refine ⟨r1 + r2, ?_, by rw [es, g1, g2]⟩
  unfold D_sum
  simp only [f1, f2]
  rw [fitting_ok (by rw [es, g1, g2]; exact h3)]
theorem D_sum_no {x y : Int64} {p q : Int32} (hx : fit x.toInt) (hy : fit y.toInt) (hp : pls p) (hq : pls q) (h : ¬ sumC x.toInt p.toInt y.toInt q.toInt) : D_sum x p y q = .inl "java/lang/UnsupportedOperationException" := by
  unfold pls at hp hq
  have eg := mx_toInt (p := p) (q := q)
  have e1 : ((if p < q then q else p) - p).toInt = max p.toInt q.toInt - p.toInt := by rw [sub_toInt (by omega) (by omega), eg]
  have e2 : ((if p < q then q else p) - q).toInt = max p.toInt q.toInt - q.toInt := by rw [sub_toInt (by omega) (by omega), eg]
  unfold D_sum
  by_cases h1 : fitN x.toInt (max p.toInt q.toInt - p.toInt).toNat
  · obtain ⟨r1, f1, g1⟩ := raise_ok (k := (if p < q then q else p) - p) hx (by rw [e1]; exact h1)
    rw [e1] at g1
    by_cases h2 : fitN y.toInt (max p.toInt q.toInt - q.toInt).toNat
    · obtain ⟨r2, f2, g2⟩ := raise_ok (k := (if p < q then q else p) - q) hy (by rw [e2]; exact h2)
      rw [e2] at g2
      have b1 := fit_mul h1; have b2 := fit_mul h2
      rw [← g1] at b1; rw [← g2] at b2
      unfold fit at b1 b2
      have es : (r1 + r2).toInt = r1.toInt + r2.toInt := l_addE rfl rfl (by omega) (by omega)
      simp only [f1, f2]
      rw [fitting_no (by rw [es]; omega) (by rw [es, g1, g2]; exact fun h9 => h ⟨h1, h2, h9⟩)]
    · simp only [f1, raise_no (k := (if p < q then q else p) - q) hy (by rw [e2]; exact h2)]
  · simp only [raise_no (k := (if p < q then q else p) - p) hx (by rw [e1]; exact h1)]
/-- what a calculation leaves of the reference's state: its number m, its places s, its fault -/
def sfm (μ μ' : MS) : Prop := (∀ k, k ≠ 16 → k ≠ 20 → μ'.1 k = μ.1 k) ∧ μ'.2.2 = μ.2.2
theorem sfm_si16 {μ μ' : MS} {v : Int32} (h : sfm μ μ') : sfm μ (si μ' 16 v) := ⟨fun k h1 h2 => by rw [← h.1 k h1 h2]; simp [si, upd, h1], h.2⟩
theorem sfm_si20 {μ μ' : MS} {v : Int32} (h : sfm μ μ') : sfm μ (si μ' 20 v) := ⟨fun k h1 h2 => by rw [← h.1 k h1 h2]; simp [si, upd, h2], h.2⟩
theorem sfm_sm {μ μ' : MS} {v : Int64} (h : sfm μ μ') : sfm μ (sm μ' v) := ⟨fun k h1 h2 => h.1 k h1 h2, h.2⟩
theorem sfm_rf {μ : MS} : sfm μ μ := ⟨fun _ _ _ => rfl, rfl⟩
theorem si16_20 {μ : MS} {v : Int32} : (si μ 20 v).1 16 = μ.1 16 := by simp [si, upd]
theorem si20_20 {μ : MS} {v : Int32} : (si μ 20 v).1 20 = v := by simp [si, upd]
theorem si20_16' {μ : MS} {v : Int32} : (si μ 16 v).1 20 = μ.1 20 := by simp [si, upd]
def okC (μ μ' : MS) (r : Int64) (s : Int32) : Prop := sfm μ μ' ∧ μ'.1 16 = 0 ∧ μ'.2.1 = r ∧ μ'.1 20 = s
def noC (μ μ' : MS) (f : Int32) : Prop := sfm μ μ' ∧ μ'.1 16 = f
theorem F_sum_ok {μ : MS} {b : Int32} {x y : Int64} {p q : Int32} (hN : F_numbers μ 2 = (1, μ)) (h16 : μ.1 16 = 0) (ex : μ.2.2.2 2 (μ.1 5 - 2).toNatClampNeg = x) (ey : μ.2.2.2 2 (μ.1 5 - 1).toNatClampNeg = y) (ep : μ.2.2.1 3 (μ.1 5 - 2).toNatClampNeg = p) (eq : μ.2.2.1 3 (μ.1 5 - 1).toNatClampNeg = q) (hx : fit x.toInt) (hy : fit y.toInt) (hp : pls p) (hq : pls q) {y' : Int} (hb : y' = if b = 0 then y.toInt else -y.toInt) (h : sumC x.toInt p.toInt y' q.toInt) : ∃ (r : Int64) (μ' : MS), F_sum μ b = (1, μ') ∧ okC μ μ' r (f_greater q p) ∧ r.toInt = x.toInt * (10 ^ (max p.toInt q.toInt - p.toInt).toNat : Nat) + y' * (10 ^ (max p.toInt q.toInt - q.toInt).toNat : Nat) := by
  unfold pls at hp hq
  have eg := greater_toInt (p := q) (q := p)
  have e1 : (f_greater q p - p).toInt = max p.toInt q.toInt - p.toInt := by rw [sub_toInt (by omega) (by omega), eg]; omega
  have e2 : (f_greater q p - q).toInt = max p.toInt q.toInt - q.toInt := by rw [sub_toInt (by omega) (by omega), eg]; omega
  obtain ⟨h1, h2, h3⟩ := h
  have h2' : fitN y.toInt (max p.toInt q.toInt - q.toInt).toNat := by
    unfold fitN at h2 ⊢; rw [hb] at h2; split at h2
    · exact h2
    · rwa [Int.natAbs_neg] at h2
  obtain ⟨r1, f1, g1⟩ := raised_ok (τ := si μ 20 (f_greater q p)) (k := f_greater q p - p) (by rw [si16_20]; exact h16) (by omega) hx (by rw [e1]; exact h1)
  obtain ⟨r2, f2, g2⟩ := raised_ok (τ := si μ 20 (f_greater q p)) (k := f_greater q p - q) (by rw [si16_20]; exact h16) (by omega) hy (by rw [e2]; exact h2')
  rw [e1] at g1; rw [e2] at g2
  have b1 := fit_mul h1; have b2 := fit_mul h2'
  rw [← g1] at b1; rw [← g2] at b2
  unfold fit at b1 b2
  have eS : si (si μ 20 (f_greater q p)) 16 ((si μ 20 (f_greater q p)).1 16) = si μ 20 (f_greater q p) := si_same rfl
  have h16' : (si μ 20 (f_greater q p)).1 16 ≤ 0 := by rw [si16_20, h16]; decide
  unfold F_sum
  simp only [hN, ex, ey, ep, eq, f1, eS, f2, h16', ↓reduceIte, show ¬ (1 : Int32) = 0 by decide]
  by_cases hb0 : b = 0
  · rw [if_pos hb0] at hb
    have es : (r1 + r2).toInt = r1.toInt + r2.toInt := l_addE rfl rfl (by omega) (by omega)
    refine ⟨r1 + r2, sm (si μ 20 (f_greater q p)) (r1 + r2), ?_, ⟨sfm_sm (sfm_si20 sfm_rf), ?_, rfl, si20_20 (μ := μ)⟩, by rw [es, g1, g2, hb]⟩
    · rw [if_pos hb0, isBig_ok (by rw [es, g1, g2]; rw [hb] at h3; exact h3), if_pos rfl]
    · exact (si16_20 (μ := μ) (v := f_greater q p)).trans h16
  · rw [if_neg hb0] at hb
    have es : (r1 - r2).toInt = r1.toInt - r2.toInt := l_subE rfl rfl (by omega) (by omega)
    have ez : r1.toInt - r2.toInt = x.toInt * (10 ^ (max p.toInt q.toInt - p.toInt).toNat : Nat) + y' * (10 ^ (max p.toInt q.toInt - q.toInt).toNat : Nat) := by
      rw [g1, g2, hb, Int.neg_mul]; omega
    refine ⟨r1 - r2, sm (si μ 20 (f_greater q p)) (r1 - r2), ?_, ⟨sfm_sm (sfm_si20 sfm_rf), ?_, rfl, si20_20 (μ := μ)⟩, by rw [es, ez]⟩
    · rw [if_neg hb0, isBig_ok (by rw [es, ez]; exact h3), if_pos rfl]
    · exact (si16_20 (μ := μ) (v := f_greater q p)).trans h16
theorem F_sum_no {μ : MS} {b : Int32} {x y : Int64} {p q : Int32} (hN : F_numbers μ 2 = (1, μ)) (h16 : μ.1 16 = 0) (ex : μ.2.2.2 2 (μ.1 5 - 2).toNatClampNeg = x) (ey : μ.2.2.2 2 (μ.1 5 - 1).toNatClampNeg = y) (ep : μ.2.2.1 3 (μ.1 5 - 2).toNatClampNeg = p) (eq : μ.2.2.1 3 (μ.1 5 - 1).toNatClampNeg = q) (hx : fit x.toInt) (hy : fit y.toInt) (hp : pls p) (hq : pls q) {y' : Int} (hb : y' = if b = 0 then y.toInt else -y.toInt) (h : ¬ sumC x.toInt p.toInt y' q.toInt) : ∃ (μ' : MS), F_sum μ b = (0, μ') ∧ noC μ μ' 5 := by
  unfold pls at hp hq
  have eg := greater_toInt (p := q) (q := p)
  have e1 : (f_greater q p - p).toInt = max p.toInt q.toInt - p.toInt := by rw [sub_toInt (by omega) (by omega), eg]; omega
  have e2 : (f_greater q p - q).toInt = max p.toInt q.toInt - q.toInt := by rw [sub_toInt (by omega) (by omega), eg]; omega
  have hyy : fitN y' (max p.toInt q.toInt - q.toInt).toNat ↔ fitN y.toInt (max p.toInt q.toInt - q.toInt).toNat := by
    unfold fitN; rw [hb]; split
    · rfl
    · rw [Int.natAbs_neg]
  have h16' : (si μ 20 (f_greater q p)).1 16 = 0 := by rw [si16_20, h16]
  have eS : ∀ v, si (si μ 20 (f_greater q p)) 16 ((si (si μ 20 (f_greater q p)) 16 v).1 16) = si (si μ 20 (f_greater q p)) 16 v := fun v => by rw [z16]
  have eS0 : si (si μ 20 (f_greater q p)) 16 ((si μ 20 (f_greater q p)).1 16) = si μ 20 (f_greater q p) := si_same rfl
  have hn5 : ¬ (5 : Int32) ≤ 0 := by decide
  unfold F_sum
  by_cases h1 : fitN x.toInt (max p.toInt q.toInt - p.toInt).toNat
  · obtain ⟨r1, f1, g1⟩ := raised_ok (τ := si μ 20 (f_greater q p)) (k := f_greater q p - p) h16' (by omega) hx (by rw [e1]; exact h1)
    rw [e1] at g1
    by_cases h2 : fitN y.toInt (max p.toInt q.toInt - q.toInt).toNat
    · obtain ⟨r2, f2, g2⟩ := raised_ok (τ := si μ 20 (f_greater q p)) (k := f_greater q p - q) h16' (by omega) hy (by rw [e2]; exact h2)
      rw [e2] at g2
      have b1 := fit_mul h1; have b2 := fit_mul h2
      rw [← g1] at b1; rw [← g2] at b2
      unfold fit at b1 b2
      have hle : (si μ 20 (f_greater q p)).1 16 ≤ 0 := by rw [h16']; decide
      simp only [hN, ex, ey, ep, eq, f1, eS0, f2, hle, ↓reduceIte, show ¬ (1 : Int32) = 0 by decide]
      by_cases hb0 : b = 0
      · rw [if_pos hb0] at hb
        have es : (r1 + r2).toInt = r1.toInt + r2.toInt := l_addE rfl rfl (by omega) (by omega)
        refine ⟨si (sm (si μ 20 (f_greater q p)) (r1 + r2)) 16 5, ?_, ⟨sfm_si16 (sfm_sm (sfm_si20 sfm_rf)), z16⟩⟩
        rw [if_pos hb0, isBig_no (by rw [es, g1, g2]; rw [hb] at h; exact fun h9 => h ⟨h1, h2, h9⟩), if_neg (by decide)]
      · rw [if_neg hb0] at hb
        have es : (r1 - r2).toInt = r1.toInt - r2.toInt := l_subE rfl rfl (by omega) (by omega)
        have ez : r1.toInt - r2.toInt = x.toInt * (10 ^ (max p.toInt q.toInt - p.toInt).toNat : Nat) + y' * (10 ^ (max p.toInt q.toInt - q.toInt).toNat : Nat) := by
          rw [g1, g2, hb, Int.neg_mul]; omega
        refine ⟨si (sm (si μ 20 (f_greater q p)) (r1 - r2)) 16 5, ?_, ⟨sfm_si16 (sfm_sm (sfm_si20 sfm_rf)), z16⟩⟩
        rw [if_neg hb0, isBig_no (by rw [es, ez]; exact fun h9 => h ⟨h1, hyy.mpr h2, h9⟩), if_neg (by decide)]
    · obtain ⟨r2, f2⟩ := raised_no (τ := si μ 20 (f_greater q p)) (k := f_greater q p - q) h16' (by omega) hy (by rw [e2]; exact h2)
      refine ⟨si (si μ 20 (f_greater q p)) 16 5, ?_, ⟨sfm_si16 (sfm_si20 sfm_rf), z16⟩⟩
      simp only [hN, ex, ey, ep, eq, f1, eS0, f2, z16, hn5, ↓reduceIte, show ¬ (1 : Int32) = 0 by decide]
  · obtain ⟨r1, f1⟩ := raised_no (τ := si μ 20 (f_greater q p)) (k := f_greater q p - p) h16' (by omega) hx (by rw [e1]; exact h1)
    have f2 := raised_fault (τ := si (si μ 20 (f_greater q p)) 16 5) (v := y) (k := f_greater q p - q) (by rw [z16]; decide)
    refine ⟨si (si μ 20 (f_greater q p)) 16 5, ?_, ⟨sfm_si16 (sfm_si20 sfm_rf), z16⟩⟩
    simp only [hN, ex, ey, ep, eq, f1, z16, f2, hn5, si_twice, ↓reduceIte, show ¬ (1 : Int32) = 0 by decide]
