theorem cmp_ok {μ : MS} {x y : Int64} {p q : Int32} (h16 : μ.1 16 = 0) (ex : μ.2.2.2 2 (μ.1 5 - 2).toNatClampNeg = x) (ey : μ.2.2.2 2 (μ.1 5 - 1).toNatClampNeg = y) (ep : μ.2.2.1 3 (μ.1 5 - 2).toNatClampNeg = p) (eq : μ.2.2.1 3 (μ.1 5 - 1).toNatClampNeg = q) (hx : fit x.toInt) (hy : fit y.toInt) (hp : pls p) (hq : pls q) :
    (fitN x.toInt (max p.toInt q.toInt - p.toInt).toNat ∧ fitN y.toInt (max p.toInt q.toInt - q.toInt).toNat → ∃ (o : Int32) (v : Int64) (μ' : MS), D_order y q x p = .inr o ∧ F_compared μ = (1, μ') ∧ sfm μ μ' ∧ μ'.1 16 = 0 ∧ μ'.2.1 = v ∧ (o < 0 ↔ 0 < v) ∧ (0 < o ↔ v < 0) ∧ (o = 0 ↔ v = 0)) ∧
    (¬ (fitN x.toInt (max p.toInt q.toInt - p.toInt).toNat ∧ fitN y.toInt (max p.toInt q.toInt - q.toInt).toNat) → ∃ μ' : MS, D_order y q x p = .inl "java/lang/UnsupportedOperationException" ∧ F_compared μ = (0, μ') ∧ noC μ μ' 5) := by
  unfold pls at hp hq
  have eg := greater_toInt (p := q) (q := p)
  have eg2 := mx_toInt (p := q) (q := p)
  have e1 : (f_greater q p - p).toInt = max p.toInt q.toInt - p.toInt := by rw [sub_toInt (by omega) (by omega), eg]; omega
  have e2 : (f_greater q p - q).toInt = max p.toInt q.toInt - q.toInt := by rw [sub_toInt (by omega) (by omega), eg]; omega
  have d1 : ((if q < p then p else q) - p).toInt = max p.toInt q.toInt - p.toInt := by rw [sub_toInt (by omega) (by omega), eg2]; omega
  have d2 : ((if q < p then p else q) - q).toInt = max p.toInt q.toInt - q.toInt := by rw [sub_toInt (by omega) (by omega), eg2]; omega
  have eS : si μ 16 (μ.1 16) = μ := si_same rfl
  have eS0 : si μ 16 0 = μ := si_same h16
  have h5 : ¬ (5 : Int32) = 0 := by decide
  unfold F_compared
  by_cases h1 : fitN x.toInt (max p.toInt q.toInt - p.toInt).toNat
  · obtain ⟨r1, f1, g1⟩ := raised_ok (k := f_greater q p - p) h16 (by omega) hx (by rw [e1]; exact h1)
    obtain ⟨t1, k1, l1⟩ := raise_ok (k := (if q < p then p else q) - p) hx (by rw [d1]; exact h1)
    have et : t1 = r1 := Int64.toInt_inj.mp (by rw [g1, l1, e1, d1])
    subst et
    by_cases h2 : fitN y.toInt (max p.toInt q.toInt - q.toInt).toNat
    · obtain ⟨r2, f2, g2⟩ := raised_ok (k := f_greater q p - q) h16 (by omega) hy (by rw [e2]; exact h2)
      obtain ⟨t2, k2, l2⟩ := raise_ok (k := (if q < p then p else q) - q) hy (by rw [d2]; exact h2)
      have et : t2 = r2 := Int64.toInt_inj.mp (by rw [g2, l2, e2, d2])
      subst et
      refine ⟨fun _ => ?_, fun h => absurd ⟨h1, h2⟩ h⟩
      have hD : D_order y q x p = .inr (J_compare t2 t1) := by unfold D_order; simp only [k1, k2]
      rw [hD]
      simp only [ex, ey, ep, eq, f1, h16, eS0, f2, ↓reduceIte]
      unfold J_compare
      by_cases c1 : t1 ≤ t2
      · by_cases c2 : t2 ≤ t1
        · have e : t2 = t1 := Int64.toInt_inj.mp (by rw [Int64.le_iff_toInt_le] at c1 c2; omega)
          exact ⟨0, 0, sm μ 0, by rw [if_pos c1, if_pos e], by simp only [c1, c2, ↓reduceIte], sfm_sm sfm_rf, h16, rfl, by decide, by decide, by decide⟩
        · have hne : ¬ t2 = t1 := fun e => c2 (by rw [e]; exact Int64.le_refl _)
          exact ⟨1, -1, sm μ (-1), by rw [if_pos c1, if_neg hne], by simp only [c1, c2, ↓reduceIte], sfm_sm sfm_rf, h16, rfl, by decide, by decide, by decide⟩
      · exact ⟨-1, 1, sm μ 1, by rw [if_neg c1], by simp only [c1, ↓reduceIte], sfm_sm sfm_rf, h16, rfl, by decide, by decide, by decide⟩
    · refine ⟨fun h => absurd h.2 h2, fun _ => ?_⟩
      obtain ⟨r2, f2⟩ := raised_no (k := f_greater q p - q) h16 (by omega) hy (by rw [e2]; exact h2)
      have hD : D_order y q x p = .inl "java/lang/UnsupportedOperationException" := by unfold D_order; simp only [raise_no (k := (if q < p then p else q) - q) hy (by rw [d2]; exact h2)]
      rw [hD]
      simp only [ex, ey, ep, eq, f1, h16, eS0, f2, z16, h5, ↓reduceIte]
      by_cases c1 : t1 ≤ r2
      · by_cases c2 : r2 ≤ t1
        · exact ⟨sm (si μ 16 5) 0, trivial, by simp only [c1, c2, ↓reduceIte], sfm_sm (sfm_si16 sfm_rf), by simp [sm, si, upd]⟩
        · exact ⟨sm (si μ 16 5) (-1), trivial, by simp only [c1, c2, ↓reduceIte], sfm_sm (sfm_si16 sfm_rf), by simp [sm, si, upd]⟩
      · exact ⟨sm (si μ 16 5) 1, trivial, by simp only [c1, ↓reduceIte], sfm_sm (sfm_si16 sfm_rf), by simp [sm, si, upd]⟩
  · refine ⟨fun h => absurd h.1 h1, fun _ => ?_⟩
    obtain ⟨r1, f1⟩ := raised_no (k := f_greater q p - p) h16 (by omega) hx (by rw [e1]; exact h1)
    have f2 := raised_fault (τ := si μ 16 5) (v := y) (k := f_greater q p - q) (by rw [z16]; decide)
    have hD : D_order y q x p = .inl "java/lang/UnsupportedOperationException" := by
      unfold D_order
      by_cases h2 : fitN y.toInt (max p.toInt q.toInt - q.toInt).toNat
      · obtain ⟨t2, k2, l2⟩ := raise_ok (k := (if q < p then p else q) - q) hy (by rw [d2]; exact h2)
        simp only [k2, raise_no (k := (if q < p then p else q) - p) hx (by rw [d1]; exact h1)]
      · simp only [raise_no (k := (if q < p then p else q) - q) hy (by rw [d2]; exact h2)]
    rw [hD]
    simp only [ex, ey, ep, eq, f1, z16, f2, h5, si_twice, ↓reduceIte]
    by_cases c1 : r1 ≤ y
    · by_cases c2 : y ≤ r1
      · exact ⟨sm (si μ 16 5) 0, trivial, by simp only [c1, c2, ↓reduceIte], sfm_sm (sfm_si16 sfm_rf), by simp [sm, si, upd]⟩
      · exact ⟨sm (si μ 16 5) (-1), trivial, by simp only [c1, c2, ↓reduceIte], sfm_sm (sfm_si16 sfm_rf), by simp [sm, si, upd]⟩
    · exact ⟨sm (si μ 16 5) 1, trivial, by simp only [c1, ↓reduceIte], sfm_sm (sfm_si16 sfm_rf), by simp [sm, si, upd]⟩
/-! the relation between the class's state and the reference's -/
/-- a slot's item: a number, or a text that is a part of a row -/
def itk (σ : XS) (row : Option Nat) (st : Int32) (v : Int64) (p : Int32) (lt : Nat → Int32) : Prop :=
  (row = none ∧ pls p ∧ fit v.toInt) ∨ ∃ n, row = some n ∧ p = -1 ∧ xv σ n ∧ 0 ≤ st.toInt ∧ 0 ≤ v.toInt ∧ v.toInt ≤ 160 ∧ st.toInt + v.toInt ≤ (σ.1 n).toInt ∧ ∀ j : Nat, (j : Int) < v.toInt → σ.2.1 (n + 1) (st.toInt.toNat + j) = lt j
def itm (σ : XS) (c i : Nat) (μ : MS) (k : Nat) : Prop :=
  σ.2.2.1 (c + 1) i = μ.2.2.2 2 k ∧ σ.2.1 (c + 2) i = μ.2.2.1 3 k ∧ itk σ (σ.2.2.2.1 (c + 3) i) (σ.2.1 (c + 4) i) (σ.2.2.1 (c + 1) i) (σ.2.1 (c + 2) i) (fun j => μ.2.2.1 4 (160 * k + j))
def shr (σ : XS) (c : Nat) (μ : MS) (cnt : Int32) (base : Nat) : Prop :=
  σ.1 c = cnt ∧ 0 ≤ cnt.toInt ∧ cnt.toInt ≤ xlen c ∧ ∀ i : Nat, (i : Int) < cnt.toInt → itm σ c i μ (base + i)
def prn (σ : XS) (μ : MS) : Prop := σ.1 31 = μ.1 14 ∧ 0 ≤ (μ.1 14).toInt ∧ (μ.1 14).toInt ≤ 40 ∧ ∀ i : Nat, (i : Int) < (μ.1 14).toInt → σ.2.2.1 32 i = μ.2.2.2 12 i ∧ σ.2.1 33 i = μ.2.2.1 13 i
def ST (σ : XS) (μ : MS) : Prop := shr σ 6 μ (μ.1 5) 0 ∧ (∀ r : Nat, r < 4 → shr σ (11 + 5 * r) μ (μ.2.2.1 7 r) (40 + 10 * r)) ∧ prn σ μ ∧ σ.1 0 = μ.1 6 ∧ pls (μ.1 6)
/-- every row's characters are 1 .. 127 -/
def rok (σ : XS) : Prop := ∀ n, xv σ n → 0 ≤ (σ.1 n).toInt ∧ (σ.1 n).toInt ≤ 160 ∧ ∀ j : Nat, (j : Int) < (σ.1 n).toInt → 0 < (σ.2.1 (n + 1) j).toInt ∧ (σ.2.1 (n + 1) j).toInt ≤ 127
def prg (σ : XS) (μ : MS) : Prop := σ.1 σ.2.2.2.2.1 = μ.1 1 ∧ ∀ j : Nat, (j : Int) < (μ.1 1).toInt → σ.2.1 (σ.2.2.2.2.1 + 1) j = μ.2.2.1 0 j
/-- the rows stay -/
def rs (σ τ : XS) : Prop := τ.2.2.2.2 = σ.2.2.2.2 ∧ ∀ n, 36 ≤ n → τ.1 n = σ.1 n ∧ τ.2.1 n = σ.2.1 n
/-- a shelf stays -/
def shq (σ τ : XS) (c : Nat) : Prop := τ.1 c = σ.1 c ∧ τ.2.2.1 (c + 1) = σ.2.2.1 (c + 1) ∧ τ.2.1 (c + 2) = σ.2.1 (c + 2) ∧ τ.2.2.2.1 (c + 3) = σ.2.2.2.1 (c + 3) ∧ τ.2.1 (c + 4) = σ.2.1 (c + 4)
def msame (μ ν : MS) (k : Nat) : Prop := ν.2.2.2 2 k = μ.2.2.2 2 k ∧ ν.2.2.1 3 k = μ.2.2.1 3 k ∧ ∀ j : Nat, j < 160 → ν.2.2.1 4 (160 * k + j) = μ.2.2.1 4 (160 * k + j)
theorem rs.rf {σ : XS} : rs σ σ := ⟨rfl, fun _ _ => ⟨rfl, rfl⟩⟩
theorem rs.tr {σ τ υ : XS} (h : rs σ τ) (h2 : rs τ υ) : rs σ υ := ⟨h2.1.trans h.1, fun n hn => ⟨(h2.2 n hn).1.trans (h.2 n hn).1, (h2.2 n hn).2.trans (h.2 n hn).2⟩⟩
theorem shq.rf {σ : XS} {c : Nat} : shq σ σ c := ⟨rfl, rfl, rfl, rfl, rfl⟩
theorem shq.tr {σ τ υ : XS} {c : Nat} (h : shq σ τ c) (h2 : shq τ υ c) : shq σ υ c := ⟨h2.1.trans h.1, h2.2.1.trans h.2.1, h2.2.2.1.trans h.2.2.1, h2.2.2.2.1.trans h.2.2.2.1, h2.2.2.2.2.trans h.2.2.2.2⟩
theorem msame.rf {μ : MS} {k : Nat} : msame μ μ k := ⟨rfl, rfl, fun _ _ => rfl⟩
theorem rs_v {σ τ : XS} (h : rs σ τ) {n : Nat} (hv : xv σ n) : xv τ n := xv_same (by rw [h.1]) hv
theorem rs_v' {σ τ : XS} (h : rs σ τ) {n : Nat} (hv : xv τ n) : xv σ n := xv_same (by rw [h.1]) hv
theorem rok_rs {σ τ : XS} (h : rs σ τ) (hr : rok σ) : rok τ := by
  intro n hn
  have h36 := hn.1
  obtain ⟨a, b, c⟩ := hr n (rs_v' h hn)
  rw [(h.2 n h36).1, (h.2 (n + 1) (by omega)).2]
  exact ⟨a, b, c⟩
theorem itk_rs {σ τ : XS} (h : rs σ τ) {row : Option Nat} {st : Int32} {v : Int64} {p : Int32} {lt lt' : Nat → Int32} (hl : ∀ j : Nat, j < 160 → lt' j = lt j) (hi : itk σ row st v p lt) : itk τ row st v p lt' := by
  rcases hi with h1 | ⟨n, h1, h2, h3, h4, h5, h6, h7, h8⟩
  · exact Or.inl h1
  · have h36 := h3.1
    refine Or.inr ⟨n, h1, h2, rs_v h h3, h4, h5, h6, by rw [(h.2 n h36).1]; exact h7, fun j hj => ?_⟩
    rw [(h.2 (n + 1) (by omega)).2, hl j (by omega)]; exact h8 j hj
theorem itm_keep {σ τ : XS} {μ ν : MS} {c i k : Nat} (h : rs σ τ) (hq : shq σ τ c) (hm : msame μ ν k) (hi : itm σ c i μ k) : itm τ c i ν k := by
  obtain ⟨h1, h2, h3⟩ := hi
  obtain ⟨-, q1, q2, q3, q4⟩ := hq
  obtain ⟨m1, m2, m3⟩ := hm
  refine ⟨by rw [q1, m1]; exact h1, by rw [q2, m2]; exact h2, ?_⟩
  rw [q1, q2, q3, q4]
  exact itk_rs h (fun j hj => m3 j hj) h3
theorem shr_keep {σ τ : XS} {μ ν : MS} {c base : Nat} {cnt : Int32} (h : rs σ τ) (hq : shq σ τ c) (hm : ∀ i : Nat, (i : Int) < cnt.toInt → msame μ ν (base + i)) (hs : shr σ c μ cnt base) : shr τ c ν cnt base := by
  obtain ⟨h1, h2, h3, h4⟩ := hs
  exact ⟨hq.1.trans h1, h2, h3, fun i hi => itm_keep h hq (hm i hi) (h4 i hi)⟩
/-- fewer items -/
theorem shr_less {σ τ : XS} {μ ν : MS} {c base : Nat} {cnt cnt' : Int32} (h : rs σ τ) (hc : τ.1 c = cnt') (hq : τ.2.2.1 (c + 1) = σ.2.2.1 (c + 1) ∧ τ.2.1 (c + 2) = σ.2.1 (c + 2) ∧ τ.2.2.2.1 (c + 3) = σ.2.2.2.1 (c + 3) ∧ τ.2.1 (c + 4) = σ.2.1 (c + 4)) (h0 : 0 ≤ cnt'.toInt) (hle : cnt'.toInt ≤ cnt.toInt) (hm : ∀ i : Nat, (i : Int) < cnt'.toInt → msame μ ν (base + i)) (hs : shr σ c μ cnt base) : shr τ c ν cnt' base := by
  obtain ⟨h1, h2, h3, h4⟩ := hs
  refine ⟨hc, h0, by omega, fun i hi => ?_⟩
  obtain ⟨a1, a2, a3⟩ := h4 i (by omega)
  obtain ⟨q1, q2, q3, q4⟩ := hq
  obtain ⟨m1, m2, m3⟩ := hm i hi
  refine ⟨by rw [q1, m1]; exact a1, by rw [q2, m2]; exact a2, ?_⟩
  rw [q1, q2, q3, q4]
  exact itk_rs h (fun j hj => m3 j hj) a3
/-- a shelf with an item more -/
def shput (σ : XS) (c N : Nat) (v : Int64) (p : Int32) (r : Option Nat) (s : Int32) : XS := xa (xr (xa (xb (xi σ c (σ.1 c + 1)) (c + 1) N v) (c + 2) N p) (c + 3) N r) (c + 4) N s
theorem xlen_of {c : Nat} (h : c ∈ shN) : (Int32.ofNat (xlen c)).toInt = xlen c ∧ 10 ≤ xlen c ∧ xlen c ≤ 40 := by
  rcases shN_cases h with rfl | rfl | rfl | rfl | rfl | rfl <;> exact ⟨by decide, by decide, by decide⟩
theorem put_eq {σ : XS} {c : Nat} {v : Int64} {p : Int32} {r : Option Nat} {s : Int32} (hc : c ∈ shN) (h0 : 0 ≤ (σ.1 c).toInt) (h1 : (σ.1 c).toInt < xlen c) : Xsh_put σ c v p r s = .inr (shput σ c (σ.1 c).toInt.toNat v p r s) := by
  obtain ⟨hl, hl1, hl2⟩ := xlen_of hc
  have z0 : (0 : Int32).toInt = 0 := rfl
  have e1 : (σ.1 c + 1).toInt = (σ.1 c).toInt + 1 := i_addE rfl (show (1 : Int32).toInt = 1 from rfl) (by omega) (by omega)
  have e2 : (σ.1 c + 1 - 1).toInt = (σ.1 c).toInt := by rw [i_subE e1 (show (1 : Int32).toInt = 1 from rfl) (by omega) (by omega)]; omega
  have hF : Xsh_isFull σ c = 0 := by
    unfold Xsh_isFull; rw [if_pos (by rw [Int32.lt_iff_toInt_lt, hl]; exact h1)]
  have hN : (σ.1 c + 1 - 1).toNatClampNeg = (σ.1 c).toInt.toNat := by rw [← Int32.toNat_toInt, e2]
  have hH : ¬ Xsh_has (xi σ c (σ.1 c + 1)) c (σ.1 c + 1 - 1) = 0 := by
    unfold Xsh_has
    rw [xi_1, if_neg (by rw [Int32.lt_iff_toInt_lt]; omega), if_neg (by rw [Int32.le_iff_toInt_le]; omega), if_neg (by rw [Int32.le_iff_toInt_le]; omega)]
    decide
  unfold Xsh_put
  simp only [hF, ↓reduceIte, xi_1]
  unfold Xsh_set
  simp only [hH, ↓reduceIte, hN]
  rfl
theorem put_full {σ : XS} {c : Nat} {v : Int64} {p : Int32} {r : Option Nat} {s : Int32} (hc : c ∈ shN) (h1 : ¬ (σ.1 c).toInt < xlen c) : Xsh_put σ c v p r s = .inl ("java/lang/UnsupportedOperationException", σ) := by
  obtain ⟨hl, hl1, hl2⟩ := xlen_of hc
  have hF : ¬ Xsh_isFull σ c = 0 := by
    unfold Xsh_isFull; rw [if_neg (by rw [Int32.lt_iff_toInt_lt, hl]; exact h1)]; decide
  unfold Xsh_put
  simp only [hF, ↓reduceIte]
theorem shput_rs {σ : XS} {c N : Nat} {v : Int64} {p : Int32} {r : Option Nat} {s : Int32} (hc : c ∈ shN) : rs σ (shput σ c N v p r s) := by
  have := shN_lt hc
  refine ⟨rfl, fun n hn => ⟨?_, ?_⟩⟩
  · show upd σ.1 c _ n = σ.1 n; unfold upd; rw [if_neg (by omega)]
  · simp only [shput, xa, xr, xb, xi]; rw [if_neg (by omega), if_neg (by omega)]
/-- other shelves stay -/
def apart (c d : Nat) : Prop := c + 5 ≤ d ∨ d + 5 ≤ c
theorem sh_apart {c d : Nat} (hc : c ∈ shN) (hd : d ∈ shN) (h : c ≠ d) : apart c d := by
  unfold apart
  rcases shN_cases hc with rfl | rfl | rfl | rfl | rfl | rfl <;> rcases shN_cases hd with rfl | rfl | rfl | rfl | rfl | rfl <;> omega
theorem shput_shq {σ : XS} {c d N : Nat} {v : Int64} {p : Int32} {r : Option Nat} {s : Int32} (h : apart c d) : shq σ (shput σ c N v p r s) d := by
  unfold apart at h
  refine ⟨?_, ?_, ?_, ?_, ?_⟩
  · show upd σ.1 c _ d = σ.1 d; unfold upd; rw [if_neg (by omega)]
  · simp only [shput, xa, xr, xb, xi]; rw [if_neg (by omega)]
  · simp only [shput, xa, xr, xb, xi]; rw [if_neg (by omega), if_neg (by omega)]
  · simp only [shput, xa, xr, xb, xi]; rw [if_neg (by omega)]
  · simp only [shput, xa, xr, xb, xi]; rw [if_neg (by omega), if_neg (by omega)]
theorem shput_1 {σ : XS} {c N : Nat} {v : Int64} {p : Int32} {r : Option Nat} {s : Int32} {k : Nat} (h : k ≠ c) : (shput σ c N v p r s).1 k = σ.1 k := by
  show upd σ.1 c _ k = σ.1 k; unfold upd; rw [if_neg h]
theorem shr_put {σ : XS} {μ ν : MS} {c base : Nat} {cnt : Int32} {v : Int64} {p : Int32} {r : Option Nat} {s : Int32} (hc : c ∈ shN) (hs : shr σ c μ cnt base) (h1 : cnt.toInt < xlen c) (hm : ∀ i : Nat, (i : Int) < cnt.toInt → msame μ ν (base + i)) (hv : ν.2.2.2 2 (base + cnt.toInt.toNat) = v) (hp : ν.2.2.1 3 (base + cnt.toInt.toNat) = p) (hi : itk σ r s v p (fun j => ν.2.2.1 4 (160 * (base + cnt.toInt.toNat) + j))) : shr (shput σ c cnt.toInt.toNat v p r s) c ν (cnt + 1) base := by
  obtain ⟨a1, a2, a3, a4⟩ := hs
  obtain ⟨hl, hl1, hl2⟩ := xlen_of hc
  have e1 : (cnt + 1).toInt = cnt.toInt + 1 := i_addE rfl (show (1 : Int32).toInt = 1 from rfl) (by omega) (by omega)
  have hr := shput_rs (σ := σ) (N := cnt.toInt.toNat) (v := v) (p := p) (r := r) (s := s) hc
  have w1 : (shput σ c cnt.toInt.toNat v p r s).2.2.1 (c + 1) = vp_updL (σ.2.2.1 (c + 1)) cnt.toInt.toNat v := by simp [shput, xa, xr, xb, xi]
  have w2 : (shput σ c cnt.toInt.toNat v p r s).2.1 (c + 2) = upd (σ.2.1 (c + 2)) cnt.toInt.toNat p := by simp [shput, xa, xr, xb, xi]
  have w3 : (shput σ c cnt.toInt.toNat v p r s).2.2.2.1 (c + 3) = va_up (σ.2.2.2.1 (c + 3)) cnt.toInt.toNat r := by simp [shput, xa, xr, xb, xi]
  have w4 : (shput σ c cnt.toInt.toNat v p r s).2.1 (c + 4) = upd (σ.2.1 (c + 4)) cnt.toInt.toNat s := by simp [shput, xa, xr, xb, xi]
  refine ⟨?_, by omega, by omega, fun i hi9 => ?_⟩
  · show upd σ.1 c (σ.1 c + 1) c = cnt + 1; unfold upd; rw [if_pos rfl, a1]
  · by_cases c9 : i = cnt.toInt.toNat
    · subst c9
      unfold itm
      rw [w1, w2, w3, w4]
      simp only [vp_updL, upd, va_up, ↓reduceIte]
      exact ⟨hv.symm, hp.symm, itk_rs hr (fun _ _ => rfl) hi⟩
    · obtain ⟨b1, b2, b3⟩ := a4 i (by omega)
      obtain ⟨m1, m2, m3⟩ := hm i (by omega)
      unfold itm
      rw [w1, w2, w3, w4]
      simp only [vp_updL, upd, va_up, c9, ↓reduceIte]
      exact ⟨by rw [m1]; exact b1, by rw [m2]; exact b2, itk_rs hr (fun j hj => m3 j hj) b3⟩
