theorem l_bm {z : Int} (h1 : -9223372036854775808 ≤ z) (h2 : z < 9223372036854775808) : z.bmod (2 ^ 64) = z := by
  rw [Int.bmod_def]; omega
theorem l_addE {a b : Int64} {x y : Int} (ha : a.toInt = x) (hb : b.toInt = y) (h1 : -9223372036854775808 ≤ x + y) (h2 : x + y < 9223372036854775808) : (a + b).toInt = x + y := by
  subst ha; subst hb; rw [Int64.toInt_add]; exact l_bm h1 h2
theorem l_subE {a b : Int64} {x y : Int} (ha : a.toInt = x) (hb : b.toInt = y) (h1 : -9223372036854775808 ≤ x - y) (h2 : x - y < 9223372036854775808) : (a - b).toInt = x - y := by
  subst ha; subst hb; rw [Int64.toInt_sub]; exact l_bm h1 h2
theorem l_mulE {a b : Int64} {x y : Int} (ha : a.toInt = x) (hb : b.toInt = y) (h1 : -9223372036854775808 ≤ x * y) (h2 : x * y < 9223372036854775808) : (a * b).toInt = x * y := by
  subst ha; subst hb; rw [Int64.toInt_mul]; exact l_bm h1 h2
theorem l_negE {a : Int64} {x : Int} (ha : a.toInt = x) (h1 : -9223372036854775808 < x) (h2 : x < 9223372036854775808) : (-a).toInt = -x := by
  subst ha; rw [Int64.toInt_neg]; exact l_bm (by omega) (by omega)
theorem l_divE {a b : Int64} {x y : Int} (ha : a.toInt = x) (hb : b.toInt = y) (h1 : -9223372036854775808 < x) : (a / b).toInt = x.tdiv y := by
  subst ha; subst hb
  apply Int64.toInt_div_of_ne_left
  intro h; rw [h] at h1
  exact absurd h1 (by decide)
/-- a number of at most 18 digits -/
def fit (z : Int) : Prop := -999999999999999999 ≤ z ∧ z ≤ 999999999999999999
/-- so many digits behind it still fit -/
def fitN (z : Int) (n : Nat) : Prop := z.natAbs * 10 ^ n ≤ 999999999999999999
theorem fitN_0 {z : Int} : fitN z 0 ↔ fit z := by unfold fitN fit; rw [Nat.pow_zero, Nat.mul_one]; omega
theorem fitN_succ {z : Int} {n : Nat} : fitN z (n + 1) ↔ fitN (z * 10) n := by
  unfold fitN
  rw [Int.natAbs_mul, Nat.pow_succ, Nat.mul_comm (10 ^ n) 10, ← Nat.mul_assoc]
  rfl
theorem fitN_le {z : Int} {n : Nat} (h : fitN z n) : z.natAbs ≤ 999999999999999999 :=
  Nat.le_trans (Nat.le_mul_of_pos_right _ (Nat.pow_pos (by decide))) h
theorem fitN_fit {z : Int} {n : Nat} (h : fitN z n) : fit z := by have := fitN_le h; unfold fit; omega
theorem fitN_mul {z : Int} {n : Nat} : fitN z n ↔ fit (z * (10 ^ n : Nat)) := by
  unfold fitN fit
  have h : (z * (10 ^ n : Nat)).natAbs = z.natAbs * 10 ^ n := by rw [Int.natAbs_mul]; rfl
  omega
theorem z16 {τ : MS} {v : Int32} : (si τ 16 v).1 16 = v := by simp [si, upd]
theorem si_twice {τ : MS} {k : Nat} {v w : Int32} : si (si τ k v) k w = si τ k w := by
  unfold si; congr 1; funext j; unfold upd; simp only; split <;> rfl
theorem si_same {τ : MS} {k : Nat} {v : Int32} (h : τ.1 k = v) : si τ k v = τ := by
  subst h; unfold si; show (upd τ.1 k (τ.1 k), τ.2) = τ
  have : upd τ.1 k (τ.1 k) = τ.1 := by funext j; unfold upd; split <;> simp_all
  rw [this]
theorem raisedL_fault {v0 : Int64} {k0 : Int32} {τ : MS} (h : ¬ τ.1 16 = 0) : ∀ (f : Nat) (w : Int64) (j : Int32), F_raised_L6 v0 k0 (f + 1) w j τ = (w, τ) := by
  intro f w j
  simp only [F_raised_L6]
  split
  · rfl
  · rfl
theorem raisedL {v0 : Int64} {k0 : Int32} (hk : k0.toInt ≤ 100) : ∀ (n f : Nat) (w : Int64) (j : Int32) (τ : MS), τ.1 16 = 0 → 0 ≤ j.toInt → (k0.toInt - j.toInt).toNat = n → n < f → fit w.toInt →
    (fitN w.toInt n → ∃ r : Int64, F_raised_L6 v0 k0 f w j τ = (r, τ) ∧ r.toInt = w.toInt * (10 ^ n : Nat)) ∧ (¬ fitN w.toInt n → ∃ r : Int64, F_raised_L6 v0 k0 f w j τ = (r, si τ 16 5)) := by
  intro n
  induction n with
  | zero =>
    intro f w j τ h16 hj hn hf hw
    obtain ⟨f, rfl⟩ : ∃ g, f = g + 1 := ⟨f - 1, by omega⟩
    have hle : k0 ≤ j := by rw [Int32.le_iff_toInt_le]; omega
    refine ⟨fun _ => ⟨w, ?_, by simp⟩, fun h => absurd (fitN_0.mpr hw) h⟩
    simp only [F_raised_L6, hle, ↓reduceIte]
  | succ n ih =>
    intro f w j τ h16 hj hn hf hw
    obtain ⟨f, rfl⟩ : ∃ g, f = g + 1 := ⟨f - 1, by omega⟩
    have hle : ¬ k0 ≤ j := by rw [Int32.le_iff_toInt_le]; omega
    have ej : (j + 1).toInt = j.toInt + 1 := i_addE rfl (show (1 : Int32).toInt = 1 from rfl) (by omega) (by omega)
    have z1 : (99999999999999999 : Int64).toInt = 99999999999999999 := by decide
    have z2 : (-99999999999999999 : Int64).toInt = -99999999999999999 := by decide
    have z3 : (10 : Int64).toInt = 10 := by decide
    obtain ⟨g, rfl⟩ : ∃ g, f = g + 1 := ⟨f - 1, by omega⟩
    unfold fit at hw
    by_cases c1 : (99999999999999999 : Int64) < w
    · have c1' := c1; rw [Int64.lt_iff_toInt_lt, z1] at c1'
      refine ⟨fun h => ?_, fun _ => ⟨w, ?_⟩⟩
      · have := fitN_le (fitN_succ.mp h); omega
      · rw [F_raised_L6]; simp only [hle, h16, c1, ↓reduceIte]
        exact raisedL_fault (by rw [z16]; decide) _ _ _
    · by_cases c2 : (-99999999999999999 : Int64) ≤ w
      · have c1' := c1; rw [Int64.lt_iff_toInt_lt, z1] at c1'
        have c2' := c2; rw [Int64.le_iff_toInt_le, z2] at c2'
        have ew : (w * 10).toInt = w.toInt * 10 := l_mulE rfl z3 (by omega) (by omega)
        obtain ⟨h1, h2⟩ := ih (g + 1) (w * 10) (j + 1) τ h16 (by omega) (by omega) (by omega) (by rw [ew]; unfold fit; omega)
        refine ⟨fun h => ?_, fun h => ?_⟩
        · obtain ⟨r, e1, e2⟩ := h1 (by rw [ew]; exact fitN_succ.mp h)
          refine ⟨r, by rw [F_raised_L6]; simp only [hle, h16, c1, c2, ↓reduceIte]; exact e1, ?_⟩
          rw [e2, ew, Nat.pow_succ, Nat.mul_comm (10 ^ n) 10, Int.mul_assoc]
          rfl
        · obtain ⟨r, e1⟩ := h2 (by rw [ew]; exact fun h9 => h (fitN_succ.mpr h9))
          exact ⟨r, by rw [F_raised_L6]; simp only [hle, h16, c1, c2, ↓reduceIte]; exact e1⟩
      · have c2' := c2; rw [Int64.le_iff_toInt_le, z2] at c2'
        refine ⟨fun h => ?_, fun _ => ⟨w, ?_⟩⟩
        · have := fitN_le (fitN_succ.mp h); omega
        · rw [F_raised_L6]; simp only [hle, h16, c1, c2, ↓reduceIte]
          exact raisedL_fault (by rw [z16]; decide) _ _ _
theorem raised_ok {τ : MS} {v : Int64} {k : Int32} (h16 : τ.1 16 = 0) (hk : k.toInt ≤ 100) (hv : fit v.toInt) (h : fitN v.toInt k.toInt.toNat) : ∃ r : Int64, F_raised τ v k = (r, τ) ∧ r.toInt = v.toInt * (10 ^ k.toInt.toNat : Nat) := by
  have z0 : (0 : Int32).toInt = 0 := rfl
  exact (raisedL (v0 := v) hk k.toInt.toNat _ v 0 τ h16 (by decide) (by omega) (by omega) hv).1 h
theorem raised_no {τ : MS} {v : Int64} {k : Int32} (h16 : τ.1 16 = 0) (hk : k.toInt ≤ 100) (hv : fit v.toInt) (h : ¬ fitN v.toInt k.toInt.toNat) : ∃ r : Int64, F_raised τ v k = (r, si τ 16 5) := by
  have z0 : (0 : Int32).toInt = 0 := rfl
  exact (raisedL (v0 := v) hk k.toInt.toNat _ v 0 τ h16 (by decide) (by omega) (by omega) hv).2 h
theorem raised_fault {τ : MS} {v : Int64} {k : Int32} (h : ¬ τ.1 16 = 0) : F_raised τ v k = (v, τ) := raisedL_fault h _ _ _
theorem abs64 {a : Int64} (h : fit a.toInt ∨ (0 < a.toInt)) : (if 0 < a then a else -a).toInt = a.toInt.natAbs := by
  have z0 : (0 : Int64).toInt = 0 := rfl
  have hb := Int64.toInt_lt a
  unfold fit at h
  split
  · rename_i c; rw [Int64.lt_iff_toInt_lt] at c; omega
  · rename_i c; rw [Int64.lt_iff_toInt_lt] at c
    rw [l_negE rfl (by omega) (by omega)]; omega
theorem le_div64 {x b : Int64} {a c : Nat} (hx : x.toInt = a) (hb : b.toInt = c) (hc : 0 < c) : x ≤ 999999999999999999 / b ↔ a * c ≤ 999999999999999999 := by
  have z : (999999999999999999 : Int64).toInt = 999999999999999999 := by decide
  rw [Int64.le_iff_toInt_le, hx, l_divE z hb (by decide), show (999999999999999999 : Int) = ((999999999999999999 : Nat) : Int) from rfl, ← Int.ofNat_tdiv]
  rw [Int.ofNat_le]
  exact Nat.le_div_iff_mul_le hc
theorem D_times_ok {a b : Int64} (ha : fit a.toInt) (hb : fit b.toInt ∨ 0 < b.toInt) (h : fit (a.toInt * b.toInt)) : D_times a b = .inr (a * b) ∧ (a * b).toInt = a.toInt * b.toInt := by
  have h9 := h
  unfold fit at h9
  refine ⟨?_, l_mulE rfl rfl (by omega) (by omega)⟩
  unfold D_times
  split
  · rfl
  · rename_i hb0
    have hb1 : b.toInt ≠ 0 := fun e => hb0 (Int64.toInt_inj.mp (by rw [e]; rfl))
    rw [if_pos]
    rw [le_div64 (abs64 (Or.inl ha)) (abs64 hb) (by omega)]
    have : (a.toInt * b.toInt).natAbs = a.toInt.natAbs * b.toInt.natAbs := Int.natAbs_mul _ _
    omega
theorem D_times_no {a b : Int64} (ha : fit a.toInt) (hb : fit b.toInt ∨ 0 < b.toInt) (h : ¬ fit (a.toInt * b.toInt)) : D_times a b = .inl "java/lang/UnsupportedOperationException" := by
  unfold D_times
  have hb1 : b.toInt ≠ 0 := fun e => h (by rw [e, Int.mul_zero]; unfold fit; omega)
  rw [if_neg (fun e => hb1 (by rw [e]; rfl)), if_neg]
  rw [le_div64 (abs64 (Or.inl ha)) (abs64 hb) (by omega)]
  have : (a.toInt * b.toInt).natAbs = a.toInt.natAbs * b.toInt.natAbs := Int.natAbs_mul _ _
  unfold fit at h
  omega
theorem p10_toInt {j : Nat} (h : j ≤ 18) : (p10 j).toInt = (10 ^ j : Nat) := by
  unfold p10
  exact Int64.toInt_ofNat_of_lt (Nat.lt_of_le_of_lt (Nat.pow_le_pow_right (by decide) h) (by decide))
theorem pow_clamp {k : Int32} : (if (19 - 1 : Int32) < (if k < (0 : Int32) then (0 : Int32) else k) then (19 - 1 : Int32) else (if k < (0 : Int32) then (0 : Int32) else k)).toNatClampNeg = min k.toInt.toNat 18 := by
  have z0 : (0 : Int32).toInt = 0 := rfl
  have z18 : (19 - 1 : Int32).toInt = 18 := by decide
  rw [← Int32.toNat_toInt]
  by_cases c : k < 0
  · have c' := c; rw [Int32.lt_iff_toInt_lt] at c'
    simp only [c, ↓reduceIte]
    rw [if_neg (by decide)]
    omega
  · have c' := c; rw [Int32.lt_iff_toInt_lt] at c'
    simp only [c, ↓reduceIte]
    by_cases d : (19 - 1 : Int32) < k
    · have d' := d; rw [Int32.lt_iff_toInt_lt] at d'
      rw [if_pos d]; omega
    · have d' := d; rw [Int32.lt_iff_toInt_lt] at d'
      rw [if_neg d]; omega
theorem D_pow {k : Int32} : D_powerOfTen k = .inr (p10 (min k.toInt.toNat 18)) := by
  unfold D_powerOfTen; rw [pow_clamp]
theorem fit_18 {v : Int} {n : Nat} (hn : 18 ≤ n) : fitN v n ↔ v = 0 := by
  constructor
  · intro h
    unfold fitN at h
    have h1 : 10 ^ 18 ≤ 10 ^ n := Nat.pow_le_pow_right (by decide) hn
    have h2 : v.natAbs * 10 ^ 18 ≤ v.natAbs * 10 ^ n := Nat.mul_le_mul_left _ h1
    have h3 : v.natAbs * 1000000000000000000 ≤ 999999999999999999 := Nat.le_trans h2 h
    omega
  · intro h; subst h; unfold fitN; simp
theorem raise_ok {v : Int64} {k : Int32} (hv : fit v.toInt) (h : fitN v.toInt k.toInt.toNat) : ∃ r : Int64, D_raise v k = .inr r ∧ r.toInt = v.toInt * (10 ^ k.toInt.toNat : Nat) := by
  have hp : (p10 (min k.toInt.toNat 18)).toInt = (10 ^ (min k.toInt.toNat 18) : Nat) := p10_toInt (Nat.min_le_right _ _)
  have hpos : 0 < (p10 (min k.toInt.toNat 18)).toInt := by rw [hp]; exact Int.ofNat_lt.mpr (Nat.pow_pos (by decide))
  have e : v.toInt * (10 ^ (min k.toInt.toNat 18) : Nat) = v.toInt * (10 ^ k.toInt.toNat : Nat) := by
    by_cases c : k.toInt.toNat ≤ 18
    · rw [Nat.min_eq_left c]
    · have : v.toInt = 0 := (fit_18 (by omega)).mp h
      rw [this]; simp
  obtain ⟨h1, h2⟩ := D_times_ok (b := p10 (min k.toInt.toNat 18)) hv (Or.inr hpos) (by rw [hp, e]; exact fitN_mul.mp h)
  refine ⟨v * p10 (min k.toInt.toNat 18), ?_, by rw [h2, hp, e]⟩
  unfold D_raise
  simp only [D_pow, h1]
theorem raise_no {v : Int64} {k : Int32} (hv : fit v.toInt) (h : ¬ fitN v.toInt k.toInt.toNat) : D_raise v k = .inl "java/lang/UnsupportedOperationException" := by
  have hp : (p10 (min k.toInt.toNat 18)).toInt = (10 ^ (min k.toInt.toNat 18) : Nat) := p10_toInt (Nat.min_le_right _ _)
  have hpos : 0 < (p10 (min k.toInt.toNat 18)).toInt := by rw [hp]; exact Int.ofNat_lt.mpr (Nat.pow_pos (by decide))
  have h1 := D_times_no (b := p10 (min k.toInt.toNat 18)) hv (Or.inr hpos) (by
    rw [hp]
    intro h9
    have h8 := fitN_mul.mpr h9
    by_cases c : k.toInt.toNat ≤ 18
    · rw [Nat.min_eq_left c] at h8; exact h h8
    · rw [Nat.min_eq_right (by omega)] at h8
      have : v.toInt = 0 := (fit_18 (by omega)).mp h8
      exact h (by rw [this]; unfold fitN; simp))
  unfold D_raise
  simp only [D_pow, h1]
theorem product_ok {τ : MS} {v w : Int64} (hv : fit v.toInt) (hw : fit w.toInt) (h : fit (v.toInt * w.toInt)) : F_product τ v w = (v * w, τ) := by
  have z0 : (0 : Int64).toInt = 0 := rfl
  have hn : (v.toInt * w.toInt).natAbs = v.toInt.natAbs * w.toInt.natAbs := Int.natAbs_mul _ _
  unfold fit at h hv hw
  have e1 : (-v).toInt = -v.toInt := l_negE rfl (by omega) (by omega)
  have e2 : (-w).toInt = -w.toInt := l_negE rfl (by omega) (by omega)
  unfold F_product
  repeat' split
  all_goals first
    | rfl
    | (exfalso
       rename_i c1 c2 c3 c4
       rw [Int64.le_iff_toInt_le] at c1 c2 c3
       apply c4
       first
         | (rw [le_div64 (a := w.toInt.natAbs) (c := v.toInt.natAbs) (by omega) (by omega) (by omega), Nat.mul_comm]; omega)
         | (rw [le_div64 (a := w.toInt.natAbs) (c := v.toInt.natAbs) (by rw [e2]; omega) (by omega) (by omega), Nat.mul_comm]; omega)
         | (rw [le_div64 (a := w.toInt.natAbs) (c := v.toInt.natAbs) (by omega) (by rw [e1]; omega) (by omega), Nat.mul_comm]; omega)
         | (rw [le_div64 (a := w.toInt.natAbs) (c := v.toInt.natAbs) (by rw [e2]; omega) (by rw [e1]; omega) (by omega), Nat.mul_comm]; omega))
theorem product_no {τ : MS} {v w : Int64} (hv : fit v.toInt) (hw : fit w.toInt) (h : ¬ fit (v.toInt * w.toInt)) : F_product τ v w = (0, si τ 16 5) := by
  have z0 : (0 : Int64).toInt = 0 := rfl
  have hn : (v.toInt * w.toInt).natAbs = v.toInt.natAbs * w.toInt.natAbs := Int.natAbs_mul _ _
  have hv0 : v.toInt ≠ 0 := fun e => h (by rw [e, Int.zero_mul]; unfold fit; omega)
  unfold fit at h hv hw
  have e1 : (-v).toInt = -v.toInt := l_negE rfl (by omega) (by omega)
  have e2 : (-w).toInt = -w.toInt := l_negE rfl (by omega) (by omega)
  unfold F_product
  repeat' split
  all_goals first
    | rfl
    | (exfalso
       rename_i c1 c2 c3 c4
       rw [Int64.le_iff_toInt_le] at c1 c2 c3
       first
         | (rw [le_div64 (a := w.toInt.natAbs) (c := v.toInt.natAbs) (by omega) (by omega) (by omega), Nat.mul_comm] at c4; omega)
         | (rw [le_div64 (a := w.toInt.natAbs) (c := v.toInt.natAbs) (by rw [e2]; omega) (by omega) (by omega), Nat.mul_comm] at c4; omega)
         | (rw [le_div64 (a := w.toInt.natAbs) (c := v.toInt.natAbs) (by omega) (by rw [e1]; omega) (by omega), Nat.mul_comm] at c4; omega)
         | (rw [le_div64 (a := w.toInt.natAbs) (c := v.toInt.natAbs) (by rw [e2]; omega) (by rw [e1]; omega) (by omega), Nat.mul_comm] at c4; omega))
    | (exfalso
       rename_i c1 c2 c3
       rw [Int64.le_iff_toInt_le] at c1 c2 c3
       omega)
