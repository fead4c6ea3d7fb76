theorem ix160 {t k : Int32} (ht : 0 ≤ t.toInt ∧ t.toInt ≤ 81) (hk : 0 ≤ k.toInt ∧ k.toInt ≤ 160) : ((160 * t) + k).toNatClampNeg = 160 * t.toInt.toNat + k.toInt.toNat := by
  have e : ((160 * t) + k).toInt = 160 * t.toInt + k.toInt := i_addE (i_mulE (show (160 : Int32).toInt = 160 from rfl) rfl (by omega) (by omega)) rfl (by omega) (by omega)
  rw [← Int32.toNat_toInt, e]; omega
theorem copyL {f t : Int32} {v : Int64} (hf : 0 ≤ f.toInt ∧ f.toInt ≤ 81) (ht : 0 ≤ t.toInt ∧ t.toInt ≤ 81) (hne : f.toInt ≠ t.toInt) (hv : 0 ≤ v.toInt ∧ v.toInt ≤ 160) : ∀ (n fu : Nat) (k : Int32) (τ : MS), τ.2.2.2 2 f.toNatClampNeg = v → ¬ (0 : Int32) ≤ τ.2.2.1 3 f.toNatClampNeg → 0 ≤ k.toInt → (v.toInt - k.toInt).toNat = n → n < fu → k.toInt ≤ v.toInt →
    (F_copy_L26 f t fu k τ).1 = τ.1 ∧ (F_copy_L26 f t fu k τ).2.1 = τ.2.1 ∧ (F_copy_L26 f t fu k τ).2.2.2 = τ.2.2.2 ∧ (∀ q, q ≠ 4 → (F_copy_L26 f t fu k τ).2.2.1 q = τ.2.2.1 q) ∧ (∀ j : Nat, k.toInt ≤ j → (j : Int) < v.toInt → (F_copy_L26 f t fu k τ).2.2.1 4 (160 * t.toInt.toNat + j) = τ.2.2.1 4 (160 * f.toInt.toNat + j)) ∧ (∀ i : Nat, (i < 160 * t.toInt.toNat ∨ 160 * t.toInt.toNat + 160 ≤ i ∨ (i : Int) < 160 * t.toInt + k.toInt) → (F_copy_L26 f t fu k τ).2.2.1 4 i = τ.2.2.1 4 i) := by
  intro n
  induction n with
  | zero =>
    intro fu k τ hv1 hp h0 hn hfu hkv
    obtain ⟨g, rfl⟩ : ∃ g, fu = g + 1 := ⟨fu - 1, by omega⟩
    have c : τ.2.2.2 2 f.toNatClampNeg ≤ k.toInt64 := by rw [hv1, Int64.le_iff_toInt_le, Int32.toInt_toInt64]; omega
    have e : F_copy_L26 f t (g + 1) k τ = τ := by simp only [F_copy_L26, c, ↓reduceIte]
    rw [e]
    exact ⟨rfl, rfl, rfl, fun _ _ => rfl, fun j h1 h2 => by omega, fun _ _ => rfl⟩
  | succ n ih =>
    intro fu k τ hv1 hp h0 hn hfu hkv
    obtain ⟨g, rfl⟩ : ∃ g, fu = g + 1 := ⟨fu - 1, by omega⟩
    have c : ¬ τ.2.2.2 2 f.toNatClampNeg ≤ k.toInt64 := by rw [hv1, Int64.le_iff_toInt_le, Int32.toInt_toInt64]; omega
    have ek : (k + 1).toInt = k.toInt + 1 := i_addE rfl (show (1 : Int32).toInt = 1 from rfl) (by omega) (by omega)
    have i1 := ix160 (t := t) (k := k) ht (by omega)
    have i2 := ix160 (t := f) (k := k) hf (by omega)
    have e : F_copy_L26 f t (g + 1) k τ = F_copy_L26 f t g (k + 1) (sa τ 4 (160 * t.toInt.toNat + k.toInt.toNat) (τ.2.2.1 4 (160 * f.toInt.toNat + k.toInt.toNat))) := by
      rw [F_copy_L26]
      simp only [c, hp, ↓reduceIte, i1, i2]
    rw [e]
    obtain ⟨a1, a2, a3, a4, a5, a6⟩ := ih g (k + 1) (sa τ 4 (160 * t.toInt.toNat + k.toInt.toNat) (τ.2.2.1 4 (160 * f.toInt.toNat + k.toInt.toNat))) hv1 (by simpa [sa] using hp) (by omega) (by omega) (by omega) (by omega)
    refine ⟨a1, a2, a3, fun q hq => by rw [a4 q hq]; simp [sa, hq], fun j h1 h2 => ?_, fun i hi => ?_⟩
    · by_cases hj : (j : Int) = k.toInt
      · rw [a6 _ (by omega)]
        have : j = k.toInt.toNat := by omega
        subst this
        simp [sa, upd]
      · rw [a5 j (by omega) h2]
        simp only [sa, ↓reduceIte, upd]
        rw [if_neg (by omega)]
    · rw [a6 i (by omega)]
      simp only [sa, ↓reduceIte, upd]
      rw [if_neg (by omega)]
/-- a slot copied -/
theorem copy_spec {μ : MS} {f t : Int32} (hf : 0 ≤ f.toInt ∧ f.toInt ≤ 81) (ht : 0 ≤ t.toInt ∧ t.toInt ≤ 81) (hne : f.toInt ≠ t.toInt) (hv : μ.2.2.1 3 f.toInt.toNat = -1 → 0 ≤ (μ.2.2.2 2 f.toInt.toNat).toInt ∧ (μ.2.2.2 2 f.toInt.toNat).toInt ≤ 160) (hp : μ.2.2.1 3 f.toInt.toNat = -1 ∨ (0 : Int32) ≤ μ.2.2.1 3 f.toInt.toNat) :
    (F_copy μ f t).1 = μ.1 ∧ (∀ q, q ≠ 2 → (F_copy μ f t).2.2.2 q = μ.2.2.2 q) ∧ (∀ q, q ≠ 3 → q ≠ 4 → (F_copy μ f t).2.2.1 q = μ.2.2.1 q) ∧ (∀ k, k ≠ t.toInt.toNat → msame μ (F_copy μ f t) k) ∧ (F_copy μ f t).2.2.2 2 t.toInt.toNat = μ.2.2.2 2 f.toInt.toNat ∧ (F_copy μ f t).2.2.1 3 t.toInt.toNat = μ.2.2.1 3 f.toInt.toNat ∧ (μ.2.2.1 3 f.toInt.toNat = -1 → ∀ j : Nat, (j : Int) < (μ.2.2.2 2 f.toInt.toNat).toInt → (F_copy μ f t).2.2.1 4 (160 * t.toInt.toNat + j) = μ.2.2.1 4 (160 * f.toInt.toNat + j)) := by
  have nf : f.toNatClampNeg = f.toInt.toNat := (Int32.toNat_toInt f).symm
  have nt : t.toNatClampNeg = t.toInt.toNat := (Int32.toNat_toInt t).symm
  have hft : f.toInt.toNat ≠ t.toInt.toNat := by omega
  have z0 : (0 : Int32).toInt = 0 := rfl
  have b1 : (sa (sb μ 2 t.toInt.toNat (μ.2.2.2 2 f.toInt.toNat)) 3 t.toInt.toNat (μ.2.2.1 3 f.toInt.toNat)).2.2.2 2 f.toInt.toNat = μ.2.2.2 2 f.toInt.toNat := by simp [sa, sb, vp_updL, hft]
  have b2 : (sa (sb μ 2 t.toInt.toNat (μ.2.2.2 2 f.toInt.toNat)) 3 t.toInt.toNat (μ.2.2.1 3 f.toInt.toNat)).2.2.1 3 f.toInt.toNat = μ.2.2.1 3 f.toInt.toNat := by simp [sa, sb, upd, hft]
  have base : ∀ k, k ≠ t.toInt.toNat → msame μ (sa (sb μ 2 t.toInt.toNat (μ.2.2.2 2 f.toInt.toNat)) 3 t.toInt.toNat (μ.2.2.1 3 f.toInt.toNat)) k := fun k hk => by
    have hk' : k ≠ t.toNatClampNeg := by rw [nt]; exact hk
    exact ⟨by simp [sa, sb, vp_updL, hk'], by simp [sa, sb, upd, hk'], fun j _ => by simp [sa, sb]⟩
  unfold F_copy
  rw [nf, nt]
  rcases hp with hp | hp
  · obtain ⟨a1, a2, a3, a4, a5, a6⟩ := copyL (v := μ.2.2.2 2 f.toInt.toNat) hf ht hne (hv hp) ((μ.2.2.2 2 f.toInt.toNat).toInt - (0 : Int32).toInt).toNat 162 0 (sa (sb μ 2 t.toInt.toNat (μ.2.2.2 2 f.toInt.toNat)) 3 t.toInt.toNat (μ.2.2.1 3 f.toInt.toNat)) (by rw [nf]; exact b1) (by rw [nf, b2, hp]; decide) (by decide) rfl (by have := hv hp; rw [z0]; omega) (by rw [z0]; exact (hv hp).1)
    generalize F_copy_L26 f t 162 0 (sa (sb μ 2 t.toInt.toNat (μ.2.2.2 2 f.toInt.toNat)) 3 t.toInt.toNat (μ.2.2.1 3 f.toInt.toNat)) = υ at *
    refine ⟨a1, fun q hq => by rw [a3]; simp [sa, sb, hq], fun q h3 h4 => by rw [a4 q h4]; simp [sa, sb, h3], fun k hk => ?_, by rw [a3]; simp [sa, sb, vp_updL], by rw [a4 3 (by decide)]; simp [sa, upd], fun _ j hj => ?_⟩
    · obtain ⟨m1, m2, m3⟩ := base k hk
      refine ⟨by rw [a3]; exact m1, by rw [a4 3 (by decide)]; exact m2, fun j hj => ?_⟩
      rw [a6 _ (by omega)]; exact m3 j hj
    · rw [a5 j (by rw [z0]; omega) hj]
      simp [sa, sb]
  · have e : F_copy_L26 f t 162 0 (sa (sb μ 2 t.toInt.toNat (μ.2.2.2 2 f.toInt.toNat)) 3 t.toInt.toNat (μ.2.2.1 3 f.toInt.toNat)) = sa (sb μ 2 t.toInt.toNat (μ.2.2.2 2 f.toInt.toNat)) 3 t.toInt.toNat (μ.2.2.1 3 f.toInt.toNat) := by
      rw [F_copy_L26]
      rw [nf, b2]
      simp only [hp, ↓reduceIte]
      split <;> rfl
    rw [e]
    refine ⟨rfl, fun q hq => by simp [sa, sb, hq], fun q h3 h4 => by simp [sa, sb, h3], base, by simp [sa, sb, vp_updL], by simp [sa, upd], fun h9 => ?_⟩
    rw [h9] at hp; exact absurd hp (by decide)
/-- what an item owes to be copied -/
theorem itm_src {σ : XS} {c i : Nat} {μ : MS} {k : Nat} (h : itm σ c i μ k) : (μ.2.2.1 3 k = -1 → 0 ≤ (μ.2.2.2 2 k).toInt ∧ (μ.2.2.2 2 k).toInt ≤ 160) ∧ (μ.2.2.1 3 k = -1 ∨ (0 : Int32) ≤ μ.2.2.1 3 k) := by
  obtain ⟨h1, h2, h3⟩ := h
  rw [← h1, ← h2]
  rcases h3 with ⟨a, b, c9⟩ | ⟨n, a, b, _, _, d, e, _⟩
  · refine ⟨fun h9 => ?_, Or.inr (pls_le b)⟩
    rw [h9] at b; exact absurd b.1 (by decide)
  · exact ⟨fun _ => ⟨d, e⟩, Or.inl b⟩
/-- the item at its new slot -/
theorem itk_copy {σ : XS} {c i : Nat} {μ ν : MS} {k k' : Nat} (h : itm σ c i μ k) (hl : μ.2.2.1 3 k = -1 → ∀ j : Nat, (j : Int) < (μ.2.2.2 2 k).toInt → ν.2.2.1 4 (160 * k' + j) = μ.2.2.1 4 (160 * k + j)) : itk σ (σ.2.2.2.1 (c + 3) i) (σ.2.1 (c + 4) i) (μ.2.2.2 2 k) (μ.2.2.1 3 k) (fun j => ν.2.2.1 4 (160 * k' + j)) := by
  obtain ⟨h1, h2, h3⟩ := h
  rw [h1, h2] at h3
  rcases h3 with a | ⟨n, a, b, c9, d, e, f, g, l⟩
  · exact Or.inl a
  · exact Or.inr ⟨n, a, b, c9, d, e, f, g, fun j hj => (l j hj).trans (hl b j hj).symm⟩
theorem room_yes {μ : MS} (h : (μ.1 5).toInt < 40) : F_room μ = (1, μ) := by
  unfold F_room; rw [if_pos (by rw [Int32.lt_iff_toInt_lt]; exact h)]
theorem room_no {μ : MS} (h : ¬ (μ.1 5).toInt < 40) : F_room μ = (0, si μ 16 5) := by
  unfold F_room; rw [if_neg (by rw [Int32.lt_iff_toInt_lt]; exact h)]
theorem putNum_full {σ : XS} {v : Int64} {p : Int32} (h : ¬ (σ.1 6).toInt < 40) : Xsh_putNumber σ 6 v p = .inl ("java/lang/UnsupportedOperationException", σ) := by
  unfold Xsh_putNumber; rw [put_full (by decide) h]
theorem sub_zero32 {a : Int32} : a - 0 = a := by
  apply Int32.toInt_inj.mp; rw [Int32.toInt_sub]; show (a.toInt - 0).bmod _ = _; rw [Int.sub_zero]; exact i_bm (by have := Int32.le_toInt a; omega) (by have := Int32.toInt_lt a; omega)
theorem drop0 {σ : XS} (h0 : 0 ≤ (σ.1 6).toInt) (h2 : (σ.1 6).toInt ≤ 100) : Xsh_drop σ 6 0 = σ := by
  rw [drop_eq (by decide) (by show (0 : Int) ≤ _; exact h0) h2, sub_zero32]
  unfold xi
  have : upd σ.1 6 (σ.1 6) = σ.1 := by funext j; unfold upd; split <;> simp_all
  rw [this]
theorem fit_i32 {a : Int32} : fit a.toInt64.toInt := by
  rw [Int32.toInt_toInt64]; have := Int32.le_toInt a; have := Int32.toInt_lt a; unfold fit; omega
/-- v ~ k X -/
theorem change_rel {σ : XS} {μ : MS} (h : ST σ μ) (hw : xWF σ) (h16 : μ.1 16 = 0) :
    cres σ μ (Xdesk_changeNumber σ 118) (F_calculates μ 118) ∧ cres σ μ (Xdesk_changeNumber σ 126) (F_calculates μ 126) ∧ cres σ μ (Xdesk_changeNumber σ 107) (F_calculates μ 107) ∧ cres σ μ (Xdesk_changeNumber σ 88) (F_calculates μ 88) := by
  have c126 : ∀ q, F_numbers μ 1 = q → F_calculates μ 126 = if q.1 = 0 then (0, q.2) else (1, si (sa (sb (si μ 5 (μ.1 5 - 1)) 2 (μ.1 5 - 1).toNatClampNeg (-(μ.2.2.2 2 (μ.1 5 - 1).toNatClampNeg))) 3 (μ.1 5 - 1).toNatClampNeg (μ.2.2.1 3 (μ.1 5 - 1).toNatClampNeg)) 5 (μ.1 5 - 1 + 1)) := by
    intro q hq; subst hq
    unfold F_calculates
    rw [if_neg (by decide), if_neg (by decide), if_neg (by decide), if_neg (by decide), if_neg (by decide), if_neg (by decide)]
    rfl
  have c88 : ∀ q, F_numbers μ 1 = q → F_calculates μ 88 = if q.1 = 0 then (0, q.2) else (1, si (sa (sb (si μ 5 (μ.1 5 - 1)) 2 (μ.1 5 - 1).toNatClampNeg ((μ.2.2.1 3 (μ.1 5 - 1).toNatClampNeg).toInt64)) 3 (μ.1 5 - 1).toNatClampNeg 0) 5 (μ.1 5 - 1 + 1)) := by
    intro q hq; subst hq
    unfold F_calculates
    rw [if_neg (by decide), if_neg (by decide), if_neg (by decide), if_neg (by decide), if_neg (by decide), if_neg (by decide)]
    rfl
  have c107 : F_numbers μ 1 = (1, μ) → F_calculates μ 107 = (let q_202 := F_raised μ (f_cut (μ.2.2.2 2 (μ.1 5 - 1).toNatClampNeg) (μ.2.2.1 3 (μ.1 5 - 1).toNatClampNeg)) (μ.2.2.1 3 (μ.1 5 - 1).toNatClampNeg); if q_202.1 = (μ.2.2.2 2 (μ.1 5 - 1).toNatClampNeg) then (if (f_within (f_cut (μ.2.2.2 2 (μ.1 5 - 1).toNatClampNeg) (μ.2.2.1 3 (μ.1 5 - 1).toNatClampNeg)) 0 9) = 0 then (0, si (si μ 16 (q_202.2.1 16)) 16 4) else (1, si (si (si μ 16 (q_202.2.1 16)) 6 ((f_cut (μ.2.2.2 2 (μ.1 5 - 1).toNatClampNeg) (μ.2.2.1 3 (μ.1 5 - 1).toNatClampNeg)).toInt32)) 5 (μ.1 5 - 1))) else (0, si (si μ 16 (q_202.2.1 16)) 16 4)) := by
    intro hq
    unfold F_calculates
    rw [if_neg (by decide), if_neg (by decide), if_neg (by decide), if_neg (by decide), if_neg (by decide), if_neg (by decide)]
    simp only [hq, show ¬ (1 : Int32) = 0 by decide, show ¬ (107 : Int32) = 126 by decide, show ¬ (107 : Int32) = 88 by decide, ↓reduceIte]
  have c107n : ∀ ξ, F_numbers μ 1 = (0, ξ) → F_calculates μ 107 = (0, ξ) := by
    intro ξ hq
    unfold F_calculates
    rw [if_neg (by decide), if_neg (by decide), if_neg (by decide), if_neg (by decide), if_neg (by decide), if_neg (by decide)]
    simp only [hq, ↓reduceIte]
  have xbad : ∀ (E : String) (k : Int32), Xdesk_needNumbers σ 1 = .inl (E, σ) → Xdesk_changeNumber σ k = .inl (E, σ) := by
    intro E k hx
    unfold Xdesk_changeNumber; simp only [hx]
  rcases num1 h with ⟨-, hx, hm⟩ | ⟨-, hx, hm⟩ | ⟨hd, hx, hm, hrow, hq, hy⟩
  · obtain ⟨ν, e1, e2⟩ := calE_no (n := 1) (root_n hm) noC_si
    refine ⟨?_, ?_, ?_, ?_⟩
    · rw [cal_118]; exact cres_no (xbad _ _ hx) e1 (bad_sfm hw h (by rw [xcd_2]; exact e2))
    · exact cres_no (xbad _ _ hx) ((c126 _ hm).trans (if_pos rfl)) (bad_sfm hw h (by rw [xcd_2]; exact noC_si))
    · exact cres_no (xbad _ _ hx) (c107n _ hm) (bad_sfm hw h (by rw [xcd_2]; exact noC_si))
    · exact cres_no (xbad _ _ hx) ((c88 _ hm).trans (if_pos rfl)) (bad_sfm hw h (by rw [xcd_2]; exact noC_si))
  · obtain ⟨ν, e1, e2⟩ := calE_no (n := 1) (root_n hm) noC_si
    refine ⟨?_, ?_, ?_, ?_⟩
    · rw [cal_118]; exact cres_no (xbad _ _ hx) e1 (bad_sfm hw h (by rw [xcd_3]; exact e2))
    · exact cres_no (xbad _ _ hx) ((c126 _ hm).trans (if_pos rfl)) (bad_sfm hw h (by rw [xcd_3]; exact noC_si))
    · exact cres_no (xbad _ _ hx) (c107n _ hm) (bad_sfm hw h (by rw [xcd_3]; exact noC_si))
    · exact cres_no (xbad _ _ hx) ((c88 _ hm).trans (if_pos rfl)) (bad_sfm hw h (by rw [xcd_3]; exact noC_si))
  · obtain ⟨d1, d2, d3⟩ := h.depth
    have z0 : (0 : Int32).toInt = 0 := rfl
    have z1 : (1 : Int32).toInt = 1 := rfl
    have hk := h.2.2.2.2
    have ek : σ.1 0 = μ.1 6 := h.2.2.2.1
    have ty := topX (k := 0) h (by decide) (by rw [z0]; omega)
    rw [z0, Int.sub_zero] at ty
    obtain ⟨c0, c1⟩ := clamp_sub (d := μ.1 5) (k := 1) (by decide) (by rw [z1]; omega) (by omega)
    rw [z1] at c1 c0
    have ey : μ.2.2.2 2 (μ.1 5 - 1).toNatClampNeg = μ.2.2.2 2 ((μ.1 5).toInt - 1).toNat := by rw [c1]
    have eq : μ.2.2.1 3 (μ.1 5 - 1).toNatClampNeg = μ.2.2.1 3 ((μ.1 5).toInt - 1).toNat := by rw [c1]
    have hn1 : (0 : Int) ≤ (1 : Int32).toInt := by decide
    have hd1 : (1 : Int32).toInt ≤ (μ.1 5).toInt := by rw [z1]; exact hd
    refine ⟨?_, ?_, ?_, ?_⟩
    · rw [cal_118]
      have hX : ∀ R, D_root (μ.2.2.2 2 ((μ.1 5).toInt - 1).toNat) (μ.2.2.1 3 ((μ.1 5).toInt - 1).toNat) (f_greater (μ.1 6) (μ.2.2.1 3 ((μ.1 5).toInt - 1).toNat)) = R → Xdesk_changeNumber σ 118 = (match R with | .inl e9 => .inl (e9, σ) | .inr r87 => (match Xsh_putNumber (Xsh_drop σ 6 1) 6 r87 (f_greater (μ.1 6) (μ.2.2.1 3 ((μ.1 5).toInt - 1).toNat)) with | .inl e9 => .inl e9 | .inr u108 => .inr u108)) := by
        intro R hR
        have eg : (if μ.1 6 < μ.2.2.1 3 ((μ.1 5).toInt - 1).toNat then μ.2.2.1 3 ((μ.1 5).toInt - 1).toNat else μ.1 6) = f_greater (μ.1 6) (μ.2.2.1 3 ((μ.1 5).toInt - 1).toNat) := by
          apply Int32.toInt_inj.mp; rw [mx_toInt, greater_toInt]
        unfold Xdesk_changeNumber
        simp only [hx]
        rw [if_neg (by decide), if_pos (by first | rfl | trivial)]
        simp only [ty.1, ty.2.1, ek, eg, hR]
        cases R with
        | inl E => rfl
        | inr r => cases Xsh_putNumber (Xsh_drop σ 6 1) 6 r (f_greater (μ.1 6) (μ.2.2.1 3 ((μ.1 5).toInt - 1).toNat)) <;> rfl
      by_cases hneg : (μ.2.2.2 2 ((μ.1 5).toInt - 1).toNat).toInt < 0
      · obtain ⟨r1, r2⟩ := root_neg (q := μ.2.2.1 3 ((μ.1 5).toInt - 1).toNat) (k := f_greater (μ.1 6) (μ.2.2.1 3 ((μ.1 5).toInt - 1).toNat)) hm ey hneg
        obtain ⟨ν, e1, e2⟩ := calE_no (n := 1) r2 noC_si
        exact cres_no (hX _ r1) e1 (bad_sfm hw h (by rw [xcd_4]; exact e2))
      · by_cases hf : fitN (μ.2.2.2 2 ((μ.1 5).toInt - 1).toNat).toInt (2 * max (μ.1 6).toInt (μ.2.2.1 3 ((μ.1 5).toInt - 1).toNat).toInt - (μ.2.2.1 3 ((μ.1 5).toInt - 1).toNat).toInt).toNat
        · obtain ⟨r, μ1, r1, r2, r3, r4⟩ := root_ok hm h16 ey eq rfl hy (by omega) hq hk hf
          have hg : pls (f_greater (μ.1 6) (μ.2.2.1 3 ((μ.1 5).toInt - 1).toNat)) := by unfold pls at *; rw [greater_toInt]; omega
          obtain ⟨u, ν, a1, a2, a3⟩ := calE_ok (n := 1) h (by decide) hd1 r4 hg r2 r3
          refine cres_ok ?_ a2 a3
          rw [hX _ r1]; simp only [a1]
        · obtain ⟨μ1, r1, r2, r3⟩ := root_no hm h16 ey eq rfl hy (by omega) hq hk hf
          obtain ⟨ν, e1, e2⟩ := calE_no (n := 1) r2 r3
          exact cres_no (hX _ r1) e1 (bad_sfm hw h (by rw [xcd_5]; exact e2))
    · have hy' := hy
      unfold fit at hy'
      have en : (-(μ.2.2.2 2 ((μ.1 5).toInt - 1).toNat)).toInt = -(μ.2.2.2 2 ((μ.1 5).toInt - 1).toNat).toInt := l_negE rfl (by omega) (by omega)
      obtain ⟨u, hu, hg⟩ := fin_num (B := μ) (n := 1) (v := -(μ.2.2.2 2 ((μ.1 5).toInt - 1).toNat)) (p := μ.2.2.1 3 ((μ.1 5).toInt - 1).toNat) h hn1 hd1 (by rw [z1]; omega) (by rw [en]; unfold fit; omega) hq (fun _ _ _ => rfl) rfl h16 rfl
      refine cres_ok ?_ ((c126 _ hm).trans (if_neg (show ¬ (1 : Int32) = 0 by decide))) (by rw [ey, eq]; exact hg)
      unfold Xdesk_changeNumber
      simp only [hx]
      rw [if_neg (by decide), if_neg (by decide), if_pos (by first | rfl | trivial)]
      simp only [ty.1, ty.2.1, hu]
    · have hcv := cut_toInt (k := μ.2.2.1 3 ((μ.1 5).toInt - 1).toNat) (by unfold pls at hq; omega) hy
      have hcf : fit (f_cut (μ.2.2.2 2 ((μ.1 5).toInt - 1).toNat) (μ.2.2.1 3 ((μ.1 5).toInt - 1).toNat)).toInt := by rw [hcv]; exact tdiv_fit hy
      have hle : fitN (f_cut (μ.2.2.2 2 ((μ.1 5).toInt - 1).toNat) (μ.2.2.1 3 ((μ.1 5).toInt - 1).toNat)).toInt (μ.2.2.1 3 ((μ.1 5).toInt - 1).toNat).toInt.toNat := by
        unfold fitN
        rw [hcv, Int.natAbs_tdiv, Int.natAbs_natCast]
        have := Nat.div_mul_le_self (μ.2.2.2 2 ((μ.1 5).toInt - 1).toNat).toInt.natAbs (10 ^ (μ.2.2.1 3 ((μ.1 5).toInt - 1).toNat).toInt.toNat)
        exact Nat.le_trans this (by unfold fit at hy; omega)
      obtain ⟨r1, f1, g1⟩ := raise_ok (k := μ.2.2.1 3 ((μ.1 5).toInt - 1).toNat) hcf hle
      obtain ⟨r2, f2, g2⟩ := raised_ok (k := μ.2.2.1 3 ((μ.1 5).toInt - 1).toNat) h16 (by unfold pls at hq; omega) hcf hle
      have e12 : r2 = r1 := Int64.toInt_inj.mp (by rw [g1, g2])
      subst e12
      have eS0 : si μ 16 0 = μ := si_same h16
      have hcut := D_cut (k := μ.2.2.1 3 ((μ.1 5).toInt - 1).toNat) (by unfold pls at hq; omega) hy
      have zl0 : (0 : Int64).toInt = 0 := rfl
      have zl9 : (9 : Int64).toInt = 9 := rfl
      have hX : ∀ R, D_asPlaces (μ.2.2.2 2 ((μ.1 5).toInt - 1).toNat) (μ.2.2.1 3 ((μ.1 5).toInt - 1).toNat) = R → Xdesk_changeNumber σ 107 = (match R with | .inl e9 => .inl (e9, σ) | .inr r48 => .inr (Xsh_drop (xi σ 0 r48) 6 1)) := by
        intro R hR
        unfold Xdesk_changeNumber
        simp only [hx]
        rw [if_pos (by first | rfl | trivial)]
        simp only [ty.1, ty.2.1, hR]
        cases R <;> rfl
      have hM := c107 hm
      simp only [ey, eq, f2, h16, eS0] at hM
      generalize hwv : f_cut (μ.2.2.2 2 ((μ.1 5).toInt - 1).toNat) (μ.2.2.1 3 ((μ.1 5).toInt - 1).toNat) = w at *
      by_cases ce : r2 = μ.2.2.2 2 ((μ.1 5).toInt - 1).toNat
      · by_cases ci : 0 ≤ w.toInt ∧ w.toInt ≤ 9
        · have n1 : ¬ w < 0 := by rw [Int64.lt_iff_toInt_lt]; omega
          have n2 : ¬ (9 : Int64) < w := by rw [Int64.lt_iff_toInt_lt]; omega
          have hD : D_asPlaces (μ.2.2.2 2 ((μ.1 5).toInt - 1).toNat) (μ.2.2.1 3 ((μ.1 5).toInt - 1).toNat) = .inr w.toInt32 := by
            unfold D_asPlaces
            simp only [hcut, n1, n2, f1, ce, ↓reduceIte]
          have hwi : f_within w 0 9 = 1 := by unfold f_within; rw [if_neg n1, if_neg n2]
          rw [if_pos ce, hwi, if_neg (by decide)] at hM
          have e32 : w.toInt32.toInt = w.toInt := by rw [Int64.toInt_toInt32]; exact i_bm (by omega) (by omega)
          have hK : ST (xi σ 0 w.toInt32) (si μ 6 w.toInt32) := by
            obtain ⟨s1, s2, s3, s4, s5⟩ := h
            refine ⟨?_, fun r hr => ?_, ?_, ?_, ?_⟩
            · rw [show (si μ 6 w.toInt32).1 5 = μ.1 5 by simp [si, upd]]
              exact shr_keep (xi_rs (by decide)) (xi_shq (by decide)) (fun i _ => ⟨rfl, rfl, fun _ _ => rfl⟩) s1
            · exact shr_keep (xi_rs (by decide)) (xi_shq (by omega)) (fun i _ => ⟨rfl, rfl, fun _ _ => rfl⟩) (s2 r hr)
            · unfold prn at *
              rw [show (si μ 6 w.toInt32).1 14 = μ.1 14 by simp [si, upd], show (xi σ 0 w.toInt32).1 31 = σ.1 31 from xi_ne (by decide)]
              exact s3
            · rw [show (si μ 6 w.toInt32).1 6 = w.toInt32 by simp [si, upd]]; exact xi_1
            · rw [show (si μ 6 w.toInt32).1 6 = w.toInt32 by simp [si, upd]]; unfold pls; omega
          have h56 : (si μ 6 w.toInt32).1 5 = μ.1 5 := by simp [si, upd]
          have hST := ST_drop (n := 1) (ν := si (si μ 6 w.toInt32) 5 (μ.1 5 - 1)) hK (by decide) (by rw [h56]; exact hd1) (by rw [h56]; simp [si, upd]) ⟨by simp [si, upd], by simp [si, upd], rfl, rfl⟩ rfl
          refine cres_ok (hX _ hD) hM ⟨hST, (xi_kx (by decide) (by decide) (by decide)).tr (drop_kx (by decide)), ⟨⟨by simp [si, upd], rfl, rfl, rfl⟩, by simp [si, upd], rfl, by simp [si, upd], by simp [si, upd]⟩, ?_⟩
          rw [← h16]; simp [si, upd]
        · have hwi : f_within w 0 9 = 0 := by
            unfold f_within
            split
            · rfl
            · rename_i n1; rw [if_pos (by rw [Int64.lt_iff_toInt_lt] at n1 ⊢; omega)]
          have hD : D_asPlaces (μ.2.2.2 2 ((μ.1 5).toInt - 1).toNat) (μ.2.2.1 3 ((μ.1 5).toInt - 1).toNat) = .inl "java/lang/ArithmeticException" := by
            unfold D_asPlaces
            simp only [hcut]
            split
            · rfl
            · rename_i n1; rw [if_pos (by rw [Int64.lt_iff_toInt_lt] at n1 ⊢; omega)]
          rw [if_pos ce, hwi, if_pos rfl] at hM
          exact cres_no (hX _ hD) hM (bad_sfm hw h (by rw [xcd_4]; exact noC_si))
      · have hD : D_asPlaces (μ.2.2.2 2 ((μ.1 5).toInt - 1).toNat) (μ.2.2.1 3 ((μ.1 5).toInt - 1).toNat) = .inl "java/lang/ArithmeticException" := by
          unfold D_asPlaces
          simp only [hcut, f1, ce, ↓reduceIte]
          split
          · rfl
          · split <;> rfl
        rw [if_neg ce] at hM
        exact cres_no (hX _ hD) hM (bad_sfm hw h (by rw [xcd_4]; exact noC_si))
    · obtain ⟨u, hu, hg⟩ := fin_num (B := μ) (n := 1) (v := (μ.2.2.1 3 ((μ.1 5).toInt - 1).toNat).toInt64) (p := 0) h hn1 hd1 (by rw [z1]; omega) fit_i32 (by unfold pls; decide) (fun _ _ _ => rfl) rfl h16 rfl
      refine cres_ok ?_ ((c88 _ hm).trans (if_neg (show ¬ (1 : Int32) = 0 by decide))) (by rw [eq]; exact hg)
      unfold Xdesk_changeNumber
      simp only [hx]
      rw [if_neg (by decide), if_neg (by decide), if_neg (by decide)]
      simp only [ty.1, ty.2.1, hu]
