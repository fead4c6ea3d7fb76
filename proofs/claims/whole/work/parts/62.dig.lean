/-- what is left to do of the texts under way -/
def wsum (μ : MS) : Nat → Int
  | 0 => 0
  | l + 1 => wsum μ l + ((μ.2.2.1 9 l).toInt - (μ.2.2.1 10 l).toInt + 1)
def Wt (μ : MS) : Int := wsum μ (μ.1 11).toInt.toNat
theorem wsum_le {μ ν : MS} : ∀ L : Nat, (∀ l, l < L → (ν.2.2.1 9 l).toInt - (ν.2.2.1 10 l).toInt ≤ (μ.2.2.1 9 l).toInt - (μ.2.2.1 10 l).toInt) → wsum ν L ≤ wsum μ L := by
  intro L
  induction L with
  | zero => intro _; exact Int.le_refl _
  | succ L ih =>
    intro h
    have h1 := ih (fun l hl => h l (by omega))
    have h2 := h L (by omega)
    show wsum ν L + _ ≤ wsum μ L + _
    omega
def kmP (μ ν : MS) : Prop := ν.1 1 = μ.1 1 ∧ ν.2.2.1 0 = μ.2.2.1 0 ∧ ν.1 15 = μ.1 15
/-- a command's outcome: σ, μ the states ahead of it -/
def dgood (σ u : XS) (μ ν : MS) : Prop := ST u ν ∧ rs σ u ∧ u.1 1 = σ.1 1 ∧ NR u ν ∧ kmP μ ν ∧ ν.1 18 = μ.1 18 ∧ ν.1 16 = 0 ∧ Wt ν ≤ Wt μ + 160
def dbad (σ u : XS) (μ ν : MS) (E : String) : Prop := ST u ν ∧ rs σ u ∧ u.1 1 = σ.1 1 ∧ kmP μ ν ∧ ν.1 16 = xcd E ∧ xWF u
def dres (σ : XS) (μ : MS) (rx : (String × XS) ⊕ XS) (rm : Int32 × MS) : Prop := match rx with
  | .inr u => rm.1 = 1 ∧ dgood σ u μ rm.2
  | .inl e => rm.1 = 0 ∧ dbad σ e.2 μ rm.2 e.1
theorem dres_ok {σ u : XS} {μ ν : MS} {rx : (String × XS) ⊕ XS} {rm : Int32 × MS} (h1 : rx = .inr u) (h2 : rm = (1, ν)) (hg : dgood σ u μ ν) : dres σ μ rx rm := by subst h1; subst h2; exact ⟨rfl, hg⟩
theorem dres_no {σ u : XS} {μ ν : MS} {E : String} {rx : (String × XS) ⊕ XS} {rm : Int32 × MS} (h1 : rx = .inl (E, u)) (h2 : rm = (0, ν)) (hb : dbad σ u μ ν E) : dres σ μ rx rm := by subst h1; subst h2; exact ⟨rfl, hb⟩
theorem kmP_km {μ ν : MS} (h : km μ ν) : kmP μ ν := ⟨h.2.1, h.2.2.1, h.2.2.2.1⟩
theorem kmP.tr {μ ν ξ : MS} (h : kmP μ ν) (h2 : kmP ν ξ) : kmP μ ξ := ⟨h2.1.trans h.1, h2.2.1.trans h.2.1, h2.2.2.trans h.2.2⟩
theorem Wt_km {μ ν : MS} (h : km μ ν) : Wt ν = Wt μ := by
  unfold Wt
  rw [h.1.1]
  have : ∀ L, wsum ν L = wsum μ L := by
    intro L
    induction L with
    | zero => rfl
    | succ L ih => show wsum ν L + _ = wsum μ L + _; rw [ih, h.1.2.2.1, h.1.2.2.2]
  exact this _
/-- a command that leaves the nest alone, behind its character -/
theorem dres_of {σ σ1 : XS} {μ μ1 : MS} {rx : (String × XS) ⊕ XS} {rm : Int32 × MS} (hr : rs σ σ1) (h1 : σ1.1 1 = σ.1 1) (hn : NR σ1 μ1) (hm : kmP μ μ1) (h18 : μ1.1 18 = μ.1 18) (hW : Wt μ1 ≤ Wt μ) (h : cres σ1 μ1 rx rm) : dres σ μ rx rm := by
  cases rx with
  | inr u =>
    obtain ⟨h1', g1, g2, g3, g4⟩ := h
    exact ⟨h1', g1, hr.tr g2.1, g2.2.2.trans h1, NR_keep g2 g3 hn, hm.tr (kmP_km g3), g3.2.2.2.2.trans h18, g4, by rw [Wt_km g3]; omega⟩
  | inl e =>
    obtain ⟨h1', g1, g2, g3, g4, g5⟩ := h
    exact ⟨h1', g1, hr.tr g2.1, g2.2.2.trans h1, hm.tr (kmP_km g3), g4, g5⟩
theorem ST_sa {σ : XS} {μ : MS} {k j : Nat} {v : Int32} (hk : k = 8 ∨ k = 9 ∨ k = 10 ∨ k = 0) (h : ST σ μ) : ST σ (sa μ k j v) := by
  have e : ∀ q, q ≠ k → (sa μ k j v).2.2.1 q = μ.2.2.1 q := fun q hq => by simp [sa, hq]
  exact ST_msame h rfl ⟨rfl, rfl, rfl, e 13 (by omega)⟩ (e 7 (by omega)) (fun q _ => ⟨rfl, by rw [e 3 (by omega)], fun i _ => by rw [e 4 (by omega)]⟩)
/-- a number's end, in both -/
def DX (τ : XS) (g : Int32) (w : Int64) (a p : Int32) : (String × XS) ⊕ XS := if a = 0 then (.inl ("java/lang/IllegalArgumentException", τ)) else if 18 < a then (.inl ("java/lang/IllegalArgumentException", τ)) else if p ≤ 9 then Xsh_putNumber τ 6 (if g = 0 then w else -w) p else .inl ("java/lang/IllegalArgumentException", τ)
def DM (μ : MS) (v2 i1 g : Int32) (w : Int64) (a b : Int32) : Int32 × MS := if a < 1 then (0, si μ 16 1) else if 18 < a then (0, si μ 16 1) else if b ≤ 9 then (if (F_room μ).1 = 0 then (0, (F_room μ).2) else (1, sa (si (sa (sb (si μ 5 (μ.1 5 - 0)) 2 (μ.1 5 - 0).toNatClampNeg (if g = 0 then w else -w)) 3 (μ.1 5 - 0).toNatClampNeg (if 0 ≤ b then b else 0)) 5 (μ.1 5 - 0 + 1)) 10 v2.toNatClampNeg i1)) else (0, si μ 16 1)
theorem DX_eq {τ : XS} {g : Int32} {w : Int64} {a p : Int32} : (if a = 0 then (.inl ("java/lang/IllegalArgumentException", τ)) else if 18 < a then (.inl ("java/lang/IllegalArgumentException", τ)) else if p ≤ 9 then (if g = 0 then ((match Xsh_putNumber τ 6 w p with | .inl e9 => .inl e9 | .inr u186 => .inr u186)) else (match Xsh_putNumber τ 6 (-w) p with | .inl e9 => .inl e9 | .inr u186 => .inr u186)) else .inl ("java/lang/IllegalArgumentException", τ) : (String × XS) ⊕ XS) = DX τ g w a p := by
  unfold DX
  by_cases hg : g = 0
  · simp only [hg, ↓reduceIte]
    cases Xsh_putNumber τ 6 w p <;> rfl
  · simp only [hg, ↓reduceIte]
    cases Xsh_putNumber τ 6 (-w) p <;> rfl
theorem dig_end {τ : XS} {μ : MS} {v2 i1 g : Int32} {w : Int64} {a b p : Int32} (h : ST τ μ) (hw : xWF τ) (hn : NX τ μ i1.toInt) (h16 : μ.1 16 = 0) (hv2 : v2.toNatClampNeg = ((μ.1 11).toInt - 1).toNat) (ha : 0 ≤ a.toInt) (hb : -1 ≤ b.toInt) (hp : p = if 0 ≤ b then b else 0) (hw0 : 0 ≤ w.toInt) (hw1 : a.toInt ≤ 18 → w.toInt ≤ 999999999999999999) (hat : (μ.2.2.1 10 ((μ.1 11).toInt - 1).toNat).toInt ≤ i1.toInt) : dres τ μ (DX τ g w a p) (DM μ v2 i1 g w a b) := by
  obtain ⟨d1, d2, d3⟩ := h.depth
  have z0 : (0 : Int32).toInt = 0 := rfl
  have z1 : (1 : Int32).toInt = 1 := rfl
  have z9 : (9 : Int32).toInt = 9 := rfl
  have z18 : (18 : Int32).toInt = 18 := rfl
  have bad1 : dbad τ τ μ (si μ 16 1) "java/lang/IllegalArgumentException" := ⟨ST_sfm (sfm_si16 sfm_rf) h, rs.rf, rfl, kmP_km (km_sfm (sfm_si16 sfm_rf)), by rw [xcd_1]; exact z16, hw⟩
  unfold DX DM
  by_cases c1 : a = 0
  · rw [if_pos c1, if_pos (by rw [c1]; decide)]
    exact dres_no rfl rfl bad1
  · have c1' : ¬ a < 1 := by
      rw [Int32.lt_iff_toInt_lt]; intro h9; apply c1; apply Int32.toInt_inj.mp; omega
    rw [if_neg c1, if_neg c1']
    by_cases c2 : (18 : Int32) < a
    · rw [if_pos c2, if_pos c2]
      exact dres_no rfl rfl bad1
    · rw [if_neg c2, if_neg c2]
      have hpb : p ≤ 9 ↔ b ≤ 9 := by
        rw [hp]
        by_cases c9 : (0 : Int32) ≤ b
        · rw [if_pos c9]
        · rw [if_neg c9]
          rw [Int32.le_iff_toInt_le] at c9
          constructor
          · intro _; rw [Int32.le_iff_toInt_le]; omega
          · intro _; decide
      by_cases c3 : b ≤ 9
      · rw [if_pos (hpb.mpr c3), if_pos c3]
        have hpl : pls p := by
          rw [Int32.le_iff_toInt_le] at c3
          unfold pls
          rw [hp]
          split
          · rename_i c9; rw [Int32.le_iff_toInt_le] at c9; omega
          · rw [z0]; omega
        rw [Int32.lt_iff_toInt_lt] at c2
        have hwf : fit (if g = 0 then w else -w).toInt := by
          have := hw1 (by omega)
          split
          · unfold fit; omega
          · rw [l_negE rfl (by omega) (by omega)]; unfold fit; omega
        by_cases h40 : (μ.1 5).toInt < 40
        · obtain ⟨u, hu, hg1, hg2, hg3, hg4⟩ := fin_num (B := μ) (n := 0) (v := if g = 0 then w else -w) (p := p) h (by decide) (by rw [z0]; exact d2) (by rw [z0]; omega) hwf hpl (fun _ _ _ => rfl) rfl h16 rfl
          rw [drop0 (by rw [d1]; exact d2) (by rw [d1]; omega)] at hu
          rw [← hp, hv2]
          generalize hν : si (sa (sb (si μ 5 (μ.1 5 - 0)) 2 (μ.1 5 - 0).toNatClampNeg (if g = 0 then w else -w)) 3 (μ.1 5 - 0).toNatClampNeg p) 5 (μ.1 5 - 0 + 1) = ν0 at *
          refine dres_ok (u := u) (ν := sa ν0 10 ((μ.1 11).toInt - 1).toNat i1) hu (by rw [room_yes h40]; exact if_neg (show ¬ (1 : Int32) = 0 by decide)) ?_
          have hnx := NX_keep hg2 hg3 hn
          refine ⟨ST_sa (by omega) hg1, hg2.1, hg2.2.2, ?_, (kmP_km hg3).tr ⟨rfl, by simp [sa], rfl⟩, hg3.2.2.2.2, hg4, ?_⟩
          · refine NX_NR (v := i1) rfl hnx ?_ (by simp [sa]) (by simp [sa]) rfl
            rw [hg3.1.1]; simp [sa]
          · have e := Wt_km hg3
            have : Wt (sa ν0 10 ((μ.1 11).toInt - 1).toNat i1) ≤ Wt ν0 := by
              unfold Wt
              show wsum _ (ν0.1 11).toInt.toNat ≤ _
              apply wsum_le
              intro l hl
              by_cases e9 : l = ((μ.1 11).toInt - 1).toNat
              · subst e9
                simp only [sa, upd, ↓reduceIte, show ¬ (9 = 10) by decide]
                rw [hg3.1.2.2.2]; omega
              · simp only [sa, upd, ↓reduceIte, show ¬ (9 = 10) by decide, e9]
                omega
            omega
        · refine dres_no (u := τ) (ν := si μ 16 5) (E := "java/lang/UnsupportedOperationException") (putNum_full (by rw [d1]; exact h40)) (by rw [room_no h40]; exact if_pos rfl) ⟨ST_sfm (sfm_si16 sfm_rf) h, rs.rf, rfl, kmP_km (km_sfm (sfm_si16 sfm_rf)), by rw [xcd_5]; exact z16, hw⟩
      · rw [if_neg (fun h9 => c3 (hpb.mp h9)), if_neg c3]
        exact dres_no rfl rfl bad1
theorem isDigit_eq {c : Int32} : Xd_isDigit c = 0 ↔ ¬ (48 ≤ c.toInt ∧ c.toInt ≤ 57) := by
  have z48 : (48 : Int32).toInt = 48 := rfl
  have z57 : (57 : Int32).toInt = 57 := rfl
  unfold Xd_isDigit
  by_cases c1 : c < 48
  · rw [if_pos c1]; rw [Int32.lt_iff_toInt_lt] at c1; exact ⟨fun _ => by omega, fun _ => rfl⟩
  · rw [if_neg c1]
    rw [Int32.lt_iff_toInt_lt] at c1
    by_cases c2 : (57 : Int32) < c
    · rw [if_pos c2]; rw [Int32.lt_iff_toInt_lt] at c2; exact ⟨fun _ => by omega, fun _ => rfl⟩
    · rw [if_neg c2]; rw [Int32.lt_iff_toInt_lt] at c2; exact ⟨fun h => absurd h (by decide), fun h => absurd ⟨by omega, by omega⟩ h⟩
theorem within_eq {c : Int32} : f_within c.toInt64 48 57 = 0 ↔ ¬ (48 ≤ c.toInt ∧ c.toInt ≤ 57) := by
  have z48 : (48 : Int64).toInt = 48 := rfl
  have z57 : (57 : Int64).toInt = 57 := rfl
  have e := Int32.toInt_toInt64 c
  unfold f_within
  by_cases c1 : c.toInt64 < 48
  · rw [if_pos c1]; rw [Int64.lt_iff_toInt_lt] at c1; exact ⟨fun _ => by omega, fun _ => rfl⟩
  · rw [if_neg c1]
    rw [Int64.lt_iff_toInt_lt] at c1
    by_cases c2 : (57 : Int64) < c.toInt64
    · rw [if_pos c2]; rw [Int64.lt_iff_toInt_lt] at c2; exact ⟨fun _ => by omega, fun _ => rfl⟩
    · rw [if_neg c2]; rw [Int64.lt_iff_toInt_lt] at c2; exact ⟨fun h => absurd h (by decide), fun h => absurd ⟨by omega, by omega⟩ h⟩
theorem dres_kp {σ τ : XS} {μ : MS} {rx : (String × XS) ⊕ XS} {rm : Int32 × MS} (hk : kp σ τ) (h : dres τ μ rx rm) : dres σ μ rx rm := by
  have h1 : τ.1 1 = σ.1 1 := by rw [hk.2.1]
  cases rx with
  | inr u => obtain ⟨a, b, c, d, e⟩ := h; exact ⟨a, b, hk.1.tr c, d.trans h1, e⟩
  | inl x => obtain ⟨a, b, c, d, e⟩ := h; exact ⟨a, b, hk.1.tr c, d.trans h1, e⟩
