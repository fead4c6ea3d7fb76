def NXA (σ : XS) (μ : MS) (i : Int) (n : Nat) (st : Int) : Prop := cntR σ μ ∧ 1 ≤ (μ.1 11).toInt ∧ (∀ l : Nat, (l : Int) < (μ.1 11).toInt - 1 → lvl σ l μ) ∧ lvA σ ((μ.1 11).toInt - 1).toNat μ n st i
theorem NXA.nx {σ : XS} {μ : MS} {i : Int} {n : Nat} {st : Int} (h : NXA σ μ i n st) : NX σ μ i := ⟨h.1, h.2.1, h.2.2.1, n, st, h.2.2.2⟩
theorem pass_NXA {σ : XS} {μ : MS} {i : Int} {n : Nat} {st : Int} (h : NXA σ μ i n st) (hi : i < (μ.2.2.1 9 ((μ.1 11).toInt - 1).toNat).toInt) : NXA (Xnest_pass σ) μ (i + 1) n st := by
  obtain ⟨b1, b2, b3, n', st', hb⟩ := pass_NX h.nx hi
  have hk := pass_kp (σ := σ)
  have ha := h.2.2.2
  have e1 : n' = n := by
    have x1 := hb.1
    rw [hk.2.2.2.1, ha.1] at x1
    exact (Option.some.inj x1).symm
  have e2 : st' = st := by
    have x1 := hb.2.2.2.2.1
    rw [hk.2.2.2.2 5 (by decide), ha.2.2.2.2.1] at x1
    omega
  subst e1; subst e2
  exact ⟨b1, b2, b3, hb⟩
theorem pos_eq {σ : XS} {μ : MS} {i : Int} {n : Nat} {st : Int} (h : NXA σ μ i n st) : (Xnest_position σ).toInt = st + i ∧ Xnest_innermostRow σ = some n := by
  obtain ⟨u1, u2, -⟩ := uw_yes h.1 h.2.1
  unfold Xnest_position Xnest_innermostRow
  rw [u1, if_neg (by decide), if_neg (by decide), u2]
  exact ⟨h.2.2.2.2.2.2.1, h.2.2.2.1⟩
/-- the letters copied -/
theorem L100 {f0 v2 i1 n1 : Int32} (hv2 : 0 ≤ v2.toInt ∧ v2.toInt ≤ 11) (hf : 0 ≤ f0.toInt ∧ f0.toInt ≤ 160) (hn1 : 0 ≤ n1.toInt ∧ f0.toInt + 1 + n1.toInt ≤ 160) : ∀ (m fu : Nat) (k : Int32) (τ : MS), 0 ≤ (τ.1 5).toInt ∧ (τ.1 5).toInt ≤ 39 → 0 ≤ k.toInt → k.toInt ≤ n1.toInt → (n1.toInt - k.toInt).toNat = m → m < fu → ∃ υ : MS, F_brackets_L100 f0 fu v2 i1 n1 k τ = (1, sa (si (sa (sb (si υ 5 (υ.1 5 - 0)) 2 (υ.1 5 - 0).toNatClampNeg n1.toInt64) 3 (υ.1 5 - 0).toNatClampNeg (-1)) 5 (υ.1 5 - 0 + 1)) 10 v2.toNatClampNeg i1) ∧ υ.1 = τ.1 ∧ υ.2.2.2 = τ.2.2.2 ∧ (∀ q, q ≠ 4 → υ.2.2.1 q = τ.2.2.1 q) ∧ (∀ j : Nat, k.toInt ≤ j → (j : Int) < n1.toInt → υ.2.2.1 4 (160 * (τ.1 5).toInt.toNat + j) = τ.2.2.1 8 (160 * v2.toInt.toNat + (f0.toInt.toNat + 1 + j))) ∧ (∀ i : Nat, (i < 160 * (τ.1 5).toInt.toNat ∨ 160 * (τ.1 5).toInt.toNat + 160 ≤ i ∨ (i : Int) < 160 * (τ.1 5).toInt + k.toInt) → υ.2.2.1 4 i = τ.2.2.1 4 i) := by
  intro m
  induction m with
  | zero =>
    intro fu k τ hd h0 hk hm hfu
    obtain ⟨g, rfl⟩ : ∃ g, fu = g + 1 := ⟨fu - 1, by omega⟩
    have c : n1 ≤ k := by rw [Int32.le_iff_toInt_le]; omega
    exact ⟨τ, by simp only [F_brackets_L100, c, ↓reduceIte], rfl, rfl, fun _ _ => rfl, fun j h1 h2 => by omega, fun _ _ => rfl⟩
  | succ m ih =>
    intro fu k τ hd h0 hk hm hfu
    obtain ⟨g, rfl⟩ : ∃ g, fu = g + 1 := ⟨fu - 1, by omega⟩
    have c : ¬ n1 ≤ k := by rw [Int32.le_iff_toInt_le]; omega
    have z1 : (1 : Int32).toInt = 1 := rfl
    have ek : (k + 1).toInt = k.toInt + 1 := i_addE rfl z1 (by omega) (by omega)
    have x1 := ix160 (t := τ.1 5) (k := k) (by omega) (by omega)
    have x2 : ((((160 * v2) + f0) + 1) + k).toNatClampNeg = 160 * v2.toInt.toNat + (f0.toInt.toNat + 1 + k.toInt.toNat) := by
      have e : ((((160 * v2) + f0) + 1) + k).toInt = 160 * v2.toInt + f0.toInt + 1 + k.toInt := i_addE (i_addE (i_addE (i_mulE (show (160 : Int32).toInt = 160 from rfl) rfl (by omega) (by omega)) rfl (by omega) (by omega)) z1 (by omega) (by omega)) rfl (by omega) (by omega)
      rw [← Int32.toNat_toInt, e]; omega
    obtain ⟨υ, u1, u2, u3, u4, u5, u6⟩ := ih g (k + 1) (sa τ 4 (160 * (τ.1 5).toInt.toNat + k.toInt.toNat) (τ.2.2.1 8 (160 * v2.toInt.toNat + (f0.toInt.toNat + 1 + k.toInt.toNat)))) hd (by omega) (by omega) (by omega) (by omega)
    have u5 : ∀ j : Nat, (k + 1).toInt ≤ j → (j : Int) < n1.toInt → υ.2.2.1 4 (160 * (τ.1 5).toInt.toNat + j) = (sa τ 4 (160 * (τ.1 5).toInt.toNat + k.toInt.toNat) (τ.2.2.1 8 (160 * v2.toInt.toNat + (f0.toInt.toNat + 1 + k.toInt.toNat)))).2.2.1 8 (160 * v2.toInt.toNat + (f0.toInt.toNat + 1 + j)) := u5
    have u6 : ∀ i : Nat, (i < 160 * (τ.1 5).toInt.toNat ∨ 160 * (τ.1 5).toInt.toNat + 160 ≤ i ∨ (i : Int) < 160 * (τ.1 5).toInt + (k + 1).toInt) → υ.2.2.1 4 i = (sa τ 4 (160 * (τ.1 5).toInt.toNat + k.toInt.toNat) (τ.2.2.1 8 (160 * v2.toInt.toNat + (f0.toInt.toNat + 1 + k.toInt.toNat)))).2.2.1 4 i := u6
    refine ⟨υ, ?_, u2, u3, fun q hq => by rw [u4 q hq]; simp [sa, hq], fun j h1 h2 => ?_, fun i hi => ?_⟩
    · rw [F_brackets_L100]
      simp only [c, ↓reduceIte, x1, x2]
      exact u1
    · by_cases hj : (j : Int) = k.toInt
      · rw [u6 _ (by omega)]
        have : j = k.toInt.toNat := by omega
        subst this
        simp only [sa, upd, ↓reduceIte]
      · rw [u5 j (by omega) h2]
        simp only [sa, ↓reduceIte, show ¬ (8 = 4) by decide]
    · rw [u6 i (by omega)]
      simp only [sa, ↓reduceIte, upd]
      rw [if_neg (by omega)]
/-- a text's end, in both -/
theorem brk_end {τ : XS} {μ : MS} {f0 v2 i1 s0 : Int32} {n : Nat} {st : Int} (h : ST τ μ) (hw : xWF τ) (hn : NXA τ μ i1.toInt n st) (h16 : μ.1 16 = 0) (hv2 : v2 = μ.1 11 - 1) (hf0 : 0 ≤ f0.toInt) (hfi : f0.toInt + 2 ≤ i1.toInt) (hs0 : s0.toInt = st + f0.toInt + 1) (hat : (μ.2.2.1 10 ((μ.1 11).toInt - 1).toNat).toInt ≤ i1.toInt) : dres τ μ (Xsh_putText τ 6 (some n) s0 (((Xnest_position τ) - 1) - s0)) (let q_81 := F_room μ; if q_81.1 = 0 then (0, q_81.2) else F_brackets_L100 f0 ((((i1 - f0) - 2).toInt.toNat + 1)) v2 i1 ((i1 - f0) - 2) 0 μ) := by
  obtain ⟨d1, d2, d3⟩ := h.depth
  obtain ⟨p1, -⟩ := pos_eq hn
  obtain ⟨a1, a2, a3, a4, a5, a6, a7, a8, a9, a10⟩ := hn.2.2.2
  have z0 : (0 : Int32).toInt = 0 := rfl
  have z1 : (1 : Int32).toInt = 1 := rfl
  have hb5 := Int32.toInt_lt (τ.1 n)
  have el : (((Xnest_position τ) - 1) - s0).toInt = i1.toInt - f0.toInt - 2 := by
    rw [i_subE (i_subE p1 z1 (by omega) (by omega)) hs0 (by omega) (by omega)]; omega
  have en : ((i1 - f0) - 2).toInt = i1.toInt - f0.toInt - 2 := i_subE (i_subE rfl rfl (by omega) (by omega)) (show (2 : Int32).toInt = 2 from rfl) (by omega) (by omega)
  have eln : ((Xnest_position τ) - 1) - s0 = (i1 - f0) - 2 := Int32.toInt_inj.mp (by rw [el, en])
  have hlv := hn.2.1
  have hlv2 := hn.1.2.2
  have ev2 : v2.toInt = (μ.1 11).toInt - 1 := by rw [hv2]; exact i_subE rfl z1 (by omega) (by omega)
  have hv2N : v2.toNatClampNeg = ((μ.1 11).toInt - 1).toNat := by rw [← Int32.toNat_toInt, ev2]
  rw [eln]
  generalize hN1 : (i1 - f0) - 2 = n1 at *
  have hput : Xsh_putText τ 6 (some n) s0 n1 = (match Xsh_put τ 6 n1.toInt64 (-1) (some n) s0 with | .inl e9 => .inl e9 | .inr u6 => .inr u6) := rfl
  by_cases h40 : (μ.1 5).toInt < 40
  · obtain ⟨υ, u1, u2, u3, u4, u5, u6⟩ := L100 (f0 := f0) (v2 := v2) (i1 := i1) (n1 := n1) (by omega) (by omega) (by omega) (n1.toInt - (0 : Int32).toInt).toNat (n1.toInt.toNat + 1) 0 μ (by omega) (by decide) (by rw [z0]; omega) rfl (by rw [z0]; omega)
    have e5 : υ.1 5 - 0 = μ.1 5 := by rw [sub_zero32, u2]
    have hdN : (μ.1 5).toNatClampNeg = (μ.1 5).toInt.toNat := (Int32.toNat_toInt _).symm
    rw [e5, hdN, hv2N] at u1
    generalize hν1 : si (sa (sb (si υ 5 (μ.1 5)) 2 (μ.1 5).toInt.toNat n1.toInt64) 3 (μ.1 5).toInt.toNat (-1)) 5 (μ.1 5 + 1) = ν1 at u1
    have w5 : ν1.1 5 = μ.1 5 + 1 := by rw [← hν1]; simp [si, upd]
    have wi : ∀ k, k ≠ 5 → ν1.1 k = μ.1 k := fun k hk => by rw [← hν1, ← u2]; simp [si, sa, sb, upd, hk]
    have wa : ∀ k, k ≠ 3 → k ≠ 4 → ν1.2.2.1 k = μ.2.2.1 k := fun k h3 h4 => by rw [← hν1, ← u4 k h4]; simp [si, sa, sb, h3]
    have wb : ∀ k, k ≠ 2 → ν1.2.2.2 k = μ.2.2.2 k := fun k h2 => by rw [← hν1, ← u3]; simp [si, sa, sb, h2]
    have w4 : ν1.2.2.1 4 = υ.2.2.1 4 := by rw [← hν1]; simp [si, sa, sb]
    have w2 : ν1.2.2.2 2 = vp_updL (μ.2.2.2 2) (μ.1 5).toInt.toNat n1.toInt64 := by rw [← hν1, ← u3]; simp [si, sa, sb]
    have w3 : ν1.2.2.1 3 = upd (μ.2.2.1 3) (μ.1 5).toInt.toNat (-1) := by rw [← hν1, ← u4 3 (by decide)]; simp [si, sa, sb]
    have elen : n1.toInt64.toInt = i1.toInt - f0.toInt - 2 := by rw [Int32.toInt_toInt64]; exact en
    have hP := ST_push (ν := ν1) (v := n1.toInt64) (p := -1) (r := some n) (s := s0) h h40 w5 ⟨wi 14 (by decide), wi 6 (by decide), wb 12 (by decide), wa 13 (by decide) (by decide)⟩ (wa 7 (by decide) (by decide)) (fun k hk hk9 => by
      refine ⟨by rw [w2]; simp only [vp_updL]; rw [if_neg hk9], by rw [w3]; simp only [upd]; rw [if_neg hk9], fun j hj => ?_⟩
      rw [w4]
      exact u6 _ (by omega)) (by rw [w2]; simp only [vp_updL, ↓reduceIte]) (by rw [w3]; simp only [upd, ↓reduceIte]) (Or.inr ⟨n, rfl, rfl, a2, by omega, by omega, by omega, by omega, fun j hj => by
        show _ = ν1.2.2.1 4 (160 * (μ.1 5).toInt.toNat + j)
        rw [w4, u5 j (by rw [z0]; omega) (by omega)]
        have := a10 (f0.toInt.toNat + 1 + j) (by omega)
        rw [show s0.toInt.toNat + j = st.toNat + (f0.toInt.toNat + 1 + j) by omega, this, show v2.toInt.toNat = ((μ.1 11).toInt - 1).toNat by rw [ev2]]⟩)
    have hkx := shput_kx (σ := τ) (c := 6) (N := (μ.1 5).toInt.toNat) (v := n1.toInt64) (p := -1) (r := some n) (s := s0) (by decide)
    have hkm : km μ ν1 := ⟨⟨wi 11 (by decide), wa 8 (by decide) (by decide), wa 9 (by decide) (by decide), wa 10 (by decide) (by decide)⟩, wi 1 (by decide), wa 0 (by decide) (by decide), wi 15 (by decide), wi 18 (by decide)⟩
    refine dres_ok (u := shput τ 6 (μ.1 5).toInt.toNat n1.toInt64 (-1) (some n) s0) (ν := sa ν1 10 ((μ.1 11).toInt - 1).toNat i1) ?_ ?_ ⟨ST_sa (by omega) hP.2, hkx.1, hkx.2.2, ?_, (kmP_km hkm).tr ⟨rfl, by simp [sa], rfl⟩, hkm.2.2.2.2, (wi 16 (by decide)).trans h16, ?_⟩
    · rw [hput, hP.1]
    · rw [room_yes h40]
      exact (if_neg (show ¬ (1 : Int32) = 0 by decide)).trans u1
    · refine NX_NR (v := i1) rfl (NX_keep hkx hkm hn.nx) ?_ (by simp [sa]) (by simp [sa]) rfl
      rw [hkm.1.1]; simp [sa]
    · have e := Wt_km hkm
      have : Wt (sa ν1 10 ((μ.1 11).toInt - 1).toNat i1) ≤ Wt ν1 := by
        unfold Wt
        show wsum _ (ν1.1 11).toInt.toNat ≤ _
        apply wsum_le
        intro l hl
        by_cases e9 : l = ((μ.1 11).toInt - 1).toNat
        · subst e9
          simp only [sa, upd, ↓reduceIte, show ¬ (9 = 10) by decide]
          rw [hkm.1.2.2.2]; omega
        · simp only [sa, upd, ↓reduceIte, show ¬ (9 = 10) by decide, e9]
          omega
      omega
  · refine dres_no (u := τ) (ν := si μ 16 5) (E := "java/lang/UnsupportedOperationException") ?_ (by rw [room_no h40]; exact if_pos rfl) ⟨ST_sfm (sfm_si16 sfm_rf) h, rs.rf, rfl, kmP_km (km_sfm (sfm_si16 sfm_rf)), by rw [xcd_5]; exact z16, hw⟩
    rw [hput, put_full (by decide) (by rw [d1]; exact h40)]
theorem brk_ar {S A f0 i1 o k i2 o2 k2 : Int} {n : Nat} (hsz : (S - i1).toNat = n + 1) (hk0 : 0 ≤ k) (hk : k + ((n + 1 : Nat) : Int) ≤ 160) (hat : A ≤ i1) (hfi : f0 + 1 ≤ i1) (ho : ¬ o ≤ 0) (hok : o ≤ k + 1) (ei : i2 = i1 + 1) (ek : k2 = k + 1) (eo : o2 = o + 1 ∨ o2 = o - 1 ∨ o2 = o) : (S - i2).toNat = n ∧ 0 ≤ k2 ∧ k2 + n ≤ 160 ∧ A ≤ i2 ∧ f0 + 1 ≤ i2 ∧ (o2 ≤ 0 → f0 + 2 ≤ i2) ∧ 0 ≤ o2 ∧ o2 ≤ k2 + 1 := by
  refine ⟨by omega, by omega, by omega, by omega, by omega, fun _ => by omega, by omega, by omega⟩
set_option maxHeartbeats 2000000 in
/-- the brackets, in both -/
theorem brk_rel {μ : MS} {f0 v2 s0 : Int32} {nr : Nat} {st : Int} (h16 : μ.1 16 = 0) (hv2 : v2 = μ.1 11 - 1) (hf0 : 0 ≤ f0.toInt) (hs0 : s0.toInt = st + f0.toInt + 1) : ∀ (n f f' : Nat) (τ : XS) (i1 o k : Int32), NXA τ μ i1.toInt nr st → ST τ μ → rok τ → xWF τ → ((μ.2.2.1 9 ((μ.1 11).toInt - 1).toNat).toInt - i1.toInt).toNat = n → n < f → n < f' → 0 ≤ k.toInt → k.toInt + n ≤ 160 → (μ.2.2.1 10 ((μ.1 11).toInt - 1).toNat).toInt ≤ i1.toInt → f0.toInt + 1 ≤ i1.toInt → (o.toInt ≤ 0 → f0.toInt + 2 ≤ i1.toInt) → 0 ≤ o.toInt → o.toInt ≤ k.toInt + 1 → dres τ μ (Xdesk_putWrittenText_L21 f (some nr) s0 o k τ) (F_brackets_L14 f0 f' v2 o i1 μ) := by
  intro n
  have z0 : (0 : Int32).toInt = 0 := rfl
  have z1 : (1 : Int32).toInt = 1 := rfl
  have z160 : (160 : Int32).toInt = 160 := rfl
  induction n with
  | zero =>
    intro f f' τ i1 o k hn hs hr hw hsz hf hf' hk0 hk hat hfi hoi ho0 hok
    obtain ⟨f, rfl⟩ : ∃ x, f = x + 1 := ⟨f - 1, by omega⟩
    obtain ⟨f', rfl⟩ : ∃ x, f' = x + 1 := ⟨f' - 1, by omega⟩
    obtain ⟨-, hl2⟩ := look_eq hr hn.nx
    have hl0 := hl2 (by omega)
    have hv2N : v2.toNatClampNeg = ((μ.1 11).toInt - 1).toNat := by rw [hv2]; exact (ix_lv (i := 0) hn.2.1 hn.1.2.2 (by decide)).1
    have hsi : μ.2.2.1 9 v2.toNatClampNeg ≤ i1 := by rw [hv2N, Int32.le_iff_toInt_le]; omega
    by_cases ho : o ≤ 0
    · have ho' := ho; rw [Int32.le_iff_toInt_le, z0] at ho'
      have hend := brk_end (v2 := v2) hs hw hn h16 hv2 hf0 (hoi ho') hs0 hat
      have hno : ¬ (0 : Int32) < o := by rw [Int32.lt_iff_toInt_lt]; omega
      have hX : Xdesk_putWrittenText_L21 (f + 1) (some nr) s0 o k τ = Xsh_putText τ 6 (some nr) s0 (((Xnest_position τ) - 1) - s0) := by
        rw [Xdesk_putWrittenText_L21]
        simp only [ho, hno, ↓reduceIte, ite_self]
        cases Xsh_putText τ 6 (some nr) s0 (((Xnest_position τ) - 1) - s0) <;> rfl
      have hM : F_brackets_L14 f0 (f' + 1) v2 o i1 μ = (let q_81 := F_room μ; if q_81.1 = 0 then (0, q_81.2) else F_brackets_L100 f0 ((((i1 - f0) - 2).toInt.toNat + 1)) v2 i1 ((i1 - f0) - 2) 0 μ) := by
        rw [F_brackets_L14]
        simp only [ho, hsi, ↓reduceIte]
      rw [hX, hM]
      exact hend
    · have ho' := ho; rw [Int32.le_iff_toInt_le, z0] at ho'
      have hno : (0 : Int32) < o := by rw [Int32.lt_iff_toInt_lt]; omega
      refine dres_no (u := τ) (ν := si μ 16 1) (E := "java/lang/IllegalArgumentException") ?_ ?_ ⟨ST_sfm (sfm_si16 sfm_rf) hs, rs.rf, rfl, kmP_km (km_sfm (sfm_si16 sfm_rf)), by rw [xcd_1]; exact z16, hw⟩
      · rw [Xdesk_putWrittenText_L21]
        simp only [ho, hno, hl0, ↓reduceIte, ite_self]
      · rw [F_brackets_L14]
        simp only [ho, hsi, ↓reduceIte]
  | succ n ih =>
    intro f f' τ i1 o k hn hs hr hw hsz hf hf' hk0 hk hat hfi hoi ho0 hok
    obtain ⟨f, rfl⟩ : ∃ x, f = x + 1 := ⟨f - 1, by omega⟩
    obtain ⟨f', rfl⟩ : ∃ x, f' = x + 1 := ⟨f' - 1, by omega⟩
    obtain ⟨hl1, -⟩ := look_eq hr hn.nx
    obtain ⟨hl3, hlp, hlq⟩ := hl1 (by omega)
    obtain ⟨-, -, -, -, -, a6, a7, a8, -, -⟩ := hn.2.2.2
    have hv2N : v2.toNatClampNeg = ((μ.1 11).toInt - 1).toNat := by rw [hv2]; exact (ix_lv (i := 0) hn.2.1 hn.1.2.2 (by decide)).1
    have hix : ((160 * v2) + i1).toNatClampNeg = 160 * ((μ.1 11).toInt - 1).toNat + i1.toInt.toNat := by rw [hv2]; exact (ix_lv (i := i1) hn.2.1 hn.1.2.2 (by omega)).2
    have hsi : ¬ μ.2.2.1 9 v2.toNatClampNeg ≤ i1 := by rw [hv2N, Int32.le_iff_toInt_le]; omega
    have hkn : ¬ (160 : Int32) ≤ k := by rw [Int32.le_iff_toInt_le]; omega
    by_cases ho : o ≤ 0
    · have ho' := ho; rw [Int32.le_iff_toInt_le, z0] at ho'
      have hend := brk_end (v2 := v2) hs hw hn h16 hv2 hf0 (hoi ho') hs0 hat
      have hX : Xdesk_putWrittenText_L21 (f + 1) (some nr) s0 o k τ = Xsh_putText τ 6 (some nr) s0 (((Xnest_position τ) - 1) - s0) := by
        rw [Xdesk_putWrittenText_L21]
        simp only [ho, hkn, ↓reduceIte]
        cases Xsh_putText τ 6 (some nr) s0 (((Xnest_position τ) - 1) - s0) <;> rfl
      have hM : F_brackets_L14 f0 (f' + 1) v2 o i1 μ = (let q_81 := F_room μ; if q_81.1 = 0 then (0, q_81.2) else F_brackets_L100 f0 ((((i1 - f0) - 2).toInt.toNat + 1)) v2 i1 ((i1 - f0) - 2) 0 μ) := by
        rw [F_brackets_L14]
        simp only [ho, hsi, ↓reduceIte]
      rw [hX, hM]
      exact hend
    · have ho' := ho; rw [Int32.le_iff_toInt_le, z0] at ho'
      have ek : (k + 1).toInt = k.toInt + 1 := i_addE rfl z1 (by omega) (by omega)
      have ei : (i1 + 1).toInt = i1.toInt + 1 := i_addE rfl z1 (by omega) (by omega)
      have eo : (o + 1).toInt = o.toInt + 1 := i_addE rfl z1 (by omega) (by omega)
      have eo' : (o + -1).toInt = o.toInt - 1 := i_addE rfl (show (-1 : Int32).toInt = -1 from rfl) (by omega) (by omega)
      have hnx := pass_NXA hn (by omega)
      rw [← ei] at hnx
      have hkp := pass_kp (σ := τ)
      have hs' := ST_kp hkp hs
      have hr' := rok_rs hkp.1 hr
      have hw' := pass_wf hw
      have hl0 : ¬ Xnest_look τ = 0 := fun e => by rw [e] at hlp; exact absurd hlp (by decide)
      have hl4 := hl3.symm
      clear hl1 hl3
      generalize hc : Xnest_look τ = c at *
      by_cases h91 : c = 91
      · have hX : Xdesk_putWrittenText_L21 (f + 1) (some nr) s0 o k τ = Xdesk_putWrittenText_L21 f (some nr) s0 (o + 1) (k + 1) (Xnest_pass τ) := by
          rw [Xdesk_putWrittenText_L21]
          simp only [ho, hkn, hc, h91, show ¬ (91 : Int32) = 0 by decide, ↓reduceIte]
        have hM : F_brackets_L14 f0 (f' + 1) v2 o i1 μ = F_brackets_L14 f0 f' v2 (o + 1) (i1 + 1) μ := by
          rw [F_brackets_L14]
          simp only [ho, hsi, hix, hl4, h91, ↓reduceIte]
        rw [hX, hM]
        clear hix hX hM hl4 hsi hkn hv2N
        obtain ⟨q1, q2, q3, q4, q5, q6, q7, q8⟩ := brk_ar hsz hk0 hk hat hfi ho' hok ei ek (Or.inl eo)
        exact dres_kp hkp (ih f f' _ (i1 + 1) (o + 1) (k + 1) hnx hs' hr' hw' q1 (Nat.lt_of_succ_lt_succ hf) (Nat.lt_of_succ_lt_succ hf') q2 q3 q4 q5 q6 q7 q8)
      · by_cases h93 : c = 93
        · have hX : Xdesk_putWrittenText_L21 (f + 1) (some nr) s0 o k τ = Xdesk_putWrittenText_L21 f (some nr) s0 (o + -1) (k + 1) (Xnest_pass τ) := by
            rw [Xdesk_putWrittenText_L21]
            simp only [ho, hkn, hc, h93, show ¬ (93 : Int32) = 0 by decide, show ¬ (93 : Int32) = 91 by decide, ↓reduceIte]
          have hM : F_brackets_L14 f0 (f' + 1) v2 o i1 μ = F_brackets_L14 f0 f' v2 (o + -1) (i1 + 1) μ := by
            rw [F_brackets_L14]
            simp only [ho, hsi, hix, hl4, h93, show ¬ (93 : Int32) = 91 by decide, ↓reduceIte]
          rw [hX, hM]
          clear hix hX hM hl4 hsi hkn hv2N
          obtain ⟨q1, q2, q3, q4, q5, q6, q7, q8⟩ := brk_ar hsz hk0 hk hat hfi ho' hok ei ek (Or.inr (Or.inl eo'))
          exact dres_kp hkp (ih f f' _ (i1 + 1) (o + -1) (k + 1) hnx hs' hr' hw' q1 (Nat.lt_of_succ_lt_succ hf) (Nat.lt_of_succ_lt_succ hf') q2 q3 q4 q5 q6 q7 q8)
        · have hX : Xdesk_putWrittenText_L21 (f + 1) (some nr) s0 o k τ = Xdesk_putWrittenText_L21 f (some nr) s0 o (k + 1) (Xnest_pass τ) := by
            rw [Xdesk_putWrittenText_L21]
            simp only [ho, hkn, hc, hl0, h91, h93, ↓reduceIte]
          have hM : F_brackets_L14 f0 (f' + 1) v2 o i1 μ = F_brackets_L14 f0 f' v2 o (i1 + 1) μ := by
            rw [F_brackets_L14]
            simp only [ho, hsi, hix, hl4, h91, h93, ↓reduceIte]
          rw [hX, hM]
          clear hix hX hM hl4 hsi hkn hv2N
          obtain ⟨q1, q2, q3, q4, q5, q6, q7, q8⟩ := brk_ar hsz hk0 hk hat hfi ho' hok ei ek (Or.inr (Or.inr rfl))
          exact dres_kp hkp (ih f f' _ (i1 + 1) o (k + 1) hnx hs' hr' hw' q1 (Nat.lt_of_succ_lt_succ hf) (Nat.lt_of_succ_lt_succ hf') q2 q3 q4 q5 q6 q7 q8)
