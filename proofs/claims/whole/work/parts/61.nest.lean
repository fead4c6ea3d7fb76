def blk (c : Int32) : Prop := c = 32 ∨ c = 10
/-- a text under way: row n from st on, reached at a; the reference may still have blanks ahead of a -/
def lvA (σ : XS) (l : Nat) (μ : MS) (n : Nat) (st a : Int) : Prop := σ.2.2.2.1 3 l = some n ∧ xv σ n ∧ 0 ≤ st ∧ (σ.2.1 4 l).toInt = st + a ∧ (σ.2.1 5 l).toInt = st + (μ.2.2.1 9 l).toInt ∧ 0 ≤ a ∧ a ≤ (μ.2.2.1 9 l).toInt ∧ (μ.2.2.1 9 l).toInt ≤ 160 ∧ st + (μ.2.2.1 9 l).toInt ≤ (σ.1 n).toInt ∧ ∀ j : Nat, (j : Int) < (μ.2.2.1 9 l).toInt → σ.2.1 (n + 1) (st.toNat + j) = μ.2.2.1 8 (160 * l + j)
def lvl (σ : XS) (l : Nat) (μ : MS) : Prop := ∃ (n : Nat) (st a : Int), lvA σ l μ n st a ∧ 0 ≤ (μ.2.2.1 10 l).toInt ∧ (μ.2.2.1 10 l).toInt ≤ a ∧ ∀ j : Nat, (μ.2.2.1 10 l).toInt ≤ j → (j : Int) < a → blk (μ.2.2.1 8 (160 * l + j))
def cntR (σ : XS) (μ : MS) : Prop := σ.1 2 = μ.1 11 ∧ 0 ≤ (μ.1 11).toInt ∧ (μ.1 11).toInt ≤ 12
def NR (σ : XS) (μ : MS) : Prop := cntR σ μ ∧ ∀ l : Nat, (l : Int) < (μ.1 11).toInt → lvl σ l μ
/-- the innermost text is reached at i just so -/
def NX (σ : XS) (μ : MS) (i : Int) : Prop := cntR σ μ ∧ 1 ≤ (μ.1 11).toInt ∧ (∀ l : Nat, (l : Int) < (μ.1 11).toInt - 1 → lvl σ l μ) ∧ ∃ (n : Nat) (st : Int), lvA σ ((μ.1 11).toInt - 1).toNat μ n st i
theorem lvA_keep {σ τ : XS} {μ ν : MS} {l n : Nat} {st a : Int} (h : rs σ τ) (h3 : τ.2.2.2.1 3 l = σ.2.2.2.1 3 l) (h4 : τ.2.1 4 l = σ.2.1 4 l) (h5 : τ.2.1 5 l = σ.2.1 5 l) (m8 : ν.2.2.1 8 = μ.2.2.1 8) (m9 : ν.2.2.1 9 l = μ.2.2.1 9 l) (hl : lvA σ l μ n st a) : lvA τ l ν n st a := by
  obtain ⟨a1, a2, a3, a4, a5, a6, a7, a8, a9, a10⟩ := hl
  have h36 := a2.1
  unfold lvA
  rw [h3, h4, h5, m8, m9, (h.2 n h36).1, (h.2 (n + 1) (by omega)).2]
  exact ⟨a1, rs_v h a2, a3, a4, a5, a6, a7, a8, a9, a10⟩
theorem lvl_keep {σ τ : XS} {μ ν : MS} {l : Nat} (h : rs σ τ) (h3 : τ.2.2.2.1 3 l = σ.2.2.2.1 3 l) (h4 : τ.2.1 4 l = σ.2.1 4 l) (h5 : τ.2.1 5 l = σ.2.1 5 l) (m8 : ν.2.2.1 8 = μ.2.2.1 8) (m9 : ν.2.2.1 9 l = μ.2.2.1 9 l) (m10 : ν.2.2.1 10 l = μ.2.2.1 10 l) (hl : lvl σ l μ) : lvl τ l ν := by
  obtain ⟨n, st, a, b1, b2, b3, b4⟩ := hl
  refine ⟨n, st, a, lvA_keep h h3 h4 h5 m8 m9 b1, ?_⟩
  rw [m10, m8]
  exact ⟨b2, b3, b4⟩
theorem NR_keep {σ τ : XS} {μ ν : MS} (h : kx σ τ) (hm : km μ ν) (hn : NR σ μ) : NR τ ν := by
  obtain ⟨⟨c1, c2, c3⟩, hl⟩ := hn
  obtain ⟨hr, ⟨q1, q2, q3, q4⟩, -⟩ := h
  obtain ⟨⟨m1, m2, m3, m4⟩, -⟩ := hm
  refine ⟨⟨by rw [q1, m1]; exact c1, by rw [m1]; exact c2, by rw [m1]; exact c3⟩, fun l hl9 => ?_⟩
  rw [m1] at hl9
  exact lvl_keep hr (by rw [q2]) (by rw [q3]) (by rw [q4]) m2 (by rw [m3]) (by rw [m4]) (hl l hl9)
theorem NX_keep {σ τ : XS} {μ ν : MS} {i : Int} (h : kx σ τ) (hm : km μ ν) (hn : NX σ μ i) : NX τ ν i := by
  obtain ⟨⟨c1, c2, c3⟩, c4, hl, n, st, ha⟩ := hn
  obtain ⟨hr, ⟨q1, q2, q3, q4⟩, -⟩ := h
  obtain ⟨⟨m1, m2, m3, m4⟩, -⟩ := hm
  refine ⟨⟨by rw [q1, m1]; exact c1, by rw [m1]; exact c2, by rw [m1]; exact c3⟩, by rw [m1]; exact c4, fun l hl9 => ?_, n, st, ?_⟩
  · rw [m1] at hl9
    exact lvl_keep hr (by rw [q2]) (by rw [q3]) (by rw [q4]) m2 (by rw [m3]) (by rw [m4]) (hl l hl9)
  · rw [m1]
    exact lvA_keep hr (by rw [q2]) (by rw [q3]) (by rw [q4]) m2 (by rw [m3]) ha
/-- the reference's place set to the one that is reached -/
theorem NX_NR {σ : XS} {μ ν : MS} {i : Int} {v : Int32} (hv : v.toInt = i) (hn : NX σ μ i) (hν : ν.2.2.1 10 = upd (μ.2.2.1 10) ((μ.1 11).toInt - 1).toNat v) (m8 : ν.2.2.1 8 = μ.2.2.1 8) (m9 : ν.2.2.1 9 = μ.2.2.1 9) (m11 : ν.1 11 = μ.1 11) : NR σ ν := by
  obtain ⟨⟨c1, c2, c3⟩, c4, hl, n, st, ha⟩ := hn
  refine ⟨⟨by rw [m11]; exact c1, by rw [m11]; exact c2, by rw [m11]; exact c3⟩, fun l hl9 => ?_⟩
  rw [m11] at hl9
  by_cases e : l = ((μ.1 11).toInt - 1).toNat
  · subst e
    have h10 : ν.2.2.1 10 ((μ.1 11).toInt - 1).toNat = v := by rw [hν]; unfold upd; rw [if_pos rfl]
    refine ⟨n, st, i, lvA_keep rs.rf rfl rfl rfl m8 (by rw [m9]) ha, ?_⟩
    rw [h10, hv]
    exact ⟨ha.2.2.2.2.2.1, Int.le_refl _, fun j h1 h2 => by omega⟩
  · exact lvl_keep rs.rf rfl rfl rfl m8 (by rw [m9]) (by rw [hν]; unfold upd; rw [if_neg e]) (hl l (by omega))
theorem uw_yes {σ : XS} {μ : MS} (h : cntR σ μ) (h1 : 1 ≤ (μ.1 11).toInt) : Xnest_isUnderWay σ = 1 ∧ (σ.1 2 - 1).toNatClampNeg = ((μ.1 11).toInt - 1).toNat ∧ (σ.1 2 - 1).toInt = (μ.1 11).toInt - 1 := by
  obtain ⟨c1, c2, c3⟩ := h
  have z0 : (0 : Int32).toInt = 0 := rfl
  have z12 : (12 : Int32).toInt = 12 := rfl
  have e : (σ.1 2 - 1).toInt = (μ.1 11).toInt - 1 := by rw [c1]; exact i_subE rfl (show (1 : Int32).toInt = 1 from rfl) (by omega) (by omega)
  refine ⟨?_, by rw [← Int32.toNat_toInt, e], e⟩
  unfold Xnest_isUnderWay
  rw [c1, if_neg (by rw [Int32.le_iff_toInt_le]; omega), if_neg (by rw [Int32.lt_iff_toInt_lt]; omega)]
/-- the character that is reached -/
theorem look_eq {σ : XS} {μ : MS} {i : Int} (hr : rok σ) (h : NX σ μ i) : (i < (μ.2.2.1 9 ((μ.1 11).toInt - 1).toNat).toInt → Xnest_look σ = μ.2.2.1 8 (160 * ((μ.1 11).toInt - 1).toNat + i.toNat) ∧ 0 < (Xnest_look σ).toInt ∧ (Xnest_look σ).toInt ≤ 127) ∧ (¬ i < (μ.2.2.1 9 ((μ.1 11).toInt - 1).toNat).toInt → Xnest_look σ = 0) := by
  obtain ⟨hc, h1, -, n, st, a1, a2, a3, a4, a5, a6, a7, a8, a9, a10⟩ := h
  obtain ⟨u1, u2, -⟩ := uw_yes hc h1
  obtain ⟨r1, r2, r3⟩ := hr n a2
  have z0 : (0 : Int32).toInt = 0 := rfl
  have z160 : (160 : Int32).toInt = 160 := rfl
  unfold Xnest_look
  rw [u1, if_neg (by decide), u2]
  refine ⟨fun hlt => ?_, fun hge => ?_⟩
  · rw [if_pos (by rw [Int32.lt_iff_toInt_lt, a4, a5]; omega), a1]
    have hN : (σ.2.1 4 ((μ.1 11).toInt - 1).toNat).toNatClampNeg = st.toNat + i.toNat := by rw [← Int32.toNat_toInt, a4]; omega
    have hch : Xrow_charAt σ n (σ.2.1 4 ((μ.1 11).toInt - 1).toNat) = σ.2.1 (n + 1) (st.toNat + i.toNat) := by
      unfold Xrow_charAt
      rw [if_neg (by rw [Int32.lt_iff_toInt_lt, a4]; omega), if_neg (by rw [Int32.le_iff_toInt_le, a4]; omega), if_pos (by rw [Int32.lt_iff_toInt_lt, a4]; omega), hN]
    show Xrow_charAt σ n (σ.2.1 4 ((μ.1 11).toInt - 1).toNat) = _ ∧ 0 < (Xrow_charAt σ n (σ.2.1 4 ((μ.1 11).toInt - 1).toNat)).toInt ∧ (Xrow_charAt σ n (σ.2.1 4 ((μ.1 11).toInt - 1).toNat)).toInt ≤ 127
    rw [hch]
    exact ⟨a10 i.toNat (by omega), (r3 (st.toNat + i.toNat) (by omega)).1, (r3 (st.toNat + i.toNat) (by omega)).2⟩
  · rw [if_neg (by rw [Int32.lt_iff_toInt_lt, a4, a5]; omega)]
theorem ix_lv {μ : MS} {i : Int32} (h1 : 1 ≤ (μ.1 11).toInt) (h2 : (μ.1 11).toInt ≤ 12) (hi : 0 ≤ i.toInt ∧ i.toInt ≤ 160) : (μ.1 11 - 1).toNatClampNeg = ((μ.1 11).toInt - 1).toNat ∧ ((160 * (μ.1 11 - 1)) + i).toNatClampNeg = 160 * ((μ.1 11).toInt - 1).toNat + i.toInt.toNat := by
  have e : (μ.1 11 - 1).toInt = (μ.1 11).toInt - 1 := i_subE rfl (show (1 : Int32).toInt = 1 from rfl) (by omega) (by omega)
  refine ⟨by rw [← Int32.toNat_toInt, e], ?_⟩
  rw [ix160 (t := μ.1 11 - 1) (k := i) (by omega) hi, e]
theorem look_M {σ : XS} {μ : MS} {i : Int32} (hr : rok σ) (h : NX σ μ i.toInt) : F_charAt μ (μ.1 11 - 1) i = Xnest_look σ := by
  obtain ⟨hc, h1, -, n, st, ha⟩ := id h
  obtain ⟨l1, l2⟩ := look_eq hr h
  obtain ⟨-, -, -, -, -, a6, a7, a8, -, -⟩ := ha
  obtain ⟨e1, e2⟩ := ix_lv (i := i) h1 hc.2.2 (by omega)
  unfold F_charAt
  rw [e1, e2]
  by_cases hlt : i.toInt < (μ.2.2.1 9 ((μ.1 11).toInt - 1).toNat).toInt
  · rw [if_neg (by rw [Int32.le_iff_toInt_le]; omega), (l1 hlt).1]
  · rw [if_pos (by rw [Int32.le_iff_toInt_le]; omega), l2 hlt]
/-- only the reached places differ -/
def kp (σ τ : XS) : Prop := rs σ τ ∧ τ.1 = σ.1 ∧ τ.2.2.1 = σ.2.2.1 ∧ τ.2.2.2.1 = σ.2.2.2.1 ∧ ∀ k, k ≠ 4 → τ.2.1 k = σ.2.1 k
theorem kp.rf {σ : XS} : kp σ σ := ⟨rs.rf, rfl, rfl, rfl, fun _ _ => rfl⟩
theorem kp.tr {σ τ υ : XS} (h : kp σ τ) (h2 : kp τ υ) : kp σ υ := ⟨h.1.tr h2.1, h2.2.1.trans h.2.1, h2.2.2.1.trans h.2.2.1, h2.2.2.2.1.trans h.2.2.2.1, fun k hk => (h2.2.2.2.2 k hk).trans (h.2.2.2.2 k hk)⟩
theorem pass_kp {σ : XS} : kp σ (Xnest_pass σ) := by
  unfold Xnest_pass
  split
  · exact kp.rf
  · refine ⟨⟨rfl, fun n hn => ⟨rfl, ?_⟩⟩, rfl, rfl, rfl, fun k hk => ?_⟩
    · simp only [xa]; rw [if_neg (by omega)]
    · simp only [xa]; rw [if_neg hk]
theorem kp_shq {σ τ : XS} (h : kp σ τ) {c : Nat} (hc : c ∈ shN) : shq σ τ c := by
  have := shN_lt hc
  obtain ⟨-, h1, h2, h3, h4⟩ := h
  exact ⟨by rw [h1], by rw [h2], h4 _ (by omega), by rw [h3], h4 _ (by omega)⟩
theorem ST_kp {σ τ : XS} {μ : MS} (h : kp σ τ) (hs : ST σ μ) : ST τ μ := by
  obtain ⟨s1, s2, s3, s4, s5⟩ := hs
  refine ⟨shr_keep h.1 (kp_shq h (by decide)) (fun _ _ => msame.rf) s1, fun r hr => shr_keep h.1 (kp_shq h (regsh hr)) (fun _ _ => msame.rf) (s2 r hr), prn_keep (kp_shq h (by decide)) mrest.rf s3, by rw [h.2.1]; exact s4, s5⟩
theorem pass_NX {σ : XS} {μ : MS} {i : Int} (h : NX σ μ i) (hi : i < (μ.2.2.1 9 ((μ.1 11).toInt - 1).toNat).toInt) : NX (Xnest_pass σ) μ (i + 1) := by
  obtain ⟨hc, h1, hl, n, st, ha⟩ := h
  obtain ⟨u1, u2, -⟩ := uw_yes hc h1
  have hk := pass_kp (σ := σ)
  have he : Xnest_pass σ = xa σ 4 ((μ.1 11).toInt - 1).toNat (σ.2.1 4 ((μ.1 11).toInt - 1).toNat + 1) := by
    unfold Xnest_pass; rw [u1, if_neg (by decide), u2]
  have hc' := hc
  refine ⟨⟨by rw [hk.2.1]; exact hc.1, hc.2⟩, h1, fun l hl9 => ?_, n, st, ?_⟩
  · exact lvl_keep hk.1 (by rw [hk.2.2.2.1]) (by rw [he]; simp only [xa, ↓reduceIte, upd]; rw [if_neg (by omega)]) (by rw [hk.2.2.2.2 5 (by decide)]) rfl rfl rfl (hl l hl9)
  · obtain ⟨a1, a2, a3, a4, a5, a6, a7, a8, a9, a10⟩ := ha
    have h36 := a2.1
    have e4 : ((Xnest_pass σ).2.1 4 ((μ.1 11).toInt - 1).toNat).toInt = st + (i + 1) := by
      rw [he]
      show ((if 4 = 4 then upd (σ.2.1 4) ((μ.1 11).toInt - 1).toNat (σ.2.1 4 ((μ.1 11).toInt - 1).toNat + 1) else σ.2.1 4) ((μ.1 11).toInt - 1).toNat).toInt = _
      rw [if_pos rfl]
      unfold upd
      rw [if_pos rfl]
      have hb := Int32.toInt_lt (σ.2.1 5 ((μ.1 11).toInt - 1).toNat)
      rw [i_addE a4 (show (1 : Int32).toInt = 1 from rfl) (by omega) (by omega)]
      omega
    refine ⟨by rw [hk.2.2.2.1]; exact a1, rs_v hk.1 a2, a3, e4, by rw [hk.2.2.2.2 5 (by decide)]; exact a5, by omega, by omega, a8, by rw [hk.2.1]; exact a9, ?_⟩
    rw [hk.2.2.2.2 (n + 1) (by omega)]
    exact a10
/-- what lasts from run to run -/
def PS (σ : XS) (μ : MS) : Prop := xWF σ ∧ rok σ ∧ ST σ μ ∧ prg σ μ ∧ σ.1 1 = μ.1 15
theorem prg_keep {σ τ : XS} {μ ν : MS} (hw : xWF σ) (h : rs σ τ) (h1 : ν.1 1 = μ.1 1) (h0 : ν.2.2.1 0 = μ.2.2.1 0) (hp : prg σ μ) : prg τ ν := by
  have h36 := hw.2.1
  unfold prg at *
  rw [show τ.2.2.2.2.1 = σ.2.2.2.2.1 by rw [h.1], (h.2 _ h36).1, (h.2 (σ.2.2.2.2.1 + 1) (by omega)).2, h1, h0]
  exact hp
theorem PS_good {σ u : XS} {μ ν : MS} (h : PS σ μ) (hg : ST u ν ∧ kx σ u ∧ km μ ν) (hw : xWF u) : PS u ν := by
  obtain ⟨p1, p2, p3, p4, p5⟩ := h
  obtain ⟨g1, g2, g3⟩ := hg
  exact ⟨hw, rok_rs g2.1 p2, g1, prg_keep p1 g2.1 g3.2.1 g3.2.2.1 p4, by rw [g2.2.2, g3.2.2.2.1]; exact p5⟩
theorem PS_kp {σ τ : XS} {μ : MS} (h : kp σ τ) (hp : PS σ μ) (hw : xWF τ) : PS τ μ := by
  obtain ⟨p1, p2, p3, p4, p5⟩ := hp
  exact ⟨hw, rok_rs h.1 p2, ST_kp h p3, prg_keep p1 h.1 rfl rfl p4, by rw [h.2.1]; exact p5⟩
