theorem sum_n {μ ξ : MS} {b : Int32} (h : F_numbers μ 2 = (0, ξ)) : F_sum μ b = (0, ξ) := by unfold F_sum; simp only [h, ↓reduceIte]
theorem times_n {μ ξ : MS} (h : F_numbers μ 2 = (0, ξ)) : F_times μ = (0, ξ) := by unfold F_times; simp only [h, ↓reduceIte]
theorem quo_n {μ ξ : MS} (h : F_numbers μ 2 = (0, ξ)) : F_quotient μ = (0, ξ) := by unfold F_quotient; simp only [h, ↓reduceIte]
theorem root_n {μ ξ : MS} (h : F_numbers μ 1 = (0, ξ)) : F_root μ = (0, ξ) := by unfold F_root; simp only [h, ↓reduceIte]
/-- a calculation's end in the reference -/
def calE (μ : MS) (q : Int32 × MS) (n : Int32) : Int32 × MS := if q.1 = 0 then (0, si (sm (si μ 16 (q.2.1 16)) q.2.2.1) 20 (q.2.1 20)) else (1, si (sa (sb (si (si (sm (si μ 16 (q.2.1 16)) q.2.2.1) 20 (q.2.1 20)) 5 (μ.1 5 - n)) 2 (μ.1 5 - n).toNatClampNeg q.2.2.1) 3 (μ.1 5 - n).toNatClampNeg (q.2.1 20)) 5 (μ.1 5 - n + 1))
theorem cal_43 {μ : MS} : F_calculates μ 43 = calE μ (F_sum μ 0) 2 := by unfold F_calculates; rw [if_pos rfl]; rfl
theorem cal_45 {μ : MS} : F_calculates μ 45 = calE μ (F_sum μ 1) 2 := by unfold F_calculates; rw [if_neg (by decide), if_pos rfl]; rfl
theorem cal_42 {μ : MS} : F_calculates μ 42 = calE μ (F_times μ) 2 := by unfold F_calculates; rw [if_neg (by decide), if_neg (by decide), if_pos rfl]; rfl
theorem cal_47 {μ : MS} : F_calculates μ 47 = calE μ (F_quotient μ) 2 := by unfold F_calculates; rw [if_neg (by decide), if_neg (by decide), if_neg (by decide), if_pos rfl]; rfl
theorem cal_37 {μ : MS} : F_calculates μ 37 = calE μ (F_rest μ) 2 := by unfold F_calculates; rw [if_neg (by decide), if_neg (by decide), if_neg (by decide), if_neg (by decide), if_pos rfl]; rfl
theorem cal_118 {μ : MS} : F_calculates μ 118 = calE μ (F_root μ) 1 := by unfold F_calculates; rw [if_neg (by decide), if_neg (by decide), if_neg (by decide), if_neg (by decide), if_neg (by decide), if_pos rfl]; rfl
theorem calE_no {μ μ1 : MS} {f : Int32} {q : Int32 × MS} {n : Int32} (hq : q = (0, μ1)) (h : noC μ μ1 f) : ∃ ν, calE μ q n = (0, ν) ∧ noC μ ν f := by
  subst hq
  unfold calE
  rw [if_pos rfl]
  exact ⟨_, rfl, sfm_si20 (sfm_sm (sfm_si16 sfm_rf)), by rw [← h.2]; simp [sm, si, upd]⟩
theorem putNum_eq {σ u : XS} {v : Int64} {p : Int32} (h : Xsh_put σ 6 v p none 0 = .inr u) : Xsh_putNumber σ 6 v p = .inr u := by unfold Xsh_putNumber; rw [h]
/-- a number comes in the place of the n topmost items -/
theorem fin_num {σ : XS} {μ B ν : MS} {n : Int32} {v : Int64} {p : Int32} (h : ST σ μ) (h0 : 0 ≤ n.toInt) (h1 : n.toInt ≤ (μ.1 5).toInt) (h2 : (μ.1 5).toInt - n.toInt < 40) (hv : fit v.toInt) (hp : pls p) (hB : ∀ k, k ≠ 16 → k ≠ 20 → B.1 k = μ.1 k) (hB2 : B.2.2 = μ.2.2) (h16 : B.1 16 = 0) (hν : ν = si (sa (sb (si B 5 (μ.1 5 - n)) 2 (μ.1 5 - n).toNatClampNeg v) 3 (μ.1 5 - n).toNatClampNeg p) 5 (μ.1 5 - n + 1)) : ∃ u, Xsh_putNumber (Xsh_drop σ 6 n) 6 v p = .inr u ∧ good σ u μ ν := by
  obtain ⟨d1, d2, d3⟩ := h.depth
  obtain ⟨e, e9⟩ := clamp_sub h0 h1 (by omega)
  have b5 : (si B 5 (μ.1 5 - n)).1 5 = μ.1 5 - n := by simp [si, upd]
  have hN : ((si B 5 (μ.1 5 - n)).1 5).toInt.toNat = (μ.1 5 - n).toNatClampNeg := by rw [b5, e, e9]
  have hr : mrest μ (si B 5 (μ.1 5 - n)) := by
    refine ⟨?_, ?_, ?_, ?_⟩
    · rw [← hB 14 (by decide) (by decide)]; simp [si, upd]
    · rw [← hB 6 (by decide) (by decide)]; simp [si, upd]
    · show B.2.2.2 12 = _; rw [hB2]
    · show B.2.2.1 13 = _; rw [hB2]
  have hD := ST_drop (ν := si B 5 (μ.1 5 - n)) h h0 h1 b5 hr hB2
  have hP := ST_push (ν := ν) (v := v) (p := p) (r := none) (s := 0) hD (by rw [b5, e]; exact h2) (by rw [b5, hν]; simp [si, upd]) ⟨by rw [hν]; simp [si, sa, sb, upd], by rw [hν]; simp [si, sa, sb, upd], by rw [hν]; simp [si, sa, sb], by rw [hν]; simp [si, sa, sb]⟩ (by rw [hν]; simp [si, sa, sb]) (fun k hk hk9 => by
    rw [hN] at hk9
    rw [hν]
    refine ⟨by simp [si, sa, sb, vp_updL, hk9], by simp [si, sa, sb, upd, hk9], fun j _ => by simp [si, sa, sb]⟩) (by rw [hN, hν]; simp [si, sa, sb, vp_updL]) (by rw [hN, hν]; simp [si, sa, sb, upd]) (Or.inl ⟨rfl, hp, hv⟩)
  refine ⟨_, putNum_eq hP.1, hP.2, (drop_kx (by decide)).tr (shput_kx (by decide)), ?_, ?_⟩
  · rw [hν]
    refine ⟨⟨?_, ?_, ?_, ?_⟩, ?_, ?_, ?_, ?_⟩
    · rw [← hB 11 (by decide) (by decide)]; simp [si, sa, sb, upd]
    · rw [← hB2]; simp [si, sa, sb]
    · rw [← hB2]; simp [si, sa, sb]
    · rw [← hB2]; simp [si, sa, sb]
    · rw [← hB 1 (by decide) (by decide)]; simp [si, sa, sb, upd]
    · rw [← hB2]; simp [si, sa, sb]
    · rw [← hB 15 (by decide) (by decide)]; simp [si, sa, sb, upd]
    · rw [← hB 18 (by decide) (by decide)]; simp [si, sa, sb, upd]
  · rw [hν, ← h16]; simp [si, sa, sb, upd]
theorem calE_ok {σ : XS} {μ μ1 : MS} {n : Int32} {v : Int64} {p : Int32} {q : Int32 × MS} (h : ST σ μ) (h0 : 0 < n.toInt) (h1 : n.toInt ≤ (μ.1 5).toInt) (hv : fit v.toInt) (hp : pls p) (hq : q = (1, μ1)) (ho : okC μ μ1 v p) : ∃ u ν, Xsh_putNumber (Xsh_drop σ 6 n) 6 v p = .inr u ∧ calE μ q n = (1, ν) ∧ good σ u μ ν := by
  obtain ⟨d1, d2, d3⟩ := h.depth
  obtain ⟨o1, o2, o3, o4⟩ := ho
  subst hq
  have hs : sfm μ (si (sm (si μ 16 0) v) 20 p) := sfm_si20 (sfm_sm (sfm_si16 sfm_rf))
  obtain ⟨u, hu, hg⟩ := fin_num (ν := si (sa (sb (si (si (sm (si μ 16 0) v) 20 p) 5 (μ.1 5 - n)) 2 (μ.1 5 - n).toNatClampNeg v) 3 (μ.1 5 - n).toNatClampNeg p) 5 (μ.1 5 - n + 1)) h (by omega) h1 (by omega) hv hp hs.1 hs.2 (by simp [sm, si, upd]) rfl
  refine ⟨u, _, hu, ?_, hg⟩
  unfold calE
  simp only [show ¬ (1 : Int32) = 0 by decide, o2, o3, o4, ↓reduceIte]
theorem zsub {a : Int} : a - 1 - 1 = a - 2 := by omega
/-- + - * / % -/
theorem calc_rel {σ : XS} {μ : MS} (h : ST σ μ) (hw : xWF σ) (h16 : μ.1 16 = 0) :
    cres σ μ (Xdesk_calculate σ 43) (F_calculates μ 43) ∧ cres σ μ (Xdesk_calculate σ 45) (F_calculates μ 45) ∧ cres σ μ (Xdesk_calculate σ 42) (F_calculates μ 42) ∧ cres σ μ (Xdesk_calculate σ 47) (F_calculates μ 47) ∧ cres σ μ (Xdesk_calculate σ 37) (F_calculates μ 37) := by
  rw [cal_43, cal_45, cal_42, cal_47, cal_37]
  have bads : ∀ (E : String) (f : Int32) (k : Int32), xcd E = f → Xdesk_needNumbers σ 2 = .inl (E, σ) → F_numbers μ 2 = (0, si μ 16 f) → Xdesk_calculate σ k = .inl (E, σ) := by
    intro E f k _ hx _
    unfold Xdesk_calculate; simp only [hx]
  rcases num2 h with ⟨hx, hm⟩ | ⟨hx, hm⟩ | ⟨hd, hx, hm, hq, hy, hp, hX⟩
  · have key : ∀ (q : Int32 × MS) (k : Int32), q = (0, si μ 16 2) → cres σ μ (Xdesk_calculate σ k) (calE μ q 2) := by
      intro q k hq
      obtain ⟨ν, e1, e2⟩ := calE_no (n := 2) hq noC_si
      exact cres_no (bads _ 2 k xcd_2 hx hm) e1 (bad_sfm hw h (by rw [xcd_2]; exact e2))
    obtain ⟨ν, e1, e2⟩ := F_rest_q (quo_n hm)
    rw [z16] at e2
    obtain ⟨ν2, f1, f2⟩ := calE_no (n := 2) e1 e2
    exact ⟨key _ _ (sum_n hm), key _ _ (sum_n hm), key _ _ (times_n hm), key _ _ (quo_n hm), cres_no (bads _ 2 37 xcd_2 hx hm) f1 (bad_sfm hw h (by rw [xcd_2]; exact f2))⟩
  · have key : ∀ (q : Int32 × MS) (k : Int32), q = (0, si μ 16 3) → cres σ μ (Xdesk_calculate σ k) (calE μ q 2) := by
      intro q k hq
      obtain ⟨ν, e1, e2⟩ := calE_no (n := 2) hq noC_si
      exact cres_no (bads _ 3 k xcd_3 hx hm) e1 (bad_sfm hw h (by rw [xcd_3]; exact e2))
    obtain ⟨ν, e1, e2⟩ := F_rest_q (quo_n hm)
    rw [z16] at e2
    obtain ⟨ν2, f1, f2⟩ := calE_no (n := 2) e1 e2
    exact ⟨key _ _ (sum_n hm), key _ _ (sum_n hm), key _ _ (times_n hm), key _ _ (quo_n hm), cres_no (bads _ 3 37 xcd_3 hx hm) f1 (bad_sfm hw h (by rw [xcd_3]; exact f2))⟩
  · obtain ⟨d1, d2, d3⟩ := h.depth
    have z0 : (0 : Int32).toInt = 0 := rfl
    have z1 : (1 : Int32).toInt = 1 := rfl
    have z2 : (2 : Int32).toInt = 2 := rfl
    have hk := h.2.2.2.2
    have ek : σ.1 0 = μ.1 6 := h.2.2.2.1
    have tx := topX (k := 1) h (by decide) (by rw [z1]; omega)
    have ty := topX (k := 0) h (by decide) (by rw [z0]; omega)
    rw [z1, zsub] at tx
    rw [z0, Int.sub_zero] at ty
    obtain ⟨-, c1⟩ := clamp_sub (d := μ.1 5) (k := 1) (by decide) (by rw [z1]; omega) (by omega)
    obtain ⟨-, c2⟩ := clamp_sub (d := μ.1 5) (k := 2) (by decide) (by rw [z2]; exact hd) (by omega)
    rw [z1] at c1; rw [z2] at c2
    have ex : μ.2.2.2 2 (μ.1 5 - 2).toNatClampNeg = μ.2.2.2 2 ((μ.1 5).toInt - 2).toNat := by rw [c2]
    have ey : μ.2.2.2 2 (μ.1 5 - 1).toNatClampNeg = μ.2.2.2 2 ((μ.1 5).toInt - 1).toNat := by rw [c1]
    have ep : μ.2.2.1 3 (μ.1 5 - 2).toNatClampNeg = μ.2.2.1 3 ((μ.1 5).toInt - 2).toNat := by rw [c2]
    have eq : μ.2.2.1 3 (μ.1 5 - 1).toNatClampNeg = μ.2.2.1 3 ((μ.1 5).toInt - 1).toNat := by rw [c1]
    generalize hxe : μ.2.2.2 2 ((μ.1 5).toInt - 2).toNat = x at *
    generalize hye : μ.2.2.2 2 ((μ.1 5).toInt - 1).toNat = y at *
    generalize hpe : μ.2.2.1 3 ((μ.1 5).toInt - 2).toNat = p at *
    generalize hqe : μ.2.2.1 3 ((μ.1 5).toInt - 1).toNat = q at *
    generalize hke : μ.1 6 = k at *
    have hg9 : pls (f_greater q p) := by unfold pls at *; rw [greater_toInt]; omega
    have hn2 : (0 : Int) < (2 : Int32).toInt := by decide
    have hd2 : (2 : Int32).toInt ≤ (μ.1 5).toInt := by rw [z2]; exact hd
    have bad5 : ∀ (r : Int32 × MS) (c : Int32) (μ1 : MS), r = (0, μ1) → noC μ μ1 5 → Xdesk_calculate σ c = .inl ("java/lang/UnsupportedOperationException", σ) → cres σ μ (Xdesk_calculate σ c) (calE μ r 2) := by
      intro r c μ1 hr hn hX9
      obtain ⟨ν, e1, e2⟩ := calE_no (n := 2) hr hn
      exact cres_no hX9 e1 (bad_sfm hw h (by rw [xcd_5]; exact e2))
    have bad4 : ∀ (r : Int32 × MS) (c : Int32) (μ1 : MS), r = (0, μ1) → noC μ μ1 4 → Xdesk_calculate σ c = .inl ("java/lang/ArithmeticException", σ) → cres σ μ (Xdesk_calculate σ c) (calE μ r 2) := by
      intro r c μ1 hr hn hX9
      obtain ⟨ν, e1, e2⟩ := calE_no (n := 2) hr hn
      exact cres_no hX9 e1 (bad_sfm hw h (by rw [xcd_4]; exact e2))
    refine ⟨?_, ?_, ?_, ?_, ?_⟩
    · by_cases hc : sumC x.toInt p.toInt y.toInt q.toInt
      · obtain ⟨r, f1, g1⟩ := D_sum_ok hX hy hp hq hc
        obtain ⟨r2, μ1, f2, g2, g3⟩ := F_sum_ok (b := 0) hm h16 ex ey ep eq hX hy hp hq (y' := y.toInt) (by rw [if_pos rfl]) hc
        have e : r2 = r := Int64.toInt_inj.mp (by rw [g1, g3])
        subst e
        obtain ⟨u, ν, a1, a2, a3⟩ := calE_ok h hn2 hd2 (by rw [g1]; exact hc.2.2) hg9 f2 g2
        refine cres_ok ?_ a2 a3
        unfold Xdesk_calculate
        simp only [hx]
        rw [if_neg (by decide), if_pos (by first | rfl | trivial)]
        simp only [tx.1, tx.2.1, ty.1, ty.2.1, f1, mx_eq, a1]
      · obtain ⟨μ1, f2, g2⟩ := F_sum_no (b := 0) hm h16 ex ey ep eq hX hy hp hq (y' := y.toInt) (by rw [if_pos rfl]) hc
        refine bad5 _ 43 μ1 f2 g2 ?_
        unfold Xdesk_calculate
        simp only [hx]
        rw [if_neg (by decide), if_pos (by first | rfl | trivial)]
        simp only [tx.1, tx.2.1, ty.1, ty.2.1, D_sum_no hX hy hp hq hc]
    · have hy' := hy
      unfold fit at hy'
      have en : (-y).toInt = -y.toInt := l_negE rfl (by omega) (by omega)
      have hyn : fit (-y).toInt := by rw [en]; unfold fit; omega
      by_cases hc : sumC x.toInt p.toInt (-y.toInt) q.toInt
      · obtain ⟨r, f1, g1⟩ := D_sum_ok hX hyn hp hq (by rw [en]; exact hc)
        obtain ⟨r2, μ1, f2, g2, g3⟩ := F_sum_ok (b := 1) hm h16 ex ey ep eq hX hy hp hq (y' := -y.toInt) (by rw [if_neg (by decide)]) hc
        rw [en] at g1
        have e : r2 = r := Int64.toInt_inj.mp (by rw [g1, g3])
        subst e
        obtain ⟨u, ν, a1, a2, a3⟩ := calE_ok h hn2 hd2 (by rw [g1]; exact hc.2.2) hg9 f2 g2
        refine cres_ok ?_ a2 a3
        unfold Xdesk_calculate
        simp only [hx]
        rw [if_neg (by decide), if_neg (by decide), if_neg (by decide), if_pos (by first | rfl | trivial)]
        simp only [tx.1, tx.2.1, ty.1, ty.2.1, f1, mx_eq, a1]
      · obtain ⟨μ1, f2, g2⟩ := F_sum_no (b := 1) hm h16 ex ey ep eq hX hy hp hq (y' := -y.toInt) (by rw [if_neg (by decide)]) hc
        refine bad5 _ 45 μ1 f2 g2 ?_
        unfold Xdesk_calculate
        simp only [hx]
        rw [if_neg (by decide), if_neg (by decide), if_neg (by decide), if_pos (by first | rfl | trivial)]
        simp only [tx.1, tx.2.1, ty.1, ty.2.1, D_sum_no hX hyn hp hq (by rw [en]; exact hc)]
    · have hP : (if (if k < (if p < q then q else p) then (if p < q then q else p) else k) < (p + q) then (if k < (if p < q then q else p) then (if p < q then q else p) else k) else (p + q)) = (if f_greater k (f_greater q p) ≤ q + p then f_greater k (f_greater q p) else q + p) := by
        apply Int32.toInt_inj.mp
        unfold pls at *
        have e1 : (p + q).toInt = p.toInt + q.toInt := i_addE rfl rfl (by omega) (by omega)
        have e2 : (q + p).toInt = q.toInt + p.toInt := i_addE rfl rfl (by omega) (by omega)
        rw [mn_toInt, mx_toInt, mx_toInt, e1]
        have e3 : (f_greater k (f_greater q p)).toInt = max k.toInt (max q.toInt p.toInt) := by rw [greater_toInt, greater_toInt]
        split
        · rename_i c9; rw [Int32.le_iff_toInt_le, e3, e2] at c9; rw [e3]; omega
        · rename_i c9; rw [Int32.le_iff_toInt_le, e3, e2] at c9; rw [e2]; omega
      have hs9 : pls (if f_greater k (f_greater q p) ≤ q + p then f_greater k (f_greater q p) else q + p) := by
        unfold pls at *
        have e2 : (q + p).toInt = q.toInt + p.toInt := i_addE rfl rfl (by omega) (by omega)
        have e3 : (f_greater k (f_greater q p)).toInt = max k.toInt (max q.toInt p.toInt) := by rw [greater_toInt, greater_toInt]
        split
        · rename_i c9; rw [e3]; omega
        · rename_i c9; rw [Int32.le_iff_toInt_le, e3, e2] at c9; rw [e2]; omega
      have hcut : (q + p - (if f_greater k (f_greater q p) ≤ q + p then f_greater k (f_greater q p) else q + p)).toInt ≤ 100 := by
        unfold pls at *
        have e2 : (q + p).toInt = q.toInt + p.toInt := i_addE rfl rfl (by omega) (by omega)
        rw [sub_toInt (by omega) (by omega)]; omega
      by_cases hc : fit (x.toInt * y.toInt)
      · obtain ⟨t1, t2⟩ := D_times_ok hX (Or.inl hy) hc
        obtain ⟨μ1, f2, g2⟩ := F_times_ok (s := if f_greater k (f_greater q p) ≤ q + p then f_greater k (f_greater q p) else q + p) hm h16 ex ey ep eq hX hy (by rw [hke]) hc
        have hcv := cut_toInt (v := x * y) hcut (by rw [t2]; exact hc)
        obtain ⟨u, ν, a1, a2, a3⟩ := calE_ok h hn2 hd2 (by rw [hcv, t2]; exact tdiv_fit hc) hs9 f2 g2
        refine cres_ok ?_ a2 a3
        unfold Xdesk_calculate
        simp only [hx]
        rw [if_pos (by first | rfl | trivial)]
        simp only [tx.1, tx.2.1, ty.1, ty.2.1, ek, t1, hP]
        simp only [Int32.add_comm p q, D_cut hcut (by rw [t2]; exact hc), a1]
      · obtain ⟨μ1, f2, g2⟩ := F_times_no hm h16 ex ey ep eq hX hy hc
        refine bad5 _ 42 μ1 f2 g2 ?_
        unfold Xdesk_calculate
        simp only [hx]
        rw [if_pos (by first | rfl | trivial)]
        simp only [tx.1, tx.2.1, ty.1, ty.2.1, D_times_no hX (Or.inl hy) hc]
    · by_cases hy0 : y.toInt = 0
      · have hz : y = 0 := Int64.toInt_inj.mp (by rw [hy0]; rfl)
        have f2 := F_quo_zero hm (by rw [ey]; exact hz)
        refine bad4 _ 47 _ f2 noC_si ?_
        unfold Xdesk_calculate
        simp only [hx]
        rw [if_neg (by decide), if_neg (by decide), if_neg (by decide), if_neg (by decide), if_neg (by decide), if_pos (by first | rfl | trivial)]
        simp only [tx.1, tx.2.1, ty.1, ty.2.1]
        unfold D_quotient
        rw [if_pos hz]
      · by_cases hc : quoC x.toInt y.toInt (k.toInt + q.toInt - p.toInt)
        · obtain ⟨r, f1, g1⟩ := D_quo_ok hX hy hy0 hp hq hk hc
          obtain ⟨r2, μ1, f2, g2, g3⟩ := F_quo_ok hm h16 ex ey ep eq hke hX hy hy0 hp hq hk hc
          have e : r2 = r := Int64.toInt_inj.mp (by rw [g1, g3])
          subst e
          obtain ⟨u, ν, a1, a2, a3⟩ := calE_ok h hn2 hd2 (by rw [g1]; exact quoV_fit hX hc) hk f2 g2
          refine cres_ok ?_ a2 a3
          unfold Xdesk_calculate
          simp only [hx]
          rw [if_neg (by decide), if_neg (by decide), if_neg (by decide), if_neg (by decide), if_neg (by decide), if_pos (by first | rfl | trivial)]
          simp only [tx.1, tx.2.1, ty.1, ty.2.1, ek, f1, a1]
        · have f2 := F_quo_no hm h16 ex ey ep eq hke hX hy hy0 hp hq hk hc
          refine bad5 _ 47 _ f2 noC_si ?_
          unfold Xdesk_calculate
          simp only [hx]
          rw [if_neg (by decide), if_neg (by decide), if_neg (by decide), if_neg (by decide), if_neg (by decide), if_pos (by first | rfl | trivial)]
          simp only [tx.1, tx.2.1, ty.1, ty.2.1, ek, D_quo_no hX hy hy0 hp hq hk hc]
    · have hX37 : ∀ (R : String ⊕ Int64), D_remainder x p y q k = R → Xdesk_calculate σ 37 = (match R with | .inl e9 => .inl (e9, σ) | .inr r250 => (match Xsh_putNumber (Xsh_drop σ 6 2) 6 r250 (if (k + q) < p then p else (k + q)) with | .inl e9 => .inl e9 | .inr u271 => .inr u271)) := by
        intro R hR
        unfold Xdesk_calculate
        simp only [hx]
        rw [if_neg (by decide), if_neg (by decide), if_neg (by decide), if_neg (by decide), if_neg (by decide), if_neg (by decide)]
        simp only [tx.1, tx.2.1, ty.1, ty.2.1, ek, hR]
        cases R with
        | inl E => rfl
        | inr r => cases Xsh_putNumber (Xsh_drop σ 6 2) 6 r (if (k + q) < p then p else (k + q)) <;> rfl
      have remL : ∀ E, D_quotient x p y q k = .inl E → D_remainder x p y q k = .inl E := by
        intro E hE
        unfold D_remainder
        simp only [hE]
      by_cases hy0 : y.toInt = 0
      · have hz : y = 0 := Int64.toInt_inj.mp (by rw [hy0]; rfl)
        have f2 := F_quo_zero hm (by rw [ey]; exact hz)
        obtain ⟨ν, e1, e2⟩ := F_rest_q f2
        rw [z16] at e2
        refine bad4 _ 37 _ e1 e2 ?_
        rw [hX37 _ (remL _ (by unfold D_quotient; rw [if_pos hz]))]
      · by_cases hc : quoC x.toInt y.toInt (k.toInt + q.toInt - p.toInt)
        · obtain ⟨r, f1, g1⟩ := D_quo_ok hX hy hy0 hp hq hk hc
          obtain ⟨r2, μ1, f2, g2, g3⟩ := F_quo_ok hm h16 ex ey ep eq hke hX hy hy0 hp hq hk hc
          have e : r2 = r := Int64.toInt_inj.mp (by rw [g1, g3])
          subst e
          have hr : fit r2.toInt := by rw [g1]; exact quoV_fit hX hc
          obtain ⟨R1, R2⟩ := F_rest_ok f2 g2 ex ey ep eq hke hX hy hr hp hq hk
          by_cases hr9 : remC x.toInt y.toInt r2.toInt (k.toInt + q.toInt) p.toInt
          · obtain ⟨v, μ2, b1, b2, b3⟩ := R1 hr9
            obtain ⟨w, v1, v2⟩ := D_rem_ok hX hy hr hp hq hk f1 hr9
            have e : v = w := Int64.toInt_inj.mp (by rw [b3, v2])
            subst e
            have hg : pls (f_greater (k + q) p) := by
              unfold pls at *
              have ekq : (k + q).toInt = k.toInt + q.toInt := i_addE rfl rfl (by omega) (by omega)
              have := hr9.2.2.2.1
              rw [greater_toInt, ekq]; omega
            obtain ⟨u, ν, a1, a2, a3⟩ := calE_ok h hn2 hd2 (by rw [b3]; exact hr9.2.2.2.2) hg b1 b2
            refine cres_ok ?_ a2 a3
            have eg : (if (k + q) < p then p else (k + q)) = f_greater (k + q) p := by
              apply Int32.toInt_inj.mp; rw [mx_toInt, greater_toInt]
            rw [hX37 _ v1, eg]
            simp only [a1]
          · obtain ⟨μ2, b1, b2⟩ := R2 hr9
            refine bad5 _ 37 _ b1 b2 ?_
            rw [hX37 _ (D_rem_no hX hy hr hp hq hk f1 hr9)]
        · have f2 := F_quo_no hm h16 ex ey ep eq hke hX hy hy0 hp hq hk hc
          obtain ⟨ν, e1, e2⟩ := F_rest_q f2
          rw [z16] at e2
          refine bad5 _ 37 _ e1 e2 ?_
          rw [hX37 _ (remL _ (D_quo_no hX hy hy0 hp hq hk hc))]
