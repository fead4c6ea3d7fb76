theorem ri_si {τ : MS} {k : Nat} {v : Int32} (hk : k = 15 ∨ k = 16 ∨ k = 17 ∨ k = 18 ∨ k = 20) (h : RI τ) : RI (si τ k v) := by
  rcases hk with rfl | rfl | rfl | rfl | rfl <;> exact h
theorem ri_lev {τ : MS} {v : Int32} (h0 : 0 ≤ v.toInt) (h1 : v.toInt ≤ 12) (h : RI τ) : RI (si τ 11 v) := by
  obtain ⟨a, b, c, d, -, f⟩ := h
  exact ⟨a, b, c, d, ⟨h0, h1⟩, f⟩
theorem ri_pri {τ : MS} {v : Int32} (h0 : 0 ≤ v.toInt) (h1 : v.toInt ≤ 40) (h : RI τ) : RI (si τ 14 v) := by
  obtain ⟨a, -, c⟩ := h
  exact ⟨a, ⟨h0, h1⟩, c⟩
theorem ri_at {τ : MS} {j : Nat} {v : Int32} (h0 : 0 ≤ v.toInt) (h : RI τ) : RI (sa τ 10 j v) := by
  obtain ⟨a, b, c, d, e, f, g, i⟩ := h
  refine ⟨a, b, c, d, e, f, ?_, i⟩
  intro q hq
  show 0 ≤ (upd (τ.2.2.1 10) j v q).toInt
  unfold upd
  split
  · exact h0
  · exact g q hq
theorem ri_size {τ : MS} {j : Nat} {v : Int32} (h0 : 0 ≤ v.toInt) (h1 : v.toInt ≤ 160) (h : RI τ) : RI (sa τ 9 j v) := by
  obtain ⟨a, b, c, d, e, f, g⟩ := h
  refine ⟨a, b, c, d, e, ?_, g⟩
  intro q hq
  show 0 ≤ (upd (τ.2.2.1 9) j v q).toInt ∧ (upd (τ.2.2.1 9) j v q).toInt ≤ 160
  unfold upd
  split
  · exact ⟨h0, h1⟩
  · exact f q hq
theorem ri_text {τ : MS} {j : Nat} {v : Int32} (h : RI τ) : RI (sa τ 8 j v) := h
/-! what a command leaves in slots that aren't in use -/
def fc (μ ν : MS) : Prop := ∀ k : Nat, k < 82 → ∃ k', k' < 82 ∧ ν.2.2.2 2 k = μ.2.2.2 2 k' ∧ ν.2.2.1 3 k = μ.2.2.1 3 k'
def fs (μ ν : MS) : Prop := ∀ k : Nat, k < 82 → (∃ k', k' < 82 ∧ ν.2.2.2 2 k = μ.2.2.2 2 k' ∧ ν.2.2.1 3 k = μ.2.2.1 3 k') ∨ (k : Int) < (ν.1 5).toInt
theorem fs_fc {μ ν : MS} (h : fc μ ν) : fs μ ν := fun k hk => Or.inl (h k hk)
theorem fc_same {μ ν : MS} (h2 : ν.2.2.2 2 = μ.2.2.2 2) (h3 : ν.2.2.1 3 = μ.2.2.1 3) : fc μ ν := fun k hk => ⟨k, hk, by rw [h2], by rw [h3]⟩
theorem fs_22 {μ ν : MS} (h : ν.2.2 = μ.2.2) : fs μ ν := fs_fc (fc_same (by rw [h]) (by rw [h]))
theorem fc_tr {μ ν ξ : MS} (h : fc μ ν) (h2 : fc ν ξ) : fc μ ξ := fun k hk => by
  obtain ⟨k1, a, b, c⟩ := h2 k hk
  obtain ⟨k2, d, e, f⟩ := h k1 a
  exact ⟨k2, d, b.trans e, c.trans f⟩
theorem fs_put {μ ν : MS} {N : Nat} {v : Int64} {p : Int32} (h2 : ν.2.2.2 2 = vp_updL (μ.2.2.2 2) N v) (h3 : ν.2.2.1 3 = upd (μ.2.2.1 3) N p) (hN : (N : Int) < (ν.1 5).toInt) : fs μ ν := by
  intro k hk
  by_cases e : k = N
  · exact Or.inr (by rw [e]; exact hN)
  · exact Or.inl ⟨k, hk, by rw [h2]; unfold vp_updL; rw [if_neg e], by rw [h3]; unfold upd; rw [if_neg e]⟩
theorem copyL_23 {f t : Int32} : ∀ (fu : Nat) (k : Int32) (τ : MS), (F_copy_L26 f t fu k τ).1 = τ.1 ∧ (F_copy_L26 f t fu k τ).2.2.2 = τ.2.2.2 ∧ ∀ q, q ≠ 4 → (F_copy_L26 f t fu k τ).2.2.1 q = τ.2.2.1 q := by
  intro fu
  induction fu with
  | zero => intro k τ; exact ⟨rfl, rfl, fun _ _ => rfl⟩
  | succ fu ih =>
    intro k τ
    rw [F_copy_L26]
    split
    · exact ⟨rfl, rfl, fun _ _ => rfl⟩
    · split
      · exact ⟨rfl, rfl, fun _ _ => rfl⟩
      · obtain ⟨a, b, c⟩ := ih (k + 1) (sa τ 4 ((160 * t) + k).toNatClampNeg (τ.2.2.1 4 ((160 * f) + k).toNatClampNeg))
        exact ⟨a, b, fun q hq => by rw [c q hq]; simp [sa, hq]⟩
theorem fc_copy {μ : MS} {f t : Int32} (hf : f.toNatClampNeg < 82) : fc μ (F_copy μ f t) := by
  obtain ⟨a, b, c⟩ := copyL_23 (f := f) (t := t) 162 0 (sa (sb μ 2 t.toNatClampNeg (μ.2.2.2 2 f.toNatClampNeg)) 3 t.toNatClampNeg (μ.2.2.1 3 f.toNatClampNeg))
  intro k hk
  unfold F_copy
  rw [b, c 3 (by decide)]
  by_cases e : k = t.toNatClampNeg
  · exact ⟨f.toNatClampNeg, hf, by simp [sa, sb, vp_updL, e], by simp [sa, sb, upd, e]⟩
  · exact ⟨k, hk, by simp [sa, sb, vp_updL, e], by simp [sa, sb, upd, e]⟩
theorem tn_lt {a : Int32} (h : a.toInt ≤ 81) : a.toNatClampNeg < 82 := by rw [← Int32.toNat_toInt]; omega
theorem put_fs {μ B : MS} {n : Int32} {v : Int64} {p : Int32} (h0 : 0 ≤ n.toInt) (h1 : n.toInt ≤ (μ.1 5).toInt) (hd : (μ.1 5).toInt ≤ 40) (hB2 : B.2.2.2 2 = μ.2.2.2 2) (hB3 : B.2.2.1 3 = μ.2.2.1 3) : fs μ (si (sa (sb (si B 5 (μ.1 5 - n)) 2 (μ.1 5 - n).toNatClampNeg v) 3 (μ.1 5 - n).toNatClampNeg p) 5 (μ.1 5 - n + 1)) := by
  obtain ⟨e1, e2⟩ := clamp_sub h0 h1 (by omega)
  have e3 : (μ.1 5 - n + 1).toInt = (μ.1 5).toInt - n.toInt + 1 := i_addE e1 (show (1 : Int32).toInt = 1 from rfl) (by omega) (by omega)
  refine fs_put (N := (μ.1 5 - n).toNatClampNeg) (v := v) (p := p) ?_ ?_ ?_
  · simp [si, sa, sb, hB2]
  · simp [si, sa, sb, hB3]
  · rw [show ∀ (x : MS) (w : Int32), (si x 5 w).1 5 = w from fun x w => by simp [si, upd], e3, e2]; omega
theorem calE_fs {μ : MS} {q : Int32 × MS} {n : Int32} (hq : ¬ q.1 = 0 → 0 ≤ n.toInt ∧ n.toInt ≤ (μ.1 5).toInt) (hd : (μ.1 5).toInt ≤ 40) : fs μ (calE μ q n).2 := by
  unfold calE
  by_cases c : q.1 = 0
  · rw [if_pos c]; exact fs_22 rfl
  · rw [if_neg c]; exact put_fs (B := si (sm (si μ 16 (q.2.1 16)) q.2.2.1) 20 (q.2.1 20)) (hq c).1 (hq c).2 hd rfl rfl
theorem calc_fs {σ : XS} {μ : MS} (h : ST σ μ) : fs μ (F_calculates μ 43).2 ∧ fs μ (F_calculates μ 45).2 ∧ fs μ (F_calculates μ 42).2 ∧ fs μ (F_calculates μ 47).2 ∧ fs μ (F_calculates μ 37).2 := by
  obtain ⟨d1, d2, d3⟩ := h.depth
  rw [cal_43, cal_45, cal_42, cal_47, cal_37]
  have key : ∀ q : Int32 × MS, (∀ ξ, F_numbers μ 2 = (0, ξ) → q.1 = 0) → fs μ (calE μ q 2).2 := by
    intro q hq
    refine calE_fs (fun c => ?_) d3
    rcases num2 h with ⟨-, hm⟩ | ⟨-, hm⟩ | ⟨hd, -⟩
    · exact absurd (hq _ hm) c
    · exact absurd (hq _ hm) c
    · exact ⟨by decide, hd⟩
  refine ⟨key _ fun ξ e => ?_, key _ fun ξ e => ?_, key _ fun ξ e => ?_, key _ fun ξ e => ?_, key _ fun ξ e => ?_⟩
  · rw [sum_n e]
  · rw [sum_n e]
  · rw [times_n e]
  · rw [quo_n e]
  · unfold F_rest; simp only [quo_n e, ↓reduceIte]
theorem cal_126 {μ : MS} : F_calculates μ 126 = if (F_numbers μ 1).1 = 0 then (0, (F_numbers μ 1).2) else (1, si (sa (sb (si μ 5 (μ.1 5 - 1)) 2 (μ.1 5 - 1).toNatClampNeg (-(μ.2.2.2 2 (μ.1 5 - 1).toNatClampNeg))) 3 (μ.1 5 - 1).toNatClampNeg (μ.2.2.1 3 (μ.1 5 - 1).toNatClampNeg)) 5 (μ.1 5 - 1 + 1)) := by
  unfold F_calculates
  rw [if_neg (by decide), if_neg (by decide), if_neg (by decide), if_neg (by decide), if_neg (by decide), if_neg (by decide)]
  rfl
theorem cal_88 {μ : MS} : F_calculates μ 88 = if (F_numbers μ 1).1 = 0 then (0, (F_numbers μ 1).2) else (1, si (sa (sb (si μ 5 (μ.1 5 - 1)) 2 (μ.1 5 - 1).toNatClampNeg ((μ.2.2.1 3 (μ.1 5 - 1).toNatClampNeg).toInt64)) 3 (μ.1 5 - 1).toNatClampNeg 0) 5 (μ.1 5 - 1 + 1)) := by
  unfold F_calculates
  rw [if_neg (by decide), if_neg (by decide), if_neg (by decide), if_neg (by decide), if_neg (by decide), if_neg (by decide)]
  rfl
theorem cal_107 {μ : MS} (hs : (F_numbers μ 1).2.2.2 = μ.2.2) : (F_calculates μ 107).2.2.2 = μ.2.2 := by
  unfold F_calculates
  rw [if_neg (by decide), if_neg (by decide), if_neg (by decide), if_neg (by decide), if_neg (by decide), if_neg (by decide)]
  dsimp only
  by_cases c : (F_numbers μ 1).1 = 0
  · rw [if_pos c]; exact hs
  · rw [if_neg c, if_neg (show ¬ (107 : Int32) = 126 by decide), if_neg (show ¬ (107 : Int32) = 88 by decide)]
    split
    · split
      · rfl
      · rfl
    · rfl
theorem change_fs {σ : XS} {μ : MS} (h : ST σ μ) : fs μ (F_calculates μ 118).2 ∧ fs μ (F_calculates μ 126).2 ∧ fs μ (F_calculates μ 107).2 ∧ fs μ (F_calculates μ 88).2 := by
  obtain ⟨d1, d2, d3⟩ := h.depth
  have z1 : (1 : Int32).toInt = 1 := rfl
  have n10 : ¬ (1 : Int32) = 0 := by decide
  have hn : ((F_numbers μ 1).1 = 0 ∨ 1 ≤ (μ.1 5).toInt) ∧ (F_numbers μ 1).2.2.2 = μ.2.2 := by
    rcases num1 h with ⟨-, -, hm⟩ | ⟨hd, -, hm⟩ | ⟨hd, -, hm, -⟩
    · rw [hm]; exact ⟨Or.inl rfl, rfl⟩
    · rw [hm]; exact ⟨Or.inr hd, rfl⟩
    · rw [hm]; exact ⟨Or.inr hd, rfl⟩
  refine ⟨?_, ?_, fs_22 (cal_107 hn.2), ?_⟩
  · rw [cal_118]
    refine calE_fs (fun c => ?_) d3
    rcases num1 h with ⟨-, -, hm⟩ | ⟨hd, -, hm⟩ | ⟨hd, -, hm, -⟩
    · rw [root_n hm] at c; exact absurd rfl c
    · exact ⟨by decide, hd⟩
    · exact ⟨by decide, hd⟩
  · rw [cal_126]
    by_cases c : (F_numbers μ 1).1 = 0
    · rw [if_pos c]; exact fs_22 hn.2
    · rw [if_neg c]; exact put_fs (B := μ) (by decide) (hn.1.resolve_left c) d3 rfl rfl
  · rw [cal_88]
    by_cases c : (F_numbers μ 1).1 = 0
    · rw [if_pos c]; exact fs_22 hn.2
    · rw [if_neg c]; exact put_fs (B := μ) (by decide) (hn.1.resolve_left c) d3 rfl rfl
theorem room_form {μ : MS} : ((F_room μ).2.2.2 = μ.2.2 ∧ (F_room μ).2.1 11 = μ.1 11) ∧ (¬ (F_room μ).1 = 0 → (μ.1 5).toInt < 40) := by
  by_cases c : (μ.1 5).toInt < 40
  · rw [room_yes c]; exact ⟨⟨rfl, rfl⟩, fun _ => c⟩
  · rw [room_no c]; exact ⟨⟨rfl, by simp [si, upd]⟩, fun h => absurd rfl h⟩
theorem have_form {μ : MS} {n : Int32} : (F_have μ n).2.2.2 = μ.2.2 := by
  unfold F_have; split <;> rfl
theorem moves_fs {σ : XS} {μ : MS} (h : ST σ μ) : fs μ (F_moves μ 68).2 ∧ fs μ (F_moves μ 75).2 ∧ fs μ (F_moves μ 99).2 ∧ fs μ (F_moves μ 100).2 ∧ fs μ (F_moves μ 112).2 ∧ fs μ (F_moves μ 114).2 ∧ fs μ (F_moves μ 122).2 := by
  obtain ⟨d1, d2, d3⟩ := h.depth
  have s1 : (μ.1 5 - 1).toInt = (μ.1 5).toInt - 1 := i_subE rfl (show (1 : Int32).toInt = 1 from rfl) (by omega) (by omega)
  have s2 : (μ.1 5 - 2).toInt = (μ.1 5).toInt - 2 := i_subE rfl (show (2 : Int32).toInt = 2 from rfl) (by omega) (by omega)
  have c1 : (μ.1 5 - 1).toNatClampNeg < 82 := tn_lt (by omega)
  have c2 : (μ.1 5 - 2).toNatClampNeg < 82 := tn_lt (by omega)
  have hp : ∀ v : Int64, fs μ (if (F_room μ).1 = 0 then ((0 : Int32), (F_room μ).2) else (1, si (sa (sb (si μ 5 (μ.1 5 - 0)) 2 (μ.1 5 - 0).toNatClampNeg v) 3 (μ.1 5 - 0).toNatClampNeg 0) 5 (μ.1 5 - 0 + 1))).2 := by
    intro v
    by_cases c : (F_room μ).1 = 0
    · rw [if_pos c]; exact fs_22 room_form.1.1
    · rw [if_neg c]; exact put_fs (B := μ) (by decide) d2 d3 rfl rfl
  refine ⟨?_, ?_, ?_, ?_, ?_, ?_, ?_⟩
  · unfold F_moves
    rw [if_neg (by decide), if_neg (by decide), if_neg (by decide), if_neg (by decide)]
    dsimp only
    by_cases c : (F_have μ 1).1 = 0
    · rw [if_pos c]; exact fs_22 have_form
    · rw [if_neg c, if_neg (show ¬ (68 : Int32) = 100 by decide), if_pos (rfl : (68 : Int32) = 68)]; exact fs_22 rfl
  · unfold F_moves
    rw [if_neg (by decide), if_neg (by decide), if_pos (rfl : (75 : Int32) = 75)]
    exact hp _
  · unfold F_moves
    rw [if_pos (rfl : (99 : Int32) = 99)]; exact fs_22 rfl
  · unfold F_moves
    rw [if_neg (by decide), if_neg (by decide), if_neg (by decide), if_neg (by decide)]
    dsimp only
    by_cases c : (F_have μ 1).1 = 0
    · rw [if_pos c]; exact fs_22 have_form
    · rw [if_neg c, if_pos (rfl : (100 : Int32) = 100)]
      by_cases c3 : (F_room μ).1 = 0
      · rw [if_pos c3]; exact fs_22 room_form.1.1
      · rw [if_neg c3]; exact fs_fc (fc_tr (fc_copy (t := μ.1 5) c1) (fc_same rfl rfl))
  · unfold F_moves
    rw [if_neg (by decide), if_neg (by decide), if_neg (by decide), if_neg (by decide)]
    dsimp only
    by_cases c : (F_have μ 1).1 = 0
    · rw [if_pos c]; exact fs_22 have_form
    · rw [if_neg c, if_neg (show ¬ (112 : Int32) = 100 by decide), if_neg (show ¬ (112 : Int32) = 68 by decide)]
      split
      · exact fs_22 rfl
      · exact fs_fc (fc_same (by simp [si, sa, sb]) (by simp [si, sa, sb]))
  · unfold F_moves
    rw [if_neg (by decide), if_neg (by decide), if_neg (by decide), if_pos (rfl : (114 : Int32) = 114)]
    dsimp only
    by_cases c : (F_have μ 2).1 = 0
    · rw [if_pos c]; exact fs_22 have_form
    · rw [if_neg c]; exact fs_fc (fc_tr (fc_tr (fc_copy (t := 80) c1) (fc_copy (t := μ.1 5 - 1) c2)) (fc_copy (t := μ.1 5 - 2) (tn_lt (by decide))))
  · unfold F_moves
    rw [if_neg (by decide), if_pos (rfl : (122 : Int32) = 122)]
    exact hp _
theorem stores_fs {σ : XS} {μ : MS} {r : Int32} {q : Nat} (hr : rgn r q) (h : ST σ μ) : fs μ (F_stores μ 115 r).2 ∧ fs μ (F_stores μ 83 r).2 ∧ fs μ (F_stores μ 108 r).2 ∧ fs μ (F_stores μ 76 r).2 := by
  obtain ⟨d1, d2, d3⟩ := h.depth
  obtain ⟨r1, r2, h4⟩ := id hr
  obtain ⟨g1, g2, g3, g4⟩ := h.2.1 q h4
  rw [reglen h4] at g3
  have s1 : (μ.1 5 - 1).toInt = (μ.1 5).toInt - 1 := i_subE rfl (show (1 : Int32).toInt = 1 from rfl) (by omega) (by omega)
  have c1 : (μ.1 5 - 1).toNatClampNeg < 82 := tn_lt (by omega)
  have hT := topOf_eq (μ := μ) hr ⟨g2, g3⟩
  have c2 : (F_topOf μ r).toNatClampNeg < 82 := tn_lt (by rw [hT]; omega)
  have cp : ∀ (ξ : MS) (t : Int32), ξ.2.2.2 2 = μ.2.2.2 2 → ξ.2.2.1 3 = μ.2.2.1 3 → fs μ (F_copy ξ (μ.1 5 - 1) t) := fun ξ t a b => fs_fc (fc_tr (fc_same a b) (fc_copy c1))
  refine ⟨?_, ?_, ?_, ?_⟩
  · unfold F_stores
    rw [if_pos (rfl : (115 : Int32) = 115)]
    dsimp only
    by_cases c : (F_have μ 1).1 = 0
    · rw [if_pos c]; exact fs_22 have_form
    · rw [if_neg c]
      split
      · exact cp _ _ rfl (by simp [si, sa])
      · exact cp _ _ rfl rfl
  · unfold F_stores
    rw [if_neg (by decide), if_pos (rfl : (83 : Int32) = 83)]
    dsimp only
    by_cases c : (F_have μ 1).1 = 0
    · rw [if_pos c]; exact fs_22 have_form
    · rw [if_neg c]
      split
      · exact fs_22 rfl
      · exact cp _ _ rfl (by simp [si, sa])
  · unfold F_stores
    rw [if_neg (by decide), if_neg (by decide)]
    dsimp only
    split
    · exact fs_22 rfl
    · by_cases c3 : (F_room μ).1 = 0
      · rw [if_pos c3]; exact fs_22 room_form.1.1
      · rw [if_neg c3, if_neg (show ¬ (108 : Int32) = 76 by decide)]
        exact fs_fc (fc_tr (fc_copy (t := μ.1 5) c2) (fc_same rfl rfl))
  · unfold F_stores
    rw [if_neg (by decide), if_neg (by decide)]
    dsimp only
    split
    · exact fs_22 rfl
    · by_cases c3 : (F_room μ).1 = 0
      · rw [if_pos c3]; exact fs_22 room_form.1.1
      · rw [if_neg c3, if_pos (rfl : (76 : Int32) = 76)]
        exact fs_fc (fc_tr (fc_copy (t := μ.1 5) c2) (fc_same rfl (by simp [si, sa])))
/-- what a written number, or text, leaves -/
def sx4 (μ B : MS) : Prop := B.1 = μ.1 ∧ B.2.2.2 = μ.2.2.2 ∧ ∀ q, q ≠ 4 → B.2.2.1 q = μ.2.2.1 q
def df (μ : MS) (v2 : Int32) (r : Int32 × MS) : Prop := (r.1 = 0 ∧ r.2.1 11 = μ.1 11 ∧ r.2.2.2.2 = μ.2.2.2 ∧ ∀ q, q ≠ 4 → r.2.2.2.1 q = μ.2.2.1 q) ∨ ∃ (B : MS) (w : Int64) (b i : Int32), sx4 μ B ∧ (μ.1 5).toInt < 40 ∧ r = (1, sa (si (sa (sb (si B 5 (B.1 5 - 0)) 2 (B.1 5 - 0).toNatClampNeg w) 3 (B.1 5 - 0).toNatClampNeg b) 5 (B.1 5 - 0 + 1)) 10 v2.toNatClampNeg i)
theorem df_22 {μ ν : MS} {v2 : Int32} (h : ν.2.2 = μ.2.2) (h11 : ν.1 11 = μ.1 11) : df μ v2 (0, ν) := Or.inl ⟨rfl, h11, by rw [h], fun q _ => by rw [h]⟩
theorem df_si {μ : MS} {v2 v : Int32} : df μ v2 (0, si μ 16 v) := df_22 rfl (by simp [si, upd])
theorem df_room {μ : MS} {v2 : Int32} : df μ v2 (0, (F_room μ).2) := df_22 room_form.1.1 room_form.1.2
theorem DM_df {μ : MS} {v2 i1 g : Int32} {w : Int64} {a b : Int32} : df μ v2 (DM μ v2 i1 g w a b) := by
  unfold DM
  by_cases c1 : a < 1
  · rw [if_pos c1]; exact df_si
  · rw [if_neg c1]
    by_cases c2 : 18 < a
    · rw [if_pos c2]; exact df_si
    · rw [if_neg c2]
      by_cases c3 : b ≤ 9
      · rw [if_pos c3]
        by_cases c4 : (F_room μ).1 = 0
        · rw [if_pos c4]; exact df_room
        · rw [if_neg c4]; exact Or.inr ⟨μ, _, _, _, ⟨rfl, rfl, fun _ _ => rfl⟩, room_form.2 c4, rfl⟩
      · rw [if_neg c3]; exact df_si
theorem dig_form {μ : MS} {f0 v2 g : Int32} : ∀ (f : Nat) (i1 : Int32) (w : Int64) (a b k : Int32), df μ v2 (F_digits_L47 f0 f v2 i1 g w a b k μ) := by
  intro f
  induction f with
  | zero => intro i1 w a b k; exact df_22 rfl rfl
  | succ f ih =>
    intro i1 w a b k
    rw [F_digits_L47]
    by_cases c1 : 160 ≤ k
    · rw [if_pos c1, DM_eq]; exact DM_df
    · rw [if_neg c1]
      by_cases c2 : F_charAt μ v2 i1 = 46
      · rw [if_pos c2]
        by_cases c3 : 0 ≤ b
        · rw [if_pos c3]
          by_cases c4 : f_within ((F_charAt μ v2 i1).toInt64) 48 57 = 0
          · rw [if_pos c4, DM_eq2 c3]; exact DM_df
          · rw [if_neg c4]; split <;> exact ih _ _ _ _ _
        · rw [if_neg c3]; exact ih _ _ _ _ _
      · rw [if_neg c2]
        by_cases c4 : f_within ((F_charAt μ v2 i1).toInt64) 48 57 = 0
        · rw [if_pos c4, DM_eq]; exact DM_df
        · rw [if_neg c4]; split <;> split <;> exact ih _ _ _ _ _
theorem digits_df {μ : MS} {f0 : Int32} : df μ (μ.1 11 - 1) (F_digits μ f0) := by
  unfold F_digits; split <;> exact dig_form _ _ _ _ _ _
theorem L100_form {f0 v2 i1 n1 : Int32} {μ : MS} (h40 : (μ.1 5).toInt < 40) : ∀ (fu : Nat) (k : Int32) (τ : MS), sx4 μ τ → df μ v2 (F_brackets_L100 f0 fu v2 i1 n1 k τ) := by
  intro fu
  induction fu with
  | zero => intro k τ h; exact Or.inl ⟨rfl, by show τ.1 11 = _; rw [h.1], h.2.1, h.2.2⟩
  | succ fu ih =>
    intro k τ h
    rw [F_brackets_L100]
    by_cases c : n1 ≤ k
    · rw [if_pos c]; exact Or.inr ⟨τ, _, _, _, h, h40, rfl⟩
    · rw [if_neg c]
      exact ih _ _ ⟨h.1, h.2.1, fun q hq => by rw [← h.2.2 q hq]; simp [sa, hq]⟩
theorem L14_form {f0 v2 : Int32} {μ : MS} : ∀ (f : Nat) (o i1 : Int32), df μ v2 (F_brackets_L14 f0 f v2 o i1 μ) := by
  intro f
  induction f with
  | zero => intro o i1; exact df_22 rfl rfl
  | succ f ih =>
    intro o i1
    have tl : df μ v2 (let q_81 := F_room μ; if q_81.1 = 0 then ((0, q_81.2)) else F_brackets_L100 f0 ((((i1 - f0) - 2).toInt.toNat + 1)) v2 i1 ((i1 - f0) - 2) 0 μ) := by
      dsimp only
      by_cases c4 : (F_room μ).1 = 0
      · rw [if_pos c4]; exact df_room
      · rw [if_neg c4]; exact L100_form (room_form.2 c4) _ _ _ ⟨rfl, rfl, fun _ _ => rfl⟩
    rw [F_brackets_L14]
    by_cases c1 : (μ.2.2.1 9 v2.toNatClampNeg) ≤ i1
    · rw [if_pos c1]
      by_cases c2 : o ≤ 0
      · rw [if_pos c2]; exact tl
      · rw [if_neg c2]; exact df_si
    · rw [if_neg c1]
      by_cases c2 : o ≤ 0
      · rw [if_pos c2]; exact tl
      · rw [if_neg c2]
        split
        · exact ih _ _
        · split <;> exact ih _ _
theorem brackets_df {μ : MS} {f0 : Int32} : df μ (μ.1 11 - 1) (F_brackets μ f0) := by
  unfold F_brackets; exact L14_form _ _ _
/-! the reference's bounds stay -/
theorem RI_of {u : XS} {μ ν : MS} (hR : RI μ) (hS : ST u ν) (hf : fs μ ν) (hk : ν.1 1 = μ.1 1) (hlv : 0 ≤ (ν.1 11).toInt ∧ (ν.1 11).toInt ≤ 12) (hl : ∀ j : Nat, j < 12 → (0 ≤ (ν.2.2.1 9 j).toInt ∧ (ν.2.2.1 9 j).toInt ≤ 160) ∧ 0 ≤ (ν.2.2.1 10 j).toInt) : RI ν := by
  obtain ⟨r1, r2, r3, r4, r5, r6, r7, r8, r9, r10⟩ := hR
  obtain ⟨d1, d2, d3⟩ := hS.depth
  obtain ⟨s1, s2, s3, s4, s5⟩ := hS
  have top : ∀ k : Nat, (k : Int) < (ν.1 5).toInt → (ν.2.2.1 3 k < 0 → 0 ≤ (ν.2.2.2 2 k).toInt ∧ (ν.2.2.2 2 k).toInt ≤ 160) ∧ -1 ≤ (ν.2.2.1 3 k).toInt ∧ (ν.2.2.1 3 k).toInt ≤ 9 := by
    intro k hk
    have hi := s1.2.2.2 k hk
    rw [Nat.zero_add] at hi
    obtain ⟨a1, a2, a3⟩ := hi
    rw [a1, a2] at a3
    have z0 : (0 : Int32).toInt = 0 := rfl
    rcases a3 with ⟨-, b, -⟩ | ⟨n, -, b2, -, -, b5, b6, -⟩
    · refine ⟨fun c => ?_, ?_, b.2⟩
      · rw [Int32.lt_iff_toInt_lt] at c; have := b.1; omega
      · have := b.1; omega
    · rw [b2]; exact ⟨fun _ => ⟨b5, b6⟩, by decide, by decide⟩
  refine ⟨⟨d2, d3⟩, ⟨s3.2.1, s3.2.2.1⟩, fun k hk hp => ?_, fun r h4 => ?_, hlv, fun j hj => (hl j hj).1, fun j hj => (hl j hj).2, fun k hk => ?_, s5, by rw [hk]; exact r10⟩
  · rcases hf k hk with ⟨k', a, b, c⟩ | c
    · rw [c] at hp; rw [b]; exact r3 k' a hp
    · exact (top k c).1 hp
  · have := s2 r h4
    have l := this.2.2.1
    rw [reglen h4] at l
    exact ⟨this.2.1, l⟩
  · rcases hf k hk with ⟨k', a, b, c⟩ | c
    · rw [c]; exact r8 k' a
    · exact (top k c).2
theorem lev_NR {u : XS} {μ ν : MS} (hR : RI μ) (hN : NR u ν) (ho : ∀ j : Nat, ¬ (j : Int) < (ν.1 11).toInt → ν.2.2.1 9 j = μ.2.2.1 9 j ∧ ν.2.2.1 10 j = μ.2.2.1 10 j) : (0 ≤ (ν.1 11).toInt ∧ (ν.1 11).toInt ≤ 12) ∧ ∀ j : Nat, j < 12 → (0 ≤ (ν.2.2.1 9 j).toInt ∧ (ν.2.2.1 9 j).toInt ≤ 160) ∧ 0 ≤ (ν.2.2.1 10 j).toInt := by
  obtain ⟨r1, r2, r3, r4, r5, r6, r7, -⟩ := hR
  refine ⟨hN.1.2, fun j hj => ?_⟩
  by_cases c : (j : Int) < (ν.1 11).toInt
  · obtain ⟨n, st, a, ha, h0, h1, -⟩ := hN.2 j c
    have a6 := ha.2.2.2.2.2.1
    have a7 := ha.2.2.2.2.2.2.1
    have a8 := ha.2.2.2.2.2.2.2.1
    exact ⟨⟨by omega, a8⟩, h0⟩
  · obtain ⟨e1, e2⟩ := ho j c
    rw [e1, e2]; exact ⟨r6 j hj, r7 j hj⟩
theorem RI_cres {σ : XS} {μ : MS} {rx : (String × XS) ⊕ XS} {rm : Int32 × MS} (hR : RI μ) (h : cres σ μ rx rm) (hf : fs μ rm.2) : RI rm.2 := by
  have key : ∀ {u : XS}, ST u rm.2 → km μ rm.2 → RI rm.2 := by
    intro u hs hm
    obtain ⟨r1, r2, r3, r4, r5, r6, r7, -⟩ := id hR
    refine RI_of hR hs hf hm.2.1 (by rw [hm.1.1]; exact r5) (fun j hj => ?_)
    rw [hm.1.2.2.1, hm.1.2.2.2]; exact ⟨r6 j hj, r7 j hj⟩
  cases rx with
  | inr u => exact key h.2.1 h.2.2.2.1
  | inl e => exact key h.2.1 h.2.2.2.1
theorem RI_mres {σ : XS} {μ : MS} {rx : (String × XS) ⊕ XS} {rm : Int32 × MS} (hR : RI μ) (h : mres σ μ rx rm) : RI rm.2 := by
  cases rx with
  | inr u =>
    obtain ⟨-, g1, -, -, g4, g5, -, -, -, s1, s2, s3⟩ := h
    obtain ⟨l1, l2⟩ := lev_NR hR g4 s3
    exact RI_of hR g1 (fs_fc (fc_same (by rw [s1]) s2)) g5.1 l1 l2
  | inl e =>
    obtain ⟨-, ⟨g1, -, -, g4, -⟩, e2, e11⟩ := h
    obtain ⟨r1, r2, r3, r4, r5, r6, r7, -⟩ := id hR
    exact RI_of hR g1 (fs_22 e2) g4.1 (by rw [e11]; exact r5) (fun j hj => by rw [e2]; exact ⟨r6 j hj, r7 j hj⟩)
theorem RI_dres {σ : XS} {μ : MS} {rx : (String × XS) ⊕ XS} {rm : Int32 × MS} (hR : RI μ) (hlv : 1 ≤ (μ.1 11).toInt) (h : dres σ μ rx rm) (hd : df μ (μ.1 11 - 1) rm) : RI rm.2 := by
  obtain ⟨r1, r2, r3, r4, r5, r6, r7, -⟩ := id hR
  have hL := lvN hlv r5.2
  rcases hd with ⟨e0, e11, e2, e3⟩ | ⟨B, w, b, i, ⟨b1, b2, b3⟩, h40, e⟩
  · have key : ∀ {u : XS}, ST u rm.2 → kmP μ rm.2 → RI rm.2 := fun hs hm => RI_of hR hs (fs_fc (fc_same (by rw [e2]) (e3 3 (by decide)))) hm.1 (by rw [e11]; exact r5) (fun j hj => by rw [e3 9 (by decide), e3 10 (by decide)]; exact ⟨r6 j hj, r7 j hj⟩)
    cases rx with
    | inr u => exact key h.2.1 h.2.2.2.2.2.1
    | inl x => exact key h.2.1 h.2.2.2.2.1
  · cases rx with
    | inl x =>
      have := h.1
      rw [e] at this
      exact absurd (show (1 : Int32) = 0 from this) (by decide)
    | inr u =>
      obtain ⟨-, g1, -, -, g4, g5, -⟩ := h
      rw [hL] at e
      have e11 : rm.2.1 11 = μ.1 11 := by rw [e, ← b1]; simp [sa, si, sb, upd]
      obtain ⟨l1, l2⟩ := lev_NR hR g4 (fun j hj => by
        rw [e11] at hj
        have hne : j ≠ ((μ.1 11).toInt - 1).toNat := mac_out2 hlv hj
        rw [e]
        refine ⟨?_, ?_⟩
        · simp only [sa, si, sb, ↓reduceIte, show ¬ (9 = 10) by decide, show ¬ (9 = 3) by decide]; rw [b3 9 (by decide)]
        · simp only [sa, si, sb, ↓reduceIte, upd, show ¬ (10 = 3) by decide]; rw [if_neg hne, b3 10 (by decide)])
      refine RI_of hR g1 ?_ g5.1 l1 l2
      rw [e, b1]
      have hp := put_fs (μ := μ) (B := B) (n := 0) (v := w) (p := b) (by decide) r1.1 r1.2 (by rw [b2]) (b3 3 (by decide))
      intro k hk
      exact hp k hk
