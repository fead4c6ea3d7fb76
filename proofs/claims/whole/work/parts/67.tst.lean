theorem kn.rf {σ : XS} : kn σ σ := ⟨rs.rf, fun _ _ => rfl, rfl, fun _ _ => rfl, fun _ _ _ => rfl⟩
/-- slots stay, and levels that aren't under way -/
def stl (μ ν : MS) : Prop := ν.2.2.2 = μ.2.2.2 ∧ ν.2.2.1 3 = μ.2.2.1 3 ∧ ∀ j : Nat, ¬ (j : Int) < (ν.1 11).toInt → ν.2.2.1 9 j = μ.2.2.1 9 j ∧ ν.2.2.1 10 j = μ.2.2.1 10 j
def mbad (σ u : XS) (μ ν : MS) (E : String) : Prop := dbad σ u μ ν E ∧ ν.2.2 = μ.2.2 ∧ ν.1 11 = μ.1 11
def mgood (σ u : XS) (μ ν : MS) : Prop := ST u ν ∧ rs σ u ∧ u.1 1 = σ.1 1 ∧ NR u ν ∧ kmP μ ν ∧ ν.1 18 = μ.1 18 ∧ ν.1 16 = 0 ∧ Wt ν ≤ Wt μ + 161 ∧ stl μ ν
/-- a command's outcome, its place already set behind it -/
def mres (σ : XS) (μ : MS) (rx : (String × XS) ⊕ XS) (rm : Int32 × MS) : Prop := match rx with
  | .inr u => rm.1 = 1 ∧ mgood σ u μ rm.2
  | .inl e => rm.1 = 0 ∧ mbad σ e.2 μ rm.2 e.1
theorem mres_ok {σ u : XS} {μ ν : MS} {rx : (String × XS) ⊕ XS} {rm : Int32 × MS} (h1 : rx = .inr u) (h2 : rm = (1, ν)) (hg : mgood σ u μ ν) : mres σ μ rx rm := by subst h1; subst h2; exact ⟨rfl, hg⟩
theorem mres_no {σ u : XS} {μ ν : MS} {E : String} {rx : (String × XS) ⊕ XS} {rm : Int32 × MS} (h1 : rx = .inl (E, u)) (h2 : rm = (0, ν)) (hb : mbad σ u μ ν E) : mres σ μ rx rm := by subst h1; subst h2; exact ⟨rfl, hb⟩
theorem mres_dres {σ σ1 : XS} {μ μ1 : MS} {rx : (String × XS) ⊕ XS} {rm : Int32 × MS} (hr : rs σ σ1) (h1 : σ1.1 1 = σ.1 1) (hm : kmP μ μ1) (h18 : μ1.1 18 = μ.1 18) (hW : Wt μ1 + 1 ≤ Wt μ) (h : mres σ1 μ1 rx rm) : dres σ μ rx rm := by
  cases rx with
  | inr u =>
    obtain ⟨a, b, c, d, e, f, g, i, j, -⟩ := h
    exact ⟨a, b, hr.tr c, d.trans h1, e, hm.tr f, g.trans h18, i, by omega⟩
  | inl e =>
    obtain ⟨a, ⟨b, c, d, f, g, i⟩, -⟩ := h
    exact ⟨a, b, hr.tr c, d.trans h1, hm.tr f, g, i⟩
theorem NX_at {σ : XS} {μ : MS} {i : Int} (hn : NX σ μ i) (ha : (μ.2.2.1 10 ((μ.1 11).toInt - 1).toNat).toInt = i) : NR σ μ := by
  refine NX_NR (v := μ.2.2.1 10 ((μ.1 11).toInt - 1).toNat) ha hn ?_ rfl rfl rfl
  funext k
  unfold upd
  by_cases e : k = ((μ.1 11).toInt - 1).toNat
  · rw [if_pos e, e]
  · rw [if_neg e]
theorem text_of {σ : XS} {c i : Nat} {μ : MS} {k n : Nat} (h : itm σ c i μ k) (hs : σ.2.2.2.1 (c + 3) i = some n) : μ.2.2.1 3 k = -1 ∧ xv σ n ∧ 0 ≤ (σ.2.1 (c + 4) i).toInt ∧ 0 ≤ (μ.2.2.2 2 k).toInt ∧ (μ.2.2.2 2 k).toInt ≤ 160 ∧ (σ.2.1 (c + 4) i).toInt + (μ.2.2.2 2 k).toInt ≤ (σ.1 n).toInt ∧ (∀ j : Nat, (j : Int) < (μ.2.2.2 2 k).toInt → σ.2.1 (n + 1) ((σ.2.1 (c + 4) i).toInt.toNat + j) = μ.2.2.1 4 (160 * k + j)) ∧ ((μ.2.2.2 2 k).toInt32).toInt = (μ.2.2.2 2 k).toInt := by
  obtain ⟨h1, h2, h3⟩ := h
  rcases h3 with ⟨a, -⟩ | ⟨n', a1, a2, a3, a4, a5, a6, a7, a8⟩
  · rw [hs] at a; exact absurd a (by simp)
  · rw [hs] at a1
    have e : n = n' := by injection a1
    subst e
    rw [h1] at a5 a6 a7 a8
    exact ⟨by rw [← h2]; exact a2, a3, a4, a5, a6, a7, a8, by rw [Int64.toInt_toInt32]; exact i_bm (by omega) (by omega)⟩
theorem mac_itm {σ : XS} {μ μ0 : MS} {i1 s0 : Int32} {c i k n : Nat} (hn : NX σ μ i1.toInt) (hr : rok σ) (hw : xWF σ) (hat : μ.2.2.1 10 ((μ.1 11).toInt - 1).toNat = i1) (hk : s0.toInt.toNat = k) (hs0 : 0 ≤ s0.toInt ∧ s0.toInt ≤ 81) (hi : itm σ c i μ k) (hs : σ.2.2.2.1 (c + 3) i = some n) (h0i : ∀ k, k ≠ 5 → k ≠ 16 → k ≠ 20 → μ0.1 k = μ.1 k) (h0a : μ0.2.2 = μ.2.2) :
    (∃ u, Xnest_enterMacro σ (some n) (σ.2.1 (c + 4) i) (μ.2.2.2 2 k).toInt32 = .inl ("java/lang/UnsupportedOperationException", u) ∧ kn σ u ∧ xWF u ∧ F_mayRun μ i1 = (0, si μ 16 5)) ∨
    (∃ u, Xnest_enterMacro σ (some n) (σ.2.1 (c + 4) i) (μ.2.2.2 2 k).toInt32 = .inr u ∧ kn σ u ∧ F_mayRun μ i1 = (1, μ) ∧ NR u (F_begin μ0 s0 i1) ∧ Wt (F_begin μ0 s0 i1) ≤ Wt μ + 161 ∧ (∀ k, k ≠ 11 → (F_begin μ0 s0 i1).1 k = μ0.1 k) ∧ (F_begin μ0 s0 i1).2.2.2 = μ.2.2.2 ∧ (∀ k, k ≠ 8 → k ≠ 9 → k ≠ 10 → (F_begin μ0 s0 i1).2.2.1 k = μ.2.2.1 k) ∧ ∀ j : Nat, ¬ (j : Int) < ((F_begin μ0 s0 i1).1 11).toInt → (F_begin μ0 s0 i1).2.2.1 9 j = μ.2.2.1 9 j ∧ (F_begin μ0 s0 i1).2.2.1 10 j = μ.2.2.1 10 j) := by
  obtain ⟨t1, t2, t3, t4, t5, t6, t7, t8⟩ := text_of hi hs
  subst hk
  have a6 : 0 ≤ i1.toInt := by
    obtain ⟨_, _, _, n0, st0, ha⟩ := hn
    exact ha.2.2.2.2.2.1
  exact mac_rel hn hr hw (by rw [hat]; exact a6) (by rw [hat]; exact Int.le_refl _) hs0 t2 t3 (by rw [t8]; exact t4) (by rw [t8]; exact t5) (by rw [t8]; exact t6) (by rw [t8]; exact t7) rfl h0i h0a
theorem mac_fin {σ u : XS} {μ ν : MS} {n : Int32} (h : ST σ μ) (h16 : μ.1 16 = 0) (n0 : 0 ≤ n.toInt) (n1 : n.toInt ≤ (μ.1 5).toInt) (hk : kn σ u) (hN : NR u ν) (hW : Wt ν ≤ Wt μ + 161) (e1 : ∀ k, k ≠ 5 → k ≠ 11 → k ≠ 20 → ν.1 k = μ.1 k) (e5 : ν.1 5 = μ.1 5 - n) (e2 : ν.2.2.2 = μ.2.2.2) (e3 : ∀ k, k ≠ 8 → k ≠ 9 → k ≠ 10 → ν.2.2.1 k = μ.2.2.1 k) (e4 : ∀ j : Nat, ¬ (j : Int) < (ν.1 11).toInt → ν.2.2.1 9 j = μ.2.2.1 9 j ∧ ν.2.2.1 10 j = μ.2.2.1 10 j) : mgood σ (Xsh_drop u 6 n) μ ν := by
  have s1 : ST u μ := ST_kn hk rfl mrest.rf rfl (fun _ => msame.rf) h
  have s2 : ST (Xsh_drop u 6 n) (si μ 5 (μ.1 5 - n)) := ST_drop s1 n0 n1 (by simp [si, upd]) ⟨by simp [si, upd], by simp [si, upd], rfl, rfl⟩ rfl
  have dk := drop_kx (σ := u) (c := 6) (n := n) (by decide)
  have s3 : ST (Xsh_drop u 6 n) ν := by
    refine ST_kn (μ := si μ 5 (μ.1 5 - n)) kn.rf (by rw [e5]; simp [si, upd]) ⟨?_, ?_, ?_, ?_⟩ ?_ (fun k => ⟨?_, ?_, fun j _ => ?_⟩) s2
    · rw [e1 14 (by decide) (by decide) (by decide)]; simp [si, upd]
    · rw [e1 6 (by decide) (by decide) (by decide)]; simp [si, upd]
    · rw [e2]; rfl
    · rw [e3 13 (by decide) (by decide) (by decide)]; rfl
    · rw [e3 7 (by decide) (by decide) (by decide)]; rfl
    · rw [e2]; rfl
    · rw [e3 3 (by decide) (by decide) (by decide)]; rfl
    · rw [e3 4 (by decide) (by decide) (by decide)]; rfl
  exact ⟨s3, hk.1.tr dk.1, dk.2.2.trans (hk.2.1 1 (by decide)), NR_keep dk km.rf hN, ⟨e1 1 (by decide) (by decide) (by decide), e3 0 (by decide) (by decide) (by decide), e1 15 (by decide) (by decide) (by decide)⟩, e1 18 (by decide) (by decide) (by decide), by rw [e1 16 (by decide) (by decide) (by decide)]; exact h16, hW, e2, e3 3 (by decide) (by decide) (by decide), e4⟩
theorem dbad_si {σ : XS} {μ : MS} {E : String} {v : Int32} (h : ST σ μ) (hw : xWF σ) (hE : xcd E = v) : mbad σ σ μ (si μ 16 v) E := ⟨⟨ST_sfm (sfm_si16 sfm_rf) h, rs.rf, rfl, kmP_km (km_sfm (sfm_si16 sfm_rf)), by rw [hE]; exact z16, hw⟩, rfl, by simp [si, upd]⟩
theorem kn_bad {σ u : XS} {μ ν : MS} {E : String} (h : ST σ μ) (hk : kn σ u) (hw : xWF u) (hn : noC μ ν (xcd E)) : mbad σ u μ ν E :=
  ⟨⟨ST_sfm hn.1 (ST_kn hk rfl mrest.rf rfl (fun _ => msame.rf) h), hk.1, hk.2.1 1 (by decide), kmP_km (km_sfm hn.1), hn.2, hw⟩, hn.1.2, hn.1.1 11 (by decide) (by decide)⟩
/-- x : a text on top is run -/
theorem runs_rel {σ : XS} {μ : MS} {i1 : Int32} (h : ST σ μ) (hw : xWF σ) (hr : rok σ) (h16 : μ.1 16 = 0) (hn : NX σ μ i1.toInt) (hat : μ.2.2.1 10 ((μ.1 11).toInt - 1).toNat = i1) : mres σ μ (Xdesk_runTop σ) (F_runs μ i1) := by
  obtain ⟨d1, d2, d3⟩ := h.depth
  have z0 : (0 : Int32).toInt = 0 := rfl
  have z1 : (1 : Int32).toInt = 1 := rfl
  by_cases c : 1 ≤ (μ.1 5).toInt
  · obtain ⟨x1, m1⟩ := need_yes (n := 1) h (by rw [z1]; exact c)
    have hi := top_itm (k := 0) h (by decide) (by rw [z0]; omega)
    have hx := topX (k := 0) h (by decide) (by rw [z0]; omega)
    rw [z0, Int.sub_zero] at hi hx
    obtain ⟨e1, e2⟩ := clamp_sub (d := μ.1 5) (k := 1) (by decide) (by rw [z1]; exact c) (by omega)
    rw [z1] at e1 e2
    have hM : F_runs μ i1 = if μ.2.2.1 3 ((μ.1 5).toInt - 1).toNat < 0 then (if (F_mayRun μ i1).1 = 0 then (0, (F_mayRun μ i1).2) else (1, F_begin (si μ 5 (μ.1 5 - 1)) (μ.1 5 - 1) i1)) else (1, μ) := by
      unfold F_runs; simp only [m1, show ¬ (1 : Int32) = 0 by decide, ↓reduceIte, e2]
    rw [hM]
    cases hrow : σ.2.2.2.1 9 ((μ.1 5).toInt - 1).toNat with
    | none =>
      have hX : Xdesk_runTop σ = .inr σ := by
        unfold Xdesk_runTop; simp only [x1, hx.2.2.1, hrow]
      rcases itm_num hi with ⟨a, b, -⟩ | ⟨n, a, b⟩
      · exact mres_ok (u := σ) (ν := μ) hX (if_neg (by rw [Int32.lt_iff_toInt_lt]; have := b.1; omega)) ⟨h, rs.rf, rfl, NX_at hn (by rw [hat]), ⟨rfl, rfl, rfl⟩, rfl, h16, by omega, rfl, rfl, fun _ _ => ⟨rfl, rfl⟩⟩
      · have a' : σ.2.2.2.1 9 ((μ.1 5).toInt - 1).toNat = some n := a
        rw [hrow] at a'; exact absurd a' (by simp)
    | some n =>
      have hX : Xdesk_runTop σ = (match Xnest_enterMacro σ (some n) (σ.2.1 10 ((μ.1 5).toInt - 1).toNat) ((μ.2.2.2 2 ((μ.1 5).toInt - 1).toNat).toInt32) with | .inl e9 => .inl e9 | .inr u49 => .inr (Xsh_drop u49 6 1)) := by
        unfold Xdesk_runTop; simp only [x1, hx.1, hx.2.2.1, hx.2.2.2, hrow]
        try (cases Xnest_enterMacro σ (some n) (σ.2.1 10 ((μ.1 5).toInt - 1).toNat) ((μ.2.2.2 2 ((μ.1 5).toInt - 1).toNat).toInt32) <;> rfl)
      rw [if_pos (by rw [(text_of hi hrow).1]; decide)]
      rcases mac_itm (μ0 := si μ 5 (μ.1 5 - 1)) (s0 := μ.1 5 - 1) hn hr hw hat (by rw [e1]) (by rw [e1]; omega) hi hrow (fun k h5 _ _ => by simp [si, upd, h5]) rfl with ⟨u, q1, q2, q3, q4⟩ | ⟨u, q1, q2, q3, q4, q5, q6, q7, q8⟩
      · have q1' : Xnest_enterMacro σ (some n) (σ.2.1 10 ((μ.1 5).toInt - 1).toNat) ((μ.2.2.2 2 ((μ.1 5).toInt - 1).toNat).toInt32) = _ := q1
        exact mres_no (E := "java/lang/UnsupportedOperationException") (u := u) (ν := si μ 16 5) (by rw [hX, q1']) (by rw [q4]; rfl) (kn_bad h q2 q3 (by rw [xcd_5]; exact noC_si))
      · have q1' : Xnest_enterMacro σ (some n) (σ.2.1 10 ((μ.1 5).toInt - 1).toNat) ((μ.2.2.2 2 ((μ.1 5).toInt - 1).toNat).toInt32) = _ := q1
        refine mres_ok (u := Xsh_drop u 6 1) (ν := F_begin (si μ 5 (μ.1 5 - 1)) (μ.1 5 - 1) i1) (by rw [hX, q1']) (by rw [q3, if_neg (show ¬ (1 : Int32) = 0 by decide)]) (mac_fin h h16 (by decide) (by rw [z1]; exact c) q2 q4 q5 (fun k k5 k11 k20 => ?_) ?_ q7 q8.1 q8.2)
        · rw [q6 k k11]; simp [si, upd, k5]
        · rw [q6 5 (by decide)]; simp [si, upd]
  · obtain ⟨x1, m1⟩ := need_no (n := 1) h (by rw [z1]; exact c)
    refine mres_no (E := "java/lang/IllegalStateException") (u := σ) (ν := si μ 16 2) ?_ ?_ (dbad_si h hw xcd_2)
    · unfold Xdesk_runTop; simp only [x1]
    · unfold F_runs; simp only [m1, ↓reduceIte]
def tstX (σ : XS) (R : Nat) : (String × XS) ⊕ XS := (match Xdesk_needHeld σ R with | .inl e9 => .inl e9 | .inr _ => (match (Xsh_rowAt σ R (Xsh_slotBelowTop σ R 0)) with | none => .inl ("java/lang/IndexOutOfBoundsException", σ) | some n144 => (match Xnest_enterMacro σ (some n144) (Xsh_startAt σ R (Xsh_slotBelowTop σ R 0)) ((Xsh_valueAt σ R (Xsh_slotBelowTop σ R 0)).toInt32) with | .inl e9 => .inl e9 | .inr u177 => .inr (Xsh_drop u177 6 2))))
def tstM (μ B : MS) (r0 i0 : Int32) : Int32 × MS := if (μ.2.2.1 7 r0.toNatClampNeg) = 0 then (0, si B 16 2) else if (μ.2.2.1 3 (F_topOf B r0).toNatClampNeg) < 0 then (if (F_mayRun B i0).1 = 0 then (0, (F_mayRun B i0).2) else (1, F_begin (si B 5 (μ.1 5 - 2)) (F_topOf (si B 5 (μ.1 5 - 2)) r0) i0)) else (0, si B 16 3)
theorem tst_tail {σ : XS} {μ B : MS} {r i1 : Int32} {q : Nat} (hrg : rgn r q) (h : ST σ μ) (hw : xWF σ) (hr : rok σ) (h16 : μ.1 16 = 0) (hn : NX σ μ i1.toInt) (hat : μ.2.2.1 10 ((μ.1 11).toInt - 1).toNat = i1) (hB : sfm μ B) (hB16 : B.1 16 = 0) (hd : 2 ≤ (μ.1 5).toInt) : mres σ μ (tstX σ (11 + 5 * q)) (tstM μ B r i1) := by
  obtain ⟨r1, r2, h4⟩ := id hrg
  have z0 : (0 : Int32).toInt = 0 := rfl
  have z1 : (1 : Int32).toInt = 1 := rfl
  have z2 : (2 : Int32).toInt = 2 := rfl
  obtain ⟨g1, g2, g3, g4⟩ := h.2.1 q h4
  rw [reglen h4] at g3
  unfold tstM
  rw [r1]
  by_cases c : 1 ≤ (μ.2.2.1 7 q).toInt
  · have hH : Xdesk_needHeld σ (11 + 5 * q) = .inr σ := by unfold Xdesk_needHeld; rw [g1, if_pos (by rw [Int32.le_iff_toInt_le]; omega)]
    obtain ⟨hi, v1, v2, v3, v4⟩ := regTop h h4 c
    have hB7 : B.2.2.1 7 q = μ.2.2.1 7 q := by rw [hB.2]
    have hT := topOf_eq (μ := B) hrg (by rw [hB7]; omega)
    rw [hB7] at hT
    have hTe : F_topOf (si B 5 (μ.1 5 - 2)) r = F_topOf B r := rfl
    have hTn : (F_topOf B r).toNatClampNeg = 40 + 10 * q + ((μ.2.2.1 7 q).toInt - 1).toNat := by rw [← Int32.toNat_toInt, hT]; omega
    rw [if_neg (by intro e; rw [e] at c; exact absurd c (by decide)), hTn, hTe]
    cases hrow : σ.2.2.2.1 (11 + 5 * q + 3) ((μ.2.2.1 7 q).toInt - 1).toNat with
    | none =>
      have hX : tstX σ (11 + 5 * q) = .inl ("java/lang/IndexOutOfBoundsException", σ) := by
        unfold tstX; simp only [hH, v3, hrow]
      rcases itm_num hi with ⟨a, b, -⟩ | ⟨n, a, b⟩
      · refine mres_no (E := "java/lang/IndexOutOfBoundsException") (u := σ) (ν := si B 16 3) hX (if_neg (by rw [Int32.lt_iff_toInt_lt]; have := b.1; omega)) ?_
        exact kn_bad (ν := si B 16 3) h kn.rf hw ⟨sfm_si16 hB, by rw [xcd_3]; exact z16⟩
      · rw [hrow] at a; exact absurd a (by simp)
    | some n =>
      have hX : tstX σ (11 + 5 * q) = (match Xnest_enterMacro σ (some n) (σ.2.1 (11 + 5 * q + 4) ((μ.2.2.1 7 q).toInt - 1).toNat) ((μ.2.2.2 2 (40 + 10 * q + ((μ.2.2.1 7 q).toInt - 1).toNat)).toInt32) with | .inl e9 => .inl e9 | .inr u49 => .inr (Xsh_drop u49 6 2)) := by
        unfold tstX; simp only [hH, v1, v3, v4, hrow]
        try (cases Xnest_enterMacro σ (some n) (σ.2.1 (11 + 5 * q + 4) ((μ.2.2.1 7 q).toInt - 1).toNat) ((μ.2.2.2 2 (40 + 10 * q + ((μ.2.2.1 7 q).toInt - 1).toNat)).toInt32) <;> rfl)
      rw [if_pos (by rw [(text_of hi hrow).1]; decide)]
      have hiB : itm σ (11 + 5 * q) ((μ.2.2.1 7 q).toInt - 1).toNat B (40 + 10 * q + ((μ.2.2.1 7 q).toInt - 1).toNat) := by
        unfold itm at *; rw [hB.2]; exact hi
      have h11 : B.1 11 = μ.1 11 := hB.1 11 (by decide) (by decide)
      have hvB : B.2.2.2 2 (40 + 10 * q + ((μ.2.2.1 7 q).toInt - 1).toNat) = μ.2.2.2 2 (40 + 10 * q + ((μ.2.2.1 7 q).toInt - 1).toNat) := by rw [hB.2]
      have hatB : B.2.2.1 10 ((B.1 11).toInt - 1).toNat = i1 := by rw [h11, hB.2]; exact hat
      rcases mac_itm (μ0 := si B 5 (μ.1 5 - 2)) (s0 := F_topOf B r) (NX_keep kx.rf (km_sfm hB) hn) hr hw hatB (by rw [hT]; omega) (by rw [hT]; omega) hiB hrow (fun k h5 _ _ => by simp [si, upd, h5]) rfl with ⟨u, q1, q2, q3, q4⟩ | ⟨u, q1, q2, q3, q4, q5, q6, q7, q8⟩
      · rw [hvB] at q1
        exact mres_no (E := "java/lang/UnsupportedOperationException") (u := u) (ν := si B 16 5) (by rw [hX, q1]) (by rw [q4]; rfl) (kn_bad (ν := si B 16 5) h q2 q3 ⟨sfm_si16 hB, by rw [xcd_5]; exact z16⟩)
      · rw [hvB] at q1
        refine mres_ok (u := Xsh_drop u 6 2) (ν := F_begin (si B 5 (μ.1 5 - 2)) (F_topOf B r) i1) (by rw [hX, q1]) (by rw [q3, if_neg (show ¬ (1 : Int32) = 0 by decide)]) (mac_fin h h16 (by decide) (by rw [z2]; exact hd) q2 q4 (by rw [Wt_km (km_sfm hB)] at q5; exact q5) (fun k k5 k11 k20 => ?_) ?_ (by rw [q7, hB.2]) (fun k a b c => by rw [q8.1 k a b c, hB.2]) (fun j hj => by rw [(q8.2 j hj).1, (q8.2 j hj).2, hB.2]; exact ⟨rfl, rfl⟩))
        · rw [q6 k k11]
          by_cases k16 : k = 16
          · subst k16; rw [h16]; simp only [si, upd]; rw [if_neg (by decide)]; exact hB16
          · simp only [si, upd]; rw [if_neg k5]; exact hB.1 k k16 k20
        · rw [q6 5 (by decide)]; simp [si, upd]
  · have hH : Xdesk_needHeld σ (11 + 5 * q) = .inl ("java/lang/IllegalStateException", σ) := by unfold Xdesk_needHeld; rw [g1, if_neg (by rw [Int32.le_iff_toInt_le]; omega)]
    have e0 : μ.2.2.1 7 q = 0 := Int32.toInt_inj.mp (by omega)
    rw [if_pos e0]
    refine mres_no (E := "java/lang/IllegalStateException") (u := σ) (ν := si B 16 2) ?_ rfl (kn_bad h kn.rf hw ⟨sfm_si16 hB, by rw [xcd_2]; exact z16⟩)
    unfold tstX; simp only [hH]
def tB (μ : MS) : MS := si (sm (si μ 16 ((F_compared μ).2.1 16)) (F_compared μ).2.2.1) 20 ((F_compared μ).2.1 20)
theorem tests_60 {μ : MS} {r i : Int32} : F_tests μ 60 r i = if (F_numbers μ 2).1 = 0 then (0, (F_numbers μ 2).2) else if (F_compared μ).1 = 0 then (0, tB μ) else if (F_compared μ).2.2.1 ≤ 0 then (1, si (tB μ) 5 (μ.1 5 - 2)) else tstM μ (tB μ) r i := by
  unfold F_tests tstM tB
  dsimp only
  rw [if_pos (rfl : (60 : Int32) = 60)]
theorem tests_62 {μ : MS} {r i : Int32} : F_tests μ 62 r i = if (F_numbers μ 2).1 = 0 then (0, (F_numbers μ 2).2) else if (F_compared μ).1 = 0 then (0, tB μ) else if 0 ≤ (F_compared μ).2.2.1 then (1, si (tB μ) 5 (μ.1 5 - 2)) else tstM μ (tB μ) r i := by
  unfold F_tests tstM tB
  dsimp only
  rw [if_neg (show ¬ (62 : Int32) = 60 by decide), if_pos (rfl : (62 : Int32) = 62)]
theorem tests_61 {μ : MS} {r i : Int32} : F_tests μ 61 r i = if (F_numbers μ 2).1 = 0 then (0, (F_numbers μ 2).2) else if (F_compared μ).1 = 0 then (0, tB μ) else if (F_compared μ).2.2.1 = 0 then tstM μ (tB μ) r i else (1, si (tB μ) 5 (μ.1 5 - 2)) := by
  unfold F_tests tstM tB
  dsimp only
  rw [if_neg (show ¬ (61 : Int32) = 60 by decide), if_neg (show ¬ (61 : Int32) = 62 by decide)]
/-- < > = -/
theorem tests_rel {σ0 σ : XS} {μ : MS} {r i1 : Int32} {q : Nat} (hreg : Xdesk_registerOfLetter σ0 = .inr (some (11 + 5 * q), σ)) (hrg : rgn r q) (h : ST σ μ) (hw : xWF σ) (hr : rok σ) (h16 : μ.1 16 = 0) (hn : NX σ μ i1.toInt) (hat : μ.2.2.1 10 ((μ.1 11).toInt - 1).toNat = i1) :
    mres σ μ (Xdesk_runIfOrdered σ0 60) (F_tests μ 60 r i1) ∧ mres σ μ (Xdesk_runIfOrdered σ0 62) (F_tests μ 62 r i1) ∧ mres σ μ (Xdesk_runIfOrdered σ0 61) (F_tests μ 61 r i1) := by
  obtain ⟨d1, d2, d3⟩ := h.depth
  have z0 : (0 : Int32).toInt = 0 := rfl
  have z1 : (1 : Int32).toInt = 1 := rfl
  have z2 : (2 : Int32).toInt = 2 := rfl
  have n10 : ¬ (1 : Int32) = 0 := by decide
  rw [tests_60, tests_62, tests_61]
  rcases num2 h with ⟨hx, hm⟩ | ⟨hx, hm⟩ | ⟨hd, hx, hm, hq, hy, hp, hX⟩
  · have key : ∀ k, Xdesk_runIfOrdered σ0 k = .inl ("java/lang/IllegalStateException", σ) := fun k => by unfold Xdesk_runIfOrdered; simp only [hreg, hx]
    rw [hm, key, key, key]
    exact ⟨mres_no rfl rfl (dbad_si h hw xcd_2), mres_no rfl rfl (dbad_si h hw xcd_2), mres_no rfl rfl (dbad_si h hw xcd_2)⟩
  · have key : ∀ k, Xdesk_runIfOrdered σ0 k = .inl ("java/lang/IndexOutOfBoundsException", σ) := fun k => by unfold Xdesk_runIfOrdered; simp only [hreg, hx]
    rw [hm, key, key, key]
    exact ⟨mres_no rfl rfl (dbad_si h hw xcd_3), mres_no rfl rfl (dbad_si h hw xcd_3), mres_no rfl rfl (dbad_si h hw xcd_3)⟩
  · have hx0 := topX (k := 0) h (by decide) (by rw [z0]; omega)
    have hx1 := topX (k := 1) h (by decide) (by rw [z1]; omega)
    rw [z0, Int.sub_zero] at hx0
    rw [z1, zsub] at hx1
    obtain ⟨-, e1⟩ := clamp_sub (d := μ.1 5) (k := 1) (by decide) (by rw [z1]; omega) (by omega)
    obtain ⟨-, e2⟩ := clamp_sub (d := μ.1 5) (k := 2) (by decide) (by rw [z2]; omega) (by omega)
    rw [z1] at e1
    rw [z2] at e2
    rw [hm]
    simp only [n10, ↓reduceIte]
    obtain ⟨cy, cn⟩ := cmp_ok (μ := μ) (x := μ.2.2.2 2 ((μ.1 5).toInt - 2).toNat) (y := μ.2.2.2 2 ((μ.1 5).toInt - 1).toNat) (p := μ.2.2.1 3 ((μ.1 5).toInt - 2).toNat) (q := μ.2.2.1 3 ((μ.1 5).toInt - 1).toNat) h16 (by rw [e2]) (by rw [e1]) (by rw [e2]) (by rw [e1]) hX hy hp hq
    by_cases hf : fitN (μ.2.2.2 2 ((μ.1 5).toInt - 2).toNat).toInt (max (μ.2.2.1 3 ((μ.1 5).toInt - 2).toNat).toInt (μ.2.2.1 3 ((μ.1 5).toInt - 1).toNat).toInt - (μ.2.2.1 3 ((μ.1 5).toInt - 2).toNat).toInt).toNat ∧ fitN (μ.2.2.2 2 ((μ.1 5).toInt - 1).toNat).toInt (max (μ.2.2.1 3 ((μ.1 5).toInt - 2).toNat).toInt (μ.2.2.1 3 ((μ.1 5).toInt - 1).toNat).toInt - (μ.2.2.1 3 ((μ.1 5).toInt - 1).toNat).toInt).toNat
    · obtain ⟨o, v, μ', hO, hC, hs, h16', hv, o1, o2, o3⟩ := cy hf
      have hB : sfm μ (tB μ) := by unfold tB; exact ⟨fun k a b => by simp [si, sm, upd, a, b], rfl⟩
      have hB16 : (tB μ).1 16 = 0 := by unfold tB; rw [hC]; simp [si, sm, upd]; exact h16'
      have ht := tst_tail hrg h hw hr h16 hn hat hB hB16 hd
      have hdr : mgood σ (Xsh_drop σ 6 2) μ (si (tB μ) 5 (μ.1 5 - 2)) := by
        have hkm : km μ (si (tB μ) 5 (μ.1 5 - 2)) := (km_sfm hB).tr (km_si (by decide))
        refine mac_fin h h16 (by decide) (by rw [z2]; exact hd) kn.rf (NR_keep kx.rf hkm (NX_at hn (by rw [hat]))) (by rw [Wt_km hkm]; omega) (fun k k5 k11 k20 => ?_) (by simp [si, upd]) (by show (tB μ).2.2.2 = _; rw [hB.2]) (fun k _ _ _ => by show (tB μ).2.2.1 k = _; rw [hB.2]) (fun j _ => by show (tB μ).2.2.1 9 j = _ ∧ (tB μ).2.2.1 10 j = _; rw [hB.2]; exact ⟨rfl, rfl⟩)
        by_cases k16 : k = 16
        · subst k16; rw [h16]; simp only [si, upd]; rw [if_neg (by decide)]; exact hB16
        · simp only [si, upd]; rw [if_neg k5]; exact hB.1 k k16 k20
      have hC1 : (F_compared μ).1 = 1 := by rw [hC]
      have hCv : (F_compared μ).2.2.1 = v := by rw [hC]; exact hv
      rw [hC1, hCv]
      simp only [n10, ↓reduceIte]
      have hA60 : ¬ 0 ≤ o → Xdesk_runIfOrdered σ0 60 = tstX σ (11 + 5 * q) := fun c => by
        unfold Xdesk_runIfOrdered tstX
        simp only [hreg, hx, hx0.1, hx0.2.1, hx1.1, hx1.2.1, hO, Option.getD_some, c, ↓reduceIte]
        cases Xdesk_needHeld σ (11 + 5 * q) with
        | inl e => rfl
        | inr w =>
          cases Xsh_rowAt σ (11 + 5 * q) (Xsh_slotBelowTop σ (11 + 5 * q) 0) with
          | none => rfl
          | some n =>
            dsimp only
            cases Xnest_enterMacro σ (some n) (Xsh_startAt σ (11 + 5 * q) (Xsh_slotBelowTop σ (11 + 5 * q) 0)) (Xsh_valueAt σ (11 + 5 * q) (Xsh_slotBelowTop σ (11 + 5 * q) 0)).toInt32 <;> rfl
      have hB60 : 0 ≤ o → Xdesk_runIfOrdered σ0 60 = .inr (Xsh_drop σ 6 2) := fun c => by
        unfold Xdesk_runIfOrdered
        simp only [hreg, hx, hx0.1, hx0.2.1, hx1.1, hx1.2.1, hO, Option.getD_some, c, ↓reduceIte]
      have hA62 : ¬ o ≤ 0 → Xdesk_runIfOrdered σ0 62 = tstX σ (11 + 5 * q) := fun c => by
        unfold Xdesk_runIfOrdered tstX
        simp only [hreg, hx, hx0.1, hx0.2.1, hx1.1, hx1.2.1, hO, Option.getD_some, show ¬ (62 : Int32) = 60 by decide, c, ↓reduceIte]
        cases Xdesk_needHeld σ (11 + 5 * q) with
        | inl e => rfl
        | inr w =>
          cases Xsh_rowAt σ (11 + 5 * q) (Xsh_slotBelowTop σ (11 + 5 * q) 0) with
          | none => rfl
          | some n =>
            dsimp only
            cases Xnest_enterMacro σ (some n) (Xsh_startAt σ (11 + 5 * q) (Xsh_slotBelowTop σ (11 + 5 * q) 0)) (Xsh_valueAt σ (11 + 5 * q) (Xsh_slotBelowTop σ (11 + 5 * q) 0)).toInt32 <;> rfl
      have hB62 : o ≤ 0 → Xdesk_runIfOrdered σ0 62 = .inr (Xsh_drop σ 6 2) := fun c => by
        unfold Xdesk_runIfOrdered
        simp only [hreg, hx, hx0.1, hx0.2.1, hx1.1, hx1.2.1, hO, Option.getD_some, show ¬ (62 : Int32) = 60 by decide, c, ↓reduceIte]
      have hA61 : o = 0 → Xdesk_runIfOrdered σ0 61 = tstX σ (11 + 5 * q) := fun c => by
        unfold Xdesk_runIfOrdered tstX
        simp only [hreg, hx, hx0.1, hx0.2.1, hx1.1, hx1.2.1, hO, Option.getD_some, show ¬ (61 : Int32) = 60 by decide, show ¬ (61 : Int32) = 62 by decide, c, ↓reduceIte]
        cases Xdesk_needHeld σ (11 + 5 * q) with
        | inl e => rfl
        | inr w =>
          cases Xsh_rowAt σ (11 + 5 * q) (Xsh_slotBelowTop σ (11 + 5 * q) 0) with
          | none => rfl
          | some n =>
            dsimp only
            cases Xnest_enterMacro σ (some n) (Xsh_startAt σ (11 + 5 * q) (Xsh_slotBelowTop σ (11 + 5 * q) 0)) (Xsh_valueAt σ (11 + 5 * q) (Xsh_slotBelowTop σ (11 + 5 * q) 0)).toInt32 <;> rfl
      have hB61 : ¬ o = 0 → Xdesk_runIfOrdered σ0 61 = .inr (Xsh_drop σ 6 2) := fun c => by
        unfold Xdesk_runIfOrdered
        simp only [hreg, hx, hx0.1, hx0.2.1, hx1.1, hx1.2.1, hO, Option.getD_some, show ¬ (61 : Int32) = 60 by decide, show ¬ (61 : Int32) = 62 by decide, c, ↓reduceIte]
      refine ⟨?_, ?_, ?_⟩
      · by_cases c1 : 0 < v
        · have c2 := o1.mpr c1
          rw [hA60 (by rw [Int32.le_iff_toInt_le]; rw [Int32.lt_iff_toInt_lt] at c2; omega), if_neg (by rw [Int64.le_iff_toInt_le]; rw [Int64.lt_iff_toInt_lt] at c1; omega)]
          exact ht
        · have c2 : ¬ o < 0 := fun e => c1 (o1.mp e)
          rw [hB60 (by rw [Int32.le_iff_toInt_le]; rw [Int32.lt_iff_toInt_lt] at c2; omega), if_pos (by rw [Int64.le_iff_toInt_le]; rw [Int64.lt_iff_toInt_lt] at c1; omega)]
          exact mres_ok rfl rfl hdr
      · by_cases c1 : v < 0
        · have c2 := o2.mpr c1
          rw [hA62 (by rw [Int32.le_iff_toInt_le]; rw [Int32.lt_iff_toInt_lt] at c2; omega), if_neg (by rw [Int64.le_iff_toInt_le]; rw [Int64.lt_iff_toInt_lt] at c1; omega)]
          exact ht
        · have c2 : ¬ 0 < o := fun e => c1 (o2.mp e)
          rw [hB62 (by rw [Int32.le_iff_toInt_le]; rw [Int32.lt_iff_toInt_lt] at c2; omega), if_pos (by rw [Int64.le_iff_toInt_le]; rw [Int64.lt_iff_toInt_lt] at c1; omega)]
          exact mres_ok rfl rfl hdr
      · by_cases c1 : v = 0
        · rw [hA61 (o3.mpr c1), if_pos c1]; exact ht
        · rw [hB61 (fun e => c1 (o3.mp e)), if_neg c1]; exact mres_ok rfl rfl hdr
    · obtain ⟨μ', hO, hC, hs⟩ := cn hf
      have key : ∀ k, Xdesk_runIfOrdered σ0 k = .inl ("java/lang/UnsupportedOperationException", σ) := fun k => by
        unfold Xdesk_runIfOrdered; simp only [hreg, hx, hx0.1, hx0.2.1, hx1.1, hx1.2.1, hO]
      have hC1 : (F_compared μ).1 = 0 := by rw [hC]
      have hb : mbad σ σ μ (tB μ) "java/lang/UnsupportedOperationException" := by
        refine kn_bad h kn.rf hw ⟨?_, ?_⟩
        · unfold tB; exact ⟨fun k a b => by simp [si, sm, upd, a, b], rfl⟩
        · unfold tB; rw [hC, xcd_5]; simp [si, sm, upd]; exact hs.2
      rw [key, key, key, hC1]
      simp only [↓reduceIte]
      exact ⟨mres_no rfl rfl hb, mres_no rfl rfl hb, mres_no rfl rfl hb⟩
