/-! write, erase, reset, and the reads -/
theorem app_rel {σ : XS} {c : Int32} (hw : xWF σ) (hr : rok σ) (h0 : 1 ≤ c.toInt) (h1 : c.toInt ≤ 127) (hs : (σ.1 σ.2.2.2.2.1).toInt < 160) : rg σ (Xrow_append σ σ.2.2.2.2.1 c) ∧ rok (Xrow_append σ σ.2.2.2.2.1 c) ∧ xWF (Xrow_append σ σ.2.2.2.2.1 c) ∧ (Xrow_append σ σ.2.2.2.2.1 c).2.2.2.2 = σ.2.2.2.2 ∧ ((Xrow_append σ σ.2.2.2.2.1 c).1 σ.2.2.2.2.1).toInt = (σ.1 σ.2.2.2.2.1).toInt + 1 ∧ (Xrow_append σ σ.2.2.2.2.1 c).2.1 (σ.2.2.2.2.1 + 1) = upd (σ.2.1 (σ.2.2.2.2.1 + 1)) (σ.1 σ.2.2.2.2.1).toInt.toNat c := by
  have h36 := hw.2.1
  obtain ⟨q1, q2, q3⟩ := hr _ hw.2
  have z160 : (160 : Int32).toInt = 160 := rfl
  have e : Xrow_append σ σ.2.2.2.2.1 c = xi (xa σ (σ.2.2.2.2.1 + 1) (σ.1 σ.2.2.2.2.1).toInt.toNat c) σ.2.2.2.2.1 (σ.1 σ.2.2.2.2.1 + 1) := by
    unfold Xrow_append
    rw [if_neg (by rw [Int32.le_iff_toInt_le]; omega), nar_b (by omega) h1, ← Int32.toNat_toInt]
    rfl
  have e1 : (σ.1 σ.2.2.2.2.1 + 1).toInt = (σ.1 σ.2.2.2.2.1).toInt + 1 := i_addE rfl (show (1 : Int32).toInt = 1 from rfl) (by omega) (by omega)
  have es : (Xrow_append σ σ.2.2.2.2.1 c).1 σ.2.2.2.2.1 = σ.1 σ.2.2.2.2.1 + 1 := by rw [e]; exact xi_1
  have en : ∀ k, k ≠ σ.2.2.2.2.1 → (Xrow_append σ σ.2.2.2.2.1 c).1 k = σ.1 k := fun k hk => by rw [e]; exact xi_ne hk
  have ec : (Xrow_append σ σ.2.2.2.2.1 c).2.1 (σ.2.2.2.2.1 + 1) = upd (σ.2.1 (σ.2.2.2.2.1 + 1)) (σ.1 σ.2.2.2.2.1).toInt.toNat c := by rw [e]; simp [xi, xa]
  have ecn : ∀ k, k ≠ σ.2.2.2.2.1 + 1 → (Xrow_append σ σ.2.2.2.2.1 c).2.1 k = σ.2.1 k := fun k hk => by rw [e]; simp [xi, xa, hk]
  have ep : (Xrow_append σ σ.2.2.2.2.1 c).2.2 = σ.2.2 := by rw [e]; rfl
  have exv : ∀ n, xv (Xrow_append σ σ.2.2.2.2.1 c) n ↔ xv σ n := fun n => by unfold xv xn; rw [ep]
  refine ⟨⟨fun k hk => ⟨en k (by omega), ecn k (by omega)⟩, by rw [ep], by rw [ep], fun n hn => ⟨(exv n).mpr hn, ?_, fun j hj => ?_⟩⟩, fun n hn => ?_, append_wf hw (sz_pos q1), append_n, by rw [es, e1], ec⟩
  · by_cases hnp : n = σ.2.2.2.2.1
    · rw [hnp, es, e1]; omega
    · rw [en n hnp]; exact Int.le_refl _
  · by_cases hnp : n = σ.2.2.2.2.1
    · rw [hnp] at hj ⊢
      rw [ec]; unfold upd; rw [if_neg (by omega)]
    · rw [ecn (n + 1) (by omega)]
  · by_cases hnp : n = σ.2.2.2.2.1
    · rw [hnp, es, e1, ec]
      refine ⟨by omega, by omega, fun j hj => ?_⟩
      unfold upd
      by_cases hj2 : j = (σ.1 σ.2.2.2.2.1).toInt.toNat
      · rw [if_pos hj2]; omega
      · rw [if_neg hj2]; exact q3 j (by omega)
    · rw [en n hnp, ecn (n + 1) (by omega)]
      exact hr n ((exv n).mp hn)
def wres (rx : Int32 × XS) (rm : Int32 × MS) : Prop := rx.1 = rm.1 ∧ PS rx.2 rm.2 ∧ RI rm.2
theorem ri_len {τ : MS} {v : Int32} (h0 : 0 ≤ v.toInt) (h1 : v.toInt ≤ 160) (h : RI τ) : RI (si τ 1 v) := by
  obtain ⟨a, b, c, d, e, f, g, i, j, -⟩ := h
  exact ⟨a, b, c, d, e, f, g, i, j, h0, h1⟩
theorem ri_prog {τ : MS} {j : Nat} {v : Int32} (h : RI τ) : RI (sa τ 0 j v) := h
theorem fill_rel {a : Int64} {n len : Int32} (hn : n.toInt ≤ 8) (hl : 0 ≤ len.toInt) (hln : len.toInt + n.toInt ≤ 160) (hch : ∀ k : Int32, 0 ≤ k.toInt → k.toInt < n.toInt → 1 ≤ (Xd_charOf a k).toInt ∧ (Xd_charOf a k).toInt ≤ 127) : ∀ (m f f' : Nat) (i : Int32) (σ : XS) (μ : MS), (n.toInt - i.toInt).toNat = m → m < f → m < f' → 0 ≤ i.toInt → i.toInt ≤ n.toInt → xWF σ → rok σ → ST σ μ → σ.1 1 = μ.1 15 → RI μ → μ.1 1 = len → (σ.1 σ.2.2.2.2.1).toInt = len.toInt + i.toInt → (∀ j : Nat, (j : Int) < len.toInt + i.toInt → σ.2.1 (σ.2.2.2.2.1 + 1) j = μ.2.2.1 0 j) → wres (Xdesk_write_L54 a f n i σ) (F_write_L74 a f' n i μ) := by
  intro m
  have z1 : (1 : Int32).toInt = 1 := rfl
  induction m with
  | zero =>
    intro f f' i σ μ hm hf hf' h0 hi hw hr hs h1 hR hlen hsz hc
    obtain ⟨f, rfl⟩ : ∃ x, f = x + 1 := ⟨f - 1, by omega⟩
    obtain ⟨f', rfl⟩ : ∃ x, f' = x + 1 := ⟨f' - 1, by omega⟩
    have c : n ≤ i := by rw [Int32.le_iff_toInt_le]; omega
    have el : (len + n).toInt = len.toInt + n.toInt := i_addE rfl rfl (by omega) (by omega)
    rw [Xdesk_write_L54, F_write_L74, if_pos c, if_pos c, hlen]
    refine ⟨rfl, ⟨hw, hr, ST_m (by simp [si, upd]) (by simp [si, upd]) (by simp [si, upd]) rfl hs, ⟨?_, fun j hj => ?_⟩, ?_⟩, ri_len (by omega) (by omega) hR⟩
    · have : (si μ 1 (len + n)).1 1 = len + n := by simp [si, upd]
      rw [this]
      exact Int32.toInt_inj.mp (by rw [el]; show (σ.1 σ.2.2.2.2.1).toInt = _; omega)
    · have : (si μ 1 (len + n)).1 1 = len + n := by simp [si, upd]
      rw [this, el] at hj
      exact hc j (by omega)
    · show σ.1 1 = _; rw [h1]; simp [si, upd]
  | succ m ih =>
    intro f f' i σ μ hm hf hf' h0 hi hw hr hs h1 hR hlen hsz hc
    obtain ⟨f, rfl⟩ : ∃ x, f = x + 1 := ⟨f - 1, by omega⟩
    obtain ⟨f', rfl⟩ : ∃ x, f' = x + 1 := ⟨f' - 1, by omega⟩
    have c : ¬ n ≤ i := by rw [Int32.le_iff_toInt_le]; omega
    have ei : (i + 1).toInt = i.toInt + 1 := i_addE rfl z1 (by omega) (by omega)
    have el : (len + i).toNatClampNeg = (len.toInt + i.toInt).toNat := by rw [← Int32.toNat_toInt, i_addE (x := len.toInt) (y := i.toInt) rfl rfl (by omega) (by omega)]
    obtain ⟨b0, b1⟩ := hch i h0 (by omega)
    have hv : ((a >>> ((8 * i).toInt64 &&& 63)).toInt32) &&& 127 = Xd_charOf a i := by
      have e := ch_same (x := a) h0 (by omega)
      rw [e] at b1 ⊢
      exact ch_b.2.2 b1
    obtain ⟨g1, g2, g3, g4, g5, g6⟩ := app_rel hw hr b0 b1 (by omega)
    rw [Xdesk_write_L54, F_write_L74, if_neg c, if_neg c, hlen, el, hv]
    dsimp only
    have gp : (Xrow_append σ σ.2.2.2.2.1 (Xd_charOf a i)).2.2.2.2.1 = σ.2.2.2.2.1 := by rw [g4]
    refine ih f f' (i + 1) _ _ (by omega) (by omega) (by omega) (by omega) (by omega) g3 g2 (ST_sa (Or.inr (Or.inr (Or.inr rfl))) (ST_rg g1 hs)) ?_ (ri_prog hR) hlen (by rw [gp, g5, ei, hsz]; omega) (fun j hj => ?_)
    · rw [(g1.1 1 (by decide)).1]; exact h1
    · rw [gp, g6]
      simp only [sa, ↓reduceIte]
      unfold upd
      rw [hsz]
      by_cases hj2 : j = (len.toInt + i.toInt).toNat
      · rw [if_pos hj2, if_pos hj2]
      · rw [if_neg hj2, if_neg hj2]; exact hc j (by omega)
theorem scan_rel {a : Int64} {σ : XS} {μ : MS} (hP : PS σ μ) (hR : RI μ) : ∀ (m f f' : Nat) (i : Int32), (8 - i.toInt).toNat = m → m < f → m < f' → 0 ≤ i.toInt → i.toInt ≤ 8 → (∀ k : Int32, 0 ≤ k.toInt → k.toInt < i.toInt → 1 ≤ (Xd_charOf a k).toInt ∧ (Xd_charOf a k).toInt ≤ 127) → wres (Xdesk_write_L2 a f i σ) (F_write_L10 a f' i i μ) := by
  intro m
  have z1 : (1 : Int32).toInt = 1 := rfl
  have z0 : (0 : Int32).toInt = 0 := rfl
  have z8 : (8 : Int32).toInt = 8 := rfl
  have z127 : (127 : Int32).toInt = 127 := rfl
  have z160 : (160 : Int32).toInt = 160 := rfl
  obtain ⟨p1, p2, p3, p4, p5⟩ := id hP
  have hln := hR.2.2.2.2.2.2.2.2.2
  have fin : ∀ i : Int32, 0 ≤ i.toInt → i.toInt ≤ 8 → (∀ k : Int32, 0 ≤ k.toInt → k.toInt < i.toInt → 1 ≤ (Xd_charOf a k).toInt ∧ (Xd_charOf a k).toInt ≤ 127) → wres (if ((σ.1 σ.2.2.2.2.1) + i) ≤ 160 then (Xdesk_write_L54 a (9) i 0 σ) else ((-1), σ)) (if ((μ.1 1) + i) ≤ 160 then (F_write_L74 a (9) i 0 μ) else ((-1), μ)) := by
    intro i h0 h8 hch
    rw [p4.1]
    have e : (μ.1 1 + i).toInt = (μ.1 1).toInt + i.toInt := i_addE rfl rfl (by omega) (by omega)
    by_cases c : μ.1 1 + i ≤ 160
    · rw [if_pos c, if_pos c]
      rw [Int32.le_iff_toInt_le, e, z160] at c
      exact fill_rel h8 hln.1 c hch (i.toInt - (0 : Int32).toInt).toNat 9 9 0 σ μ rfl (by rw [z0]; omega) (by rw [z0]; omega) (by decide) (by rw [z0]; exact h0) p1 p2 p3 p5 hR rfl (by rw [p4.1, z0]; omega) (fun j hj => p4.2 j (by rw [z0] at hj; omega))
    · rw [if_neg c, if_neg c]
      exact ⟨rfl, hP, hR⟩
  induction m with
  | zero =>
    intro f f' i hm hf hf' h0 h8 hch
    obtain ⟨f, rfl⟩ : ∃ x, f = x + 1 := ⟨f - 1, by omega⟩
    obtain ⟨f', rfl⟩ : ∃ x, f' = x + 1 := ⟨f' - 1, by omega⟩
    have c : 8 ≤ i := by rw [Int32.le_iff_toInt_le]; omega
    rw [Xdesk_write_L2, F_write_L10, if_pos c, if_pos c]
    exact fin i h0 h8 hch
  | succ m ih =>
    intro f f' i hm hf hf' h0 h8 hch
    obtain ⟨f, rfl⟩ : ∃ x, f = x + 1 := ⟨f - 1, by omega⟩
    obtain ⟨f', rfl⟩ : ∃ x, f' = x + 1 := ⟨f' - 1, by omega⟩
    have c : ¬ 8 ≤ i := by rw [Int32.le_iff_toInt_le]; omega
    have ei : (i + 1).toInt = i.toInt + 1 := i_addE rfl z1 (by omega) (by omega)
    have e := ch_same (x := a) h0 (by omega)
    have hb := (ch_b (v := (a >>> ((8 * i).toInt64 &&& 63)).toInt32))
    rw [Xdesk_write_L2, F_write_L10, if_neg c, if_neg c, ← e]
    rw [← e] at hb
    by_cases c1 : Xd_charOf a i = 0
    · rw [if_pos c1, if_pos c1]; exact fin i h0 h8 hch
    · rw [if_neg c1, if_neg c1]
      by_cases c2 : Xd_charOf a i ≤ 127
      · rw [if_pos c2, if_pos c2]
        rw [Int32.le_iff_toInt_le, z127] at c2
        have hne : (Xd_charOf a i).toInt ≠ 0 := fun e0 => c1 (Int32.toInt_inj.mp (by rw [e0, z0]))
        refine ih f f' (i + 1) (by omega) (by omega) (by omega) (by omega) (by omega) (fun k k0 k1 => ?_)
        by_cases hk : k.toInt = i.toInt
        · have : k = i := Int32.toInt_inj.mp hk
          subst this
          have := hb.1
          omega
        · exact hch k k0 (by omega)
      · rw [if_neg c2, if_neg c2]; exact ⟨rfl, hP, hR⟩
theorem write_rel {σ : XS} {μ : MS} {a : Int64} (hP : PS σ μ) (hR : RI μ) : wres (Xdesk_write σ a) (F_write μ a) := by
  unfold Xdesk_write F_write
  exact scan_rel (PS_si (Or.inr (Or.inr (Or.inl rfl))) hP) (ri_si (by decide) hR) 8 9 9 0 (by decide) (by decide) (by decide) (by decide) (by decide) (fun k h0 h1 => absurd h1 (by have z0 : (0 : Int32).toInt = 0 := rfl; rw [z0]; omega))
theorem erase_M {μ : MS} (hR : RI μ) : RI (si (si μ 17 0) 1 0) := ri_len (by decide) (by decide) (ri_si (by decide) hR)
theorem erase0_rel {σ : XS} {μ : MS} (hP : PS σ μ) (hs : σ.1 σ.2.2.2.2.1 ≤ 0) : σ.1 σ.2.2.2.2.1 = (F_erase μ).1 ∧ PS σ (F_erase μ).2 := by
  obtain ⟨p1, p2, p3, p4, p5⟩ := hP
  have q := (p2 _ p1.2).1
  have z0 : (0 : Int32).toInt = 0 := rfl
  rw [Int32.le_iff_toInt_le, z0] at hs
  have e1 : (F_erase μ).2.1 1 = 0 := by simp [F_erase, si, upd]
  refine ⟨p4.1, p1, p2, ST_m (by simp [F_erase, si, upd]) (by simp [F_erase, si, upd]) (by simp [F_erase, si, upd]) rfl p3, ⟨?_, fun j hj => ?_⟩, ?_⟩
  · rw [e1]; exact Int32.toInt_inj.mp (by rw [z0]; omega)
  · rw [e1, z0] at hj; omega
  · rw [p5]; simp [F_erase, si, upd]
theorem erase1_rel {σ : XS} {μ : MS} (hP : PS σ μ) : σ.1 σ.2.2.2.2.1 = (F_erase μ).1 ∧ PS (xp (xgrow σ) (xn σ)) (F_erase μ).2 := by
  obtain ⟨p1, p2, p3, p4, p5⟩ := hP
  have z0 : (0 : Int32).toInt = 0 := rfl
  have hx36 : 36 ≤ xn σ := by unfold xn; omega
  have hxe : xn σ % 2 = 0 := by unfold xn; omega
  have hxn : xn (xp (xgrow σ) (xn σ)) = xn σ + 2 := by unfold xn xp xgrow; dsimp only; omega
  have g1 : ∀ k, k ≠ xn σ → (xp (xgrow σ) (xn σ)).1 k = σ.1 k := fun k hk => by
    show upd σ.1 (xn σ) 0 k = σ.1 k; unfold upd; rw [if_neg hk]
  have g0 : (xp (xgrow σ) (xn σ)).1 (xn σ) = 0 := by
    show upd σ.1 (xn σ) 0 (xn σ) = 0; unfold upd; rw [if_pos rfl]
  have g2 : ∀ k, k ≠ xn σ + 1 → (xp (xgrow σ) (xn σ)).2.1 k = σ.2.1 k := fun k hk => by
    show (if k = xn σ + 1 then (fun _ => 0) else σ.2.1 k) = _; rw [if_neg hk]
  have hv : ∀ n, xv σ n → xv (xp (xgrow σ) (xn σ)) n := fun n h => ⟨h.1, h.2.1, by rw [hxn]; have := h.2.2; omega⟩
  have hrg : rg σ (xp (xgrow σ) (xn σ)) := by
    refine ⟨fun k hk => ⟨g1 k (by omega), g2 k (by omega)⟩, rfl, rfl, fun n hn => ⟨hv n hn, ?_, fun j hj => ?_⟩⟩
    · have := hn.2.2
      rw [g1 n (by omega)]; exact Int.le_refl _
    · have := hn.2.2
      rw [g2 (n + 1) (by omega)]
  have e1 : (F_erase μ).2.1 1 = 0 := by simp [F_erase, si, upd]
  refine ⟨p4.1, ⟨fun c i n h => hv n (p1.1 c i n h), ⟨hx36, hxe, by rw [hxn]; show xn σ < _; omega⟩⟩, fun n hn => ?_, ST_m (by simp [F_erase, si, upd]) (by simp [F_erase, si, upd]) (by simp [F_erase, si, upd]) rfl (ST_rg hrg p3), ⟨?_, fun j hj => ?_⟩, ?_⟩
  · obtain ⟨n1, n2, n3⟩ := hn
    rw [hxn] at n3
    by_cases e : n = xn σ
    · rw [e, g0, z0]; exact ⟨by decide, by decide, fun j hj => by omega⟩
    · rw [g1 n e, g2 (n + 1) (by omega)]
      exact p2 n ⟨n1, n2, by omega⟩
  · rw [e1]; exact g0
  · rw [e1, z0] at hj; omega
  · rw [g1 1 (by omega), p5]; simp [F_erase, si, upd]
theorem reset_X {σ : XS} : Xdesk_reset σ = xi (Xsh_clear (Xsh_clear (Xsh_clear (Xsh_clear (Xsh_clear (Xsh_clear σ 6) 11) 16) 21) 26) 31) 0 0 := by
  have r0 : ∀ τ : XS, Xdesk_registerNumbered τ 0 = some 11 := fun τ => rfl
  have r1 : ∀ τ : XS, Xdesk_registerNumbered τ (0 + 1) = some 16 := fun τ => rfl
  have r2 : ∀ τ : XS, Xdesk_registerNumbered τ (0 + 1 + 1) = some 21 := fun τ => rfl
  have r3 : ∀ τ : XS, Xdesk_registerNumbered τ (0 + 1 + 1 + 1) = some 26 := fun τ => rfl
  unfold Xdesk_reset
  dsimp only
  rw [Xdesk_reset_L9, if_neg (by decide), r0]
  dsimp only
  rw [Xdesk_reset_L9, if_neg (by decide), r1]
  dsimp only
  rw [Xdesk_reset_L9, if_neg (by decide), r2]
  dsimp only
  rw [Xdesk_reset_L9, if_neg (by decide), r3]
  dsimp only
  rw [Xdesk_reset_L9, if_pos (by decide)]
theorem reset_M {μ : MS} : F_reset μ = sa (sa (sa (sa (si (si (si (si μ 17 0) 5 0) 6 0) 14 0) 7 0 0) 7 1 0) 7 2 0) 7 3 0 := by
  have n0 : (0 : Int32).toNatClampNeg = 0 := by decide
  have n1 : (0 + 1 : Int32).toNatClampNeg = 1 := by decide
  have n2 : (0 + 1 + 1 : Int32).toNatClampNeg = 2 := by decide
  have n3 : (0 + 1 + 1 + 1 : Int32).toNatClampNeg = 3 := by decide
  unfold F_reset
  rw [F_reset_L22, if_neg (by decide), F_reset_L22, if_neg (by decide), F_reset_L22, if_neg (by decide), F_reset_L22, if_neg (by decide), F_reset_L22, if_pos (by decide), n0, n1, n2, n3]
theorem reset_rel {σ : XS} {μ : MS} (hP : PS σ μ) (hR : RI μ) : PS (Xdesk_reset σ) (F_reset μ) ∧ RI (F_reset μ) := by
  obtain ⟨p1, p2, p3, p4, p5⟩ := hP
  have z0 : (0 : Int32).toInt = 0 := rfl
  have hrs : rs σ (Xdesk_reset σ) := by
    rw [reset_X]
    exact (xi_rs (by decide)).tr ((xi_rs (by decide)).tr ((xi_rs (by decide)).tr ((xi_rs (by decide)).tr ((xi_rs (by decide)).tr ((xi_rs (by decide)).tr (xi_rs (by decide)))))))
  have xz : (Xdesk_reset σ).1 6 = 0 ∧ (∀ r : Nat, r < 4 → (Xdesk_reset σ).1 (11 + 5 * r) = 0) ∧ (Xdesk_reset σ).1 31 = 0 ∧ (Xdesk_reset σ).1 0 = 0 ∧ (Xdesk_reset σ).1 1 = σ.1 1 := by
    rw [reset_X]
    refine ⟨by simp [xi, Xsh_clear, upd], fun r hr => ?_, by simp [xi, Xsh_clear, upd], by simp [xi, upd], by simp [xi, Xsh_clear, upd]⟩
    rcases (show r = 0 ∨ r = 1 ∨ r = 2 ∨ r = 3 by omega) with rfl | rfl | rfl | rfl <;> simp [xi, Xsh_clear, upd]
  have mz : (F_reset μ).1 5 = 0 ∧ (F_reset μ).1 6 = 0 ∧ (F_reset μ).1 14 = 0 ∧ (∀ r : Nat, r < 4 → (F_reset μ).2.2.1 7 r = 0) ∧ (F_reset μ).1 1 = μ.1 1 ∧ (F_reset μ).1 15 = μ.1 15 ∧ (F_reset μ).2.2.1 0 = μ.2.2.1 0 := by
    rw [reset_M]
    refine ⟨by simp [sa, si, upd], by simp [sa, si, upd], by simp [sa, si, upd], fun r hr => ?_, by simp [sa, si, upd], by simp [sa, si, upd], by simp [sa, si]⟩
    rcases (show r = 0 ∨ r = 1 ∨ r = 2 ∨ r = 3 by omega) with rfl | rfl | rfl | rfl <;> simp [sa, si, upd]
  obtain ⟨x6, xr, x31, x0, x1⟩ := xz
  obtain ⟨m5, m6, m14, m7, m1, m15, m0⟩ := mz
  have hwf : xWF (Xdesk_reset σ) := by rw [reset_X]; exact p1
  have hST : ST (Xdesk_reset σ) (F_reset μ) := by
    refine ⟨⟨by rw [m5]; exact x6, by rw [m5]; decide, by rw [m5, z0]; omega, fun i hi => by rw [m5, z0] at hi; omega⟩, fun r h4 => ⟨by rw [m7 r h4]; exact xr r h4, by rw [m7 r h4]; decide, by rw [m7 r h4, z0]; omega, fun i hi => by rw [m7 r h4, z0] at hi; omega⟩, ⟨by rw [m14]; exact x31, by rw [m14]; decide, by rw [m14]; decide, fun i hi => by rw [m14, z0] at hi; omega⟩, by rw [m6]; exact x0, by rw [m6]; exact ⟨by decide, by decide⟩⟩
  refine ⟨⟨hwf, rok_rs hrs p2, hST, prg_keep p1 hrs m1 m0 p4, by rw [x1, m15]; exact p5⟩, ?_⟩
  refine RI_of hR hST ?_ m1 ?_ (fun j hj => ?_)
  · exact fs_fc (fc_same (by rw [reset_M]; rfl) (by rw [reset_M]; simp [sa, si]))
  · rw [reset_M]; exact hR.2.2.2.2.1
  · rw [reset_M]
    have e9 : (sa (sa (sa (sa (si (si (si (si μ 17 0) 5 0) 6 0) 14 0) 7 0 0) 7 1 0) 7 2 0) 7 3 0).2.2.1 9 = μ.2.2.1 9 := by simp [sa, si]
    have e10 : (sa (sa (sa (sa (si (si (si (si μ 17 0) 5 0) 6 0) 14 0) 7 0 0) 7 1 0) 7 2 0) 7 3 0).2.2.1 10 = μ.2.2.1 10 := by simp [sa, si]
    rw [e9, e10]
    exact ⟨hR.2.2.2.2.2.1 j hj, hR.2.2.2.2.2.2.1 j hj⟩
theorem in_rng {i d : Int32} (h0 : 0 ≤ d.toInt) (h1 : d.toInt ≤ 100) : f_within i.toInt64 0 ((d - 1).toInt64) = 0 ↔ ¬ (0 ≤ i.toInt ∧ i.toInt < d.toInt) := by
  have z0 : (0 : Int64).toInt = 0 := rfl
  have e := Int32.toInt_toInt64 i
  have e1 : (d - 1).toInt = d.toInt - 1 := i_subE rfl (show (1 : Int32).toInt = 1 from rfl) (by omega) (by omega)
  have e2 := Int32.toInt_toInt64 (d - 1)
  unfold f_within
  by_cases c1 : i.toInt64 < 0
  · rw [if_pos c1]; rw [Int64.lt_iff_toInt_lt] at c1; exact ⟨fun _ => by omega, fun _ => rfl⟩
  · rw [if_neg c1]
    rw [Int64.lt_iff_toInt_lt] at c1
    by_cases c2 : (d - 1).toInt64 < i.toInt64
    · rw [if_pos c2]; rw [Int64.lt_iff_toInt_lt] at c2; exact ⟨fun _ => by omega, fun _ => rfl⟩
    · rw [if_neg c2]; rw [Int64.lt_iff_toInt_lt] at c2; exact ⟨fun h => absurd h (by decide), fun h => absurd ⟨by omega, by omega⟩ h⟩
theorem get_M {σ : XS} {μ : MS} (hP : PS σ μ) (hR : RI μ) : PS σ (si μ 17 0) ∧ RI (si μ 17 0) := ⟨PS_si (by decide) hP, ri_si (by decide) hR⟩
theorem cost_rel {σ : XS} {μ : MS} (hP : PS σ μ) : Xdesk_cost σ = (F_cost μ).1 ∧ (F_cost μ).2 = si μ 17 0 := ⟨hP.2.2.2.2, rfl⟩
theorem prints_rel {σ : XS} {μ : MS} (hP : PS σ μ) : Xdesk_prints σ = (F_prints μ).1 ∧ (F_prints μ).2 = si μ 17 0 := ⟨hP.2.2.1.2.2.1.1, rfl⟩
theorem depth_rel {σ : XS} {μ : MS} (hP : PS σ μ) : Xdesk_depth σ = (F_depth μ).1 ∧ (F_depth μ).2 = si μ 17 0 := ⟨hP.2.2.1.1.1, rfl⟩
theorem prec_rel {σ : XS} {μ : MS} (hP : PS σ μ) : Xdesk_precision σ = (F_precision μ).1 ∧ (F_precision μ).2 = si μ 17 0 := ⟨hP.2.2.1.2.2.2.1, rfl⟩
theorem item_rel {σ : XS} {μ : MS} {i : Int32} (hP : PS σ μ) : (Xdesk_item σ i = (F_item μ i).1 ∧ (F_item μ i).2 = si μ 17 0) ∧ (Xdesk_scale σ i = (F_scale μ i).1 ∧ (F_scale μ i).2 = si μ 17 0) := by
  have hs := hP.2.2.1
  obtain ⟨d1, d2, d3⟩ := hs.depth
  unfold Xdesk_item Xdesk_scale F_item F_scale
  by_cases c : 0 ≤ i.toInt ∧ i.toInt < (μ.1 5).toInt
  · have hn : ¬ f_within i.toInt64 0 ((μ.1 5 - 1).toInt64) = 0 := fun e => (in_rng d2 (by omega)).mp e c
    obtain ⟨t1, t2, -, -⟩ := topX (k := i) hs c.1 c.2
    have e1 : (μ.1 5 - 1).toInt = (μ.1 5).toInt - 1 := i_subE rfl (show (1 : Int32).toInt = 1 from rfl) (by omega) (by omega)
    have e2 : (μ.1 5 - 1 - i).toNatClampNeg = ((μ.1 5).toInt - 1 - i.toInt).toNat := by rw [← Int32.toNat_toInt, i_subE e1 rfl (by omega) (by omega)]
    rw [if_neg hn, if_neg hn, t1, t2, e2]
    exact ⟨⟨rfl, rfl⟩, ⟨rfl, rfl⟩⟩
  · have hn : f_within i.toInt64 0 ((μ.1 5 - 1).toInt64) = 0 := (in_rng d2 (by omega)).mpr c
    obtain ⟨t1, t2⟩ := top_out (σ := σ) (c := 6) (k := i) (by rw [d1]; exact c)
    rw [if_pos hn, if_pos hn, t1, t2]
    exact ⟨⟨rfl, rfl⟩, ⟨rfl, rfl⟩⟩
theorem has_out {σ : XS} {c : Nat} {i : Int32} (h : ¬ (0 ≤ i.toInt ∧ i.toInt < (σ.1 c).toInt)) : Xsh_has σ c i = 0 := by
  have z0 : (0 : Int32).toInt = 0 := rfl
  unfold Xsh_has
  by_cases c1 : i < 0
  · rw [if_pos c1]
  · rw [if_neg c1, if_pos]
    rw [Int32.lt_iff_toInt_lt] at c1
    rw [Int32.le_iff_toInt_le]
    omega
theorem printed_rel {σ : XS} {μ : MS} {i : Int32} (hP : PS σ μ) : (Xdesk_printed σ i = (F_printed μ i).1 ∧ (F_printed μ i).2 = si μ 17 0) ∧ (Xdesk_places σ i = (F_places μ i).1 ∧ (F_places μ i).2 = si μ 17 0) := by
  obtain ⟨d1, d2, d3, d4⟩ := hP.2.2.1.2.2.1
  unfold Xdesk_printed Xdesk_places F_printed F_places
  by_cases c : 0 ≤ i.toInt ∧ i.toInt < (μ.1 14).toInt
  · have hn : ¬ f_within i.toInt64 0 ((μ.1 14 - 1).toInt64) = 0 := fun e => (in_rng d2 (by omega)).mp e c
    obtain ⟨t1, t2, -, -⟩ := slot_in (σ := σ) (c := 31) (i := i) (by decide) c.1 (by rw [d1]; exact c.2) (by rw [d1]; exact d3)
    have e2 : i.toNatClampNeg = i.toInt.toNat := (Int32.toNat_toInt i).symm
    obtain ⟨q1, q2⟩ := d4 i.toInt.toNat (by omega)
    rw [if_neg hn, if_neg hn, t1, t2, e2]
    exact ⟨⟨q1, rfl⟩, ⟨q2, rfl⟩⟩
  · have hn : f_within i.toInt64 0 ((μ.1 14 - 1).toInt64) = 0 := (in_rng d2 (by omega)).mpr c
    have ho := has_out (σ := σ) (c := 31) (i := i) (by rw [d1]; exact c)
    unfold Xsh_valueAt Xsh_placesAt
    rw [if_pos hn, if_pos hn, ho, if_pos rfl, if_pos rfl]
    exact ⟨⟨rfl, rfl⟩, ⟨rfl, rfl⟩⟩
theorem held_rel {σ : XS} {μ : MS} {r : Int32} (hP : PS σ μ) : Xdesk_held σ r = (F_held μ r).1 ∧ (F_held μ r).2 = si μ 17 0 := by
  have z0 : (0 : Int32).toInt = 0 := rfl
  have z4 : (4 : Int32).toInt = 4 := rfl
  have hq : f_within r.toInt64 0 3 = 0 ↔ ¬ (0 ≤ r.toInt ∧ r.toInt < 4) := in_rng (i := r) (d := 4) (by decide) (by decide)
  unfold Xdesk_held F_held
  by_cases c : 0 ≤ r.toInt ∧ r.toInt < 4
  · have hn : ¬ f_within r.toInt64 0 3 = 0 := fun e => hq.mp e c
    have hR : Xdesk_registerNumbered σ r = some (11 + 5 * r.toNatClampNeg) := by
      unfold Xdesk_registerNumbered
      rw [if_neg (by rw [Int32.lt_iff_toInt_lt]; omega), if_pos (by rw [Int32.lt_iff_toInt_lt]; omega)]
    rw [hR, if_neg hn]
    exact ⟨(hP.2.2.1.2.1 r.toNatClampNeg (by rw [← Int32.toNat_toInt]; omega)).1, rfl⟩
  · have hn : f_within r.toInt64 0 3 = 0 := hq.mpr c
    have hR : Xdesk_registerNumbered σ r = none := by
      unfold Xdesk_registerNumbered
      by_cases c1 : r < 0
      · rw [if_pos c1]
      · rw [if_neg c1]
        rw [Int32.lt_iff_toInt_lt] at c1
        rw [if_neg (by rw [Int32.lt_iff_toInt_lt]; omega)]
    rw [hR, if_pos hn]
    exact ⟨rfl, rfl⟩
