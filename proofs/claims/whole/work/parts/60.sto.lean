theorem add_sub1 {a : Int32} (h : 0 ≤ a.toInt) (h2 : a.toInt ≤ 100) : (a + 1).toInt = a.toInt + 1 := i_addE rfl (show (1 : Int32).toInt = 1 from rfl) (by omega) (by omega)
theorem sub_add1 {a : Int32} (h : 0 ≤ a.toInt) (h2 : a.toInt ≤ 100) : a - 1 + 1 = a := by
  apply Int32.toInt_inj.mp
  have e : (a - 1).toInt = a.toInt - 1 := i_subE rfl (show (1 : Int32).toInt = 1 from rfl) (by omega) (by omega)
  rw [i_addE e (show (1 : Int32).toInt = 1 from rfl) (by omega) (by omega)]; omega
/-- the top of a register, in both -/
theorem regTop {σ : XS} {μ : MS} (h : ST σ μ) {q : Nat} (h4 : q < 4) (hd : 1 ≤ (μ.2.2.1 7 q).toInt) : itm σ (11 + 5 * q) ((μ.2.2.1 7 q).toInt - 1).toNat μ (40 + 10 * q + ((μ.2.2.1 7 q).toInt - 1).toNat) ∧ Xsh_valueAt σ (11 + 5 * q) (Xsh_slotBelowTop σ (11 + 5 * q) 0) = μ.2.2.2 2 (40 + 10 * q + ((μ.2.2.1 7 q).toInt - 1).toNat) ∧ Xsh_placesAt σ (11 + 5 * q) (Xsh_slotBelowTop σ (11 + 5 * q) 0) = μ.2.2.1 3 (40 + 10 * q + ((μ.2.2.1 7 q).toInt - 1).toNat) ∧ Xsh_rowAt σ (11 + 5 * q) (Xsh_slotBelowTop σ (11 + 5 * q) 0) = σ.2.2.2.1 (11 + 5 * q + 3) ((μ.2.2.1 7 q).toInt - 1).toNat ∧ Xsh_startAt σ (11 + 5 * q) (Xsh_slotBelowTop σ (11 + 5 * q) 0) = σ.2.1 (11 + 5 * q + 4) ((μ.2.2.1 7 q).toInt - 1).toNat := by
  obtain ⟨g1, g2, g3, g4⟩ := h.2.1 q h4
  have z0 : (0 : Int32).toInt = 0 := rfl
  have hi := g4 ((μ.2.2.1 7 q).toInt - 1).toNat (by omega)
  have ht := top_in (σ := σ) (c := 11 + 5 * q) (k := 0) (regsh h4) (by rw [g1]; exact g3) (by decide) (by rw [g1, z0]; omega)
  rw [g1, z0, Int.sub_zero] at ht
  exact ⟨hi, ht.1.trans hi.1, ht.2.1.trans hi.2.1, ht.2.2.1, ht.2.2.2⟩
/-- a letter's register number as the reference has it -/
def rgn (r : Int32) (q : Nat) : Prop := r.toNatClampNeg = q ∧ r.toInt = q ∧ q < 4
theorem topOf_eq {μ : MS} {r : Int32} {q : Nat} (hr : rgn r q) (h : 0 ≤ (μ.2.2.1 7 q).toInt ∧ (μ.2.2.1 7 q).toInt ≤ 10) : (F_topOf μ r).toInt = 40 + 10 * q + (μ.2.2.1 7 q).toInt - 1 := by
  obtain ⟨r1, r2, r3⟩ := hr
  unfold F_topOf
  rw [r1]
  exact i_subE (i_addE (i_addE (show (40 : Int32).toInt = 40 from rfl) (i_mulE (show (10 : Int32).toInt = 10 from rfl) r2 (by omega) (by omega)) (by omega) (by omega)) rfl (by omega) (by omega)) (show (1 : Int32).toInt = 1 from rfl) (by omega) (by omega)
/-- the stack's top goes into register q, at the slot behind its h items; M's state before: ξ -/
theorem into_reg {σ : XS} {μ ξ : MS} {q : Nat} {t : Int32} (h : ST σ μ) (h4 : q < 4) (hd : 1 ≤ (μ.1 5).toInt) (hh : (μ.2.2.1 7 q).toInt < 10) (hξ1 : ∀ k, k ≠ 5 → ξ.1 k = μ.1 k) (hξ5 : ξ.1 5 = μ.1 5 - 1) (hξ2 : ξ.2.2.2 = μ.2.2.2) (hξ7 : ξ.2.2.1 7 q = μ.2.2.1 7 q + 1) (hξ7' : ∀ k, k ≠ q → ξ.2.2.1 7 k = μ.2.2.1 7 k) (hξ3 : ∀ k, k ≠ 7 → ξ.2.2.1 k = μ.2.2.1 k) (ht : t.toInt = 40 + 10 * q + (μ.2.2.1 7 q).toInt) : ∃ u, Xsh_putTopOf σ (11 + 5 * q) 6 = .inr u ∧ ST (Xsh_drop u 6 1) (F_copy ξ (μ.1 5 - 1) t) ∧ kx σ (Xsh_drop u 6 1) ∧ km μ (F_copy ξ (μ.1 5 - 1) t) ∧ (F_copy ξ (μ.1 5 - 1) t).1 16 = μ.1 16 := by
  obtain ⟨d1, d2, d3⟩ := h.depth
  have z0 : (0 : Int32).toInt = 0 := rfl
  have z1 : (1 : Int32).toInt = 1 := rfl
  obtain ⟨g1, g2, g3, g4⟩ := h.2.1 q h4
  have ty := topX (k := 0) h (by decide) (by rw [z0]; omega)
  have hi := top_itm (k := 0) h (by decide) (by rw [z0]; omega)
  rw [z0, Int.sub_zero] at ty hi
  obtain ⟨c0, c1⟩ := clamp_sub (d := μ.1 5) (k := 1) (by decide) (by rw [z1]; omega) (by omega)
  rw [z1] at c0 c1
  have hms : ∀ k, msame μ ξ k := fun k => ⟨by rw [hξ2], by rw [hξ3 3 (by decide)], fun j _ => by rw [hξ3 4 (by decide)]⟩
  have hiξ := itm_keep (σ := σ) (τ := σ) rs.rf shq.rf (hms _) hi
  obtain ⟨s1, s2⟩ := itm_src hiξ
  obtain ⟨a1, a2, a3, a4, a5, a6, a7⟩ := copy_spec (μ := ξ) (f := μ.1 5 - 1) (t := t) (by omega) (by omega) (by omega) (by rw [c0]; exact s1) (by rw [c0]; exact s2)
  rw [c0] at a5 a6 a7
  have tN : t.toInt.toNat = 40 + 10 * q + (μ.2.2.1 7 q).toInt.toNat := by omega
  rw [tN] at a4 a5 a6 a7
  generalize hC : F_copy ξ (μ.1 5 - 1) t = ν at *
  -- first the register with the item more, the depth as it was
  have hν0 : ST (shput σ (11 + 5 * q) (μ.2.2.1 7 q).toInt.toNat (ξ.2.2.2 2 ((μ.1 5).toInt - 1).toNat) (ξ.2.2.1 3 ((μ.1 5).toInt - 1).toNat) (σ.2.2.2.1 9 ((μ.1 5).toInt - 1).toNat) (σ.2.1 10 ((μ.1 5).toInt - 1).toNat)) (si ν 5 (μ.1 5)) ∧ Xsh_put σ (11 + 5 * q) (ξ.2.2.2 2 ((μ.1 5).toInt - 1).toNat) (ξ.2.2.1 3 ((μ.1 5).toInt - 1).toNat) (σ.2.2.2.1 9 ((μ.1 5).toInt - 1).toNat) (σ.2.1 10 ((μ.1 5).toInt - 1).toNat) = .inr (shput σ (11 + 5 * q) (μ.2.2.1 7 q).toInt.toNat (ξ.2.2.2 2 ((μ.1 5).toInt - 1).toNat) (ξ.2.2.1 3 ((μ.1 5).toInt - 1).toNat) (σ.2.2.2.1 9 ((μ.1 5).toInt - 1).toNat) (σ.2.1 10 ((μ.1 5).toInt - 1).toNat)) := by
    have hp := ST_rpush (ν := si ν 5 (μ.1 5)) (v := ξ.2.2.2 2 ((μ.1 5).toInt - 1).toNat) (p := ξ.2.2.1 3 ((μ.1 5).toInt - 1).toNat) (r := σ.2.2.2.1 9 ((μ.1 5).toInt - 1).toNat) (s := σ.2.1 10 ((μ.1 5).toInt - 1).toNat) h h4 hh (by simp [si, upd]) ⟨by rw [← hξ1 14 (by decide), ← a1]; simp [si, upd], by rw [← hξ1 6 (by decide), ← a1]; simp [si, upd], by show ν.2.2.2 12 = _; rw [a2 12 (by decide), hξ2], by show ν.2.2.1 13 = _; rw [a3 13 (by decide) (by decide), hξ3 13 (by decide)]⟩ (by show ν.2.2.1 7 q = _; rw [a3 7 (by decide) (by decide), hξ7]) (fun k hk => by show ν.2.2.1 7 k = _; rw [a3 7 (by decide) (by decide), hξ7' k hk]) (fun k _ hk => by
      obtain ⟨m1, m2, m3⟩ := a4 k hk
      obtain ⟨n1, n2, n3⟩ := hms k
      exact ⟨m1.trans n1, m2.trans n2, fun j hj => (m3 j hj).trans (n3 j hj)⟩) a5 a6 (itk_copy hiξ a7)
    exact ⟨hp.2, hp.1⟩
  obtain ⟨hST, hput⟩ := hν0
  refine ⟨_, putTop_eq (by rw [ty.1, ty.2.1, ty.2.2.1, ty.2.2.2, ← (hms _).1, ← (hms _).2.1]; exact hput), ?_, (shput_kx (regsh h4)).tr (drop_kx (by decide)), ?_, by rw [a1]; exact hξ1 16 (by decide)⟩
  · have e55 : (si ν 5 (μ.1 5)).1 5 = μ.1 5 := by simp [si, upd]
    exact ST_drop (n := 1) hST (by decide) (by rw [e55, z1]; exact hd) (by rw [e55, a1]; exact hξ5) ⟨by simp [si, upd], by simp [si, upd], rfl, rfl⟩ rfl
  · refine ⟨⟨by rw [a1]; exact hξ1 11 (by decide), by rw [a3 8 (by decide) (by decide)]; exact hξ3 8 (by decide), by rw [a3 9 (by decide) (by decide)]; exact hξ3 9 (by decide), by rw [a3 10 (by decide) (by decide)]; exact hξ3 10 (by decide)⟩, by rw [a1]; exact hξ1 1 (by decide), by rw [a3 0 (by decide) (by decide)]; exact hξ3 0 (by decide), by rw [a1]; exact hξ1 15 (by decide), by rw [a1]; exact hξ1 18 (by decide)⟩
theorem cres_kx {σ τ : XS} {μ ν : MS} {rx : (String × XS) ⊕ XS} {rm : Int32 × MS} (hk : kx σ τ) (hm : km μ ν) (h : cres τ ν rx rm) : cres σ μ rx rm := by
  cases rx with
  | inr u => obtain ⟨h1, h2, h3, h4, h5⟩ := h; exact ⟨h1, h2, hk.tr h3, hm.tr h4, h5⟩
  | inl e => obtain ⟨h1, h2, h3, h4, h5⟩ := h; exact ⟨h1, h2, hk.tr h3, hm.tr h4, h5⟩
/-- s S l L, behind the letter -/
theorem sto_rel {σ0 σ : XS} {μ : MS} {r : Int32} {q : Nat} (hreg : Xdesk_registerOfLetter σ0 = .inr (some (11 + 5 * q), σ)) (hr : rgn r q) (h : ST σ μ) (hw : xWF σ) (h16 : μ.1 16 = 0) :
    cres σ μ (Xdesk_moveToOrFromRegister σ0 115) (F_stores μ 115 r) ∧ cres σ μ (Xdesk_moveToOrFromRegister σ0 83) (F_stores μ 83 r) ∧ cres σ μ (Xdesk_moveToOrFromRegister σ0 108) (F_stores μ 108 r) ∧ cres σ μ (Xdesk_moveToOrFromRegister σ0 76) (F_stores μ 76 r) := by
  obtain ⟨d1, d2, d3⟩ := h.depth
  obtain ⟨r1, r2, h4⟩ := id hr
  have z0 : (0 : Int32).toInt = 0 := rfl
  have z1 : (1 : Int32).toInt = 1 := rfl
  have z10 : (10 : Int32).toInt = 10 := rfl
  obtain ⟨g1, g2, g3, g4⟩ := h.2.1 q h4
  rw [reglen h4] at g3
  have hc := regsh h4
  obtain ⟨c0, c1⟩ : (1 ≤ (μ.1 5).toInt → (μ.1 5 - 1).toInt = (μ.1 5).toInt - 1) ∧ True := ⟨fun hd => (clamp_sub (d := μ.1 5) (k := 1) (by decide) (by rw [z1]; exact hd) (by omega)).1, trivial⟩
  refine ⟨?_, ?_, ?_, ?_⟩
  · by_cases hd : 1 ≤ (μ.1 5).toInt
    · obtain ⟨x1, m1⟩ := need_yes (n := 1) h (by rw [z1]; exact hd)
      have hX : Xdesk_moveToOrFromRegister σ0 115 = (match Xsh_putTopOf (Xsh_drop σ (11 + 5 * q) 1) (11 + 5 * q) 6 with | .inl e9 => .inl e9 | .inr u26 => .inr (Xsh_drop u26 6 1)) := by
        unfold Xdesk_moveToOrFromRegister
        simp only [hreg, Option.getD_some]
        rw [if_pos (by first | rfl | trivial)]
        simp only [x1]
        cases Xsh_putTopOf (Xsh_drop σ (11 + 5 * q) 1) (11 + 5 * q) 6 <;> rfl
      rw [hX]
      by_cases hz : (μ.2.2.1 7 q).toInt = 0
      · have hz0 : μ.2.2.1 7 q = 0 := Int32.toInt_inj.mp (by rw [hz]; rfl)
        have hdrop : Xsh_drop σ (11 + 5 * q) 1 = xi σ (11 + 5 * q) (μ.2.2.1 7 q) := by
          unfold Xsh_drop; rw [g1, hz0, if_neg (by decide)]
        have hST0 : ST (xi σ (11 + 5 * q) (μ.2.2.1 7 q)) μ := by
          have e : xi σ (11 + 5 * q) (μ.2.2.1 7 q) = σ := by
            rw [← g1]; unfold xi
            have : upd σ.1 (11 + 5 * q) (σ.1 (11 + 5 * q)) = σ.1 := by funext j; unfold upd; split <;> simp_all
            rw [this]
          rw [e]; exact h
        have hM : F_stores μ 115 r = (1, F_copy (si (sa μ 7 q (μ.2.2.1 7 q + 1)) 5 (μ.1 5 - 1)) (μ.1 5 - 1) (F_topOf (si (sa μ 7 q (μ.2.2.1 7 q + 1)) 5 (μ.1 5 - 1)) r)) := by
          unfold F_stores
          rw [if_pos rfl]
          simp only [m1, r1, hz0, show ¬ (1 : Int32) = 0 by decide, ↓reduceIte]
        have e7 : (si (sa μ 7 q (μ.2.2.1 7 q + 1)) 5 (μ.1 5 - 1)).2.2.1 7 q = μ.2.2.1 7 q + 1 := by simp [si, sa, upd]
        have ht := topOf_eq (μ := si (sa μ 7 q (μ.2.2.1 7 q + 1)) 5 (μ.1 5 - 1)) hr (by rw [e7, add_sub1 g2 (by omega)]; omega)
        rw [e7, add_sub1 g2 (by omega)] at ht
        obtain ⟨u, hu, k1, k2, k3, k4⟩ := into_reg (ξ := si (sa μ 7 q (μ.2.2.1 7 q + 1)) 5 (μ.1 5 - 1)) hST0 h4 hd (by omega) (fun k hk => by simp [si, sa, upd, hk]) (by simp [si, upd]) rfl e7 (fun k hk => by simp [si, sa, upd, hk]) (fun k hk => by simp [si, sa, hk]) (by rw [ht]; omega)
        rw [hdrop, hu]
        exact cres_ok rfl hM ⟨k1, (xi_kx (by omega) (by omega) (by omega)).tr k2, k3, k4.trans h16⟩
      · have hz0 : ¬ μ.2.2.1 7 q = 0 := fun e => hz (by rw [e]; rfl)
        have hM : F_stores μ 115 r = (1, F_copy (si μ 5 (μ.1 5 - 1)) (μ.1 5 - 1) (F_topOf (si μ 5 (μ.1 5 - 1)) r)) := by
          unfold F_stores
          rw [if_pos rfl]
          simp only [m1, r1, hz0, show ¬ (1 : Int32) = 0 by decide, ↓reduceIte]
        have hST0 := ST_rdrop (ν := sa μ 7 q (μ.2.2.1 7 q - 1)) h h4 (by omega) rfl ⟨rfl, rfl, rfl, by simp [sa]⟩ (by simp [sa, upd]) (fun k hk => by simp [sa, upd, hk]) (fun k _ _ => ⟨rfl, by simp [sa], fun j _ => by simp [sa]⟩)
        have e7 : (sa μ 7 q (μ.2.2.1 7 q - 1)).2.2.1 7 q = μ.2.2.1 7 q - 1 := by simp [sa, upd]
        have em : (μ.2.2.1 7 q - 1).toInt = (μ.2.2.1 7 q).toInt - 1 := i_subE rfl z1 (by omega) (by omega)
        have ht := topOf_eq (μ := si μ 5 (μ.1 5 - 1)) hr (show 0 ≤ (μ.2.2.1 7 q).toInt ∧ (μ.2.2.1 7 q).toInt ≤ 10 from ⟨g2, g3⟩)
        have ht : (F_topOf (si μ 5 (μ.1 5 - 1)) r).toInt = 40 + 10 * q + (μ.2.2.1 7 q).toInt - 1 := ht
        obtain ⟨u, hu, k1, k2, k3, k4⟩ := into_reg (μ := sa μ 7 q (μ.2.2.1 7 q - 1)) (ξ := si μ 5 (μ.1 5 - 1)) hST0 h4 hd (by rw [e7, em]; omega) (fun k hk => by simp [si, sa, upd, hk]) (by simp [si, sa, upd]) rfl (by rw [e7, sub_add1 g2 (by omega)]; rfl) (fun k hk => by simp [si, sa, upd, hk]) (fun k hk => by simp [si, sa, hk]) (by rw [ht, e7, em]; omega)
        rw [hu]
        refine cres_ok rfl hM ⟨k1, (drop_kx hc).tr k2, ?_, k4.trans h16⟩
        exact km.tr ⟨⟨rfl, by simp [sa], by simp [sa], by simp [sa]⟩, rfl, by simp [sa], rfl, rfl⟩ k3
    · obtain ⟨x1, m1⟩ := need_no (n := 1) h (by rw [z1]; exact hd)
      refine cres_no (E := "java/lang/IllegalStateException") (u := σ) (ν := si μ 16 2) ?_ ?_ (bad_sfm hw h (by rw [xcd_2]; exact noC_si))
      · unfold Xdesk_moveToOrFromRegister
        simp only [hreg, Option.getD_some]
        rw [if_pos (by first | rfl | trivial)]
        simp only [x1]
      · unfold F_stores
        rw [if_pos rfl]
        simp only [m1, ↓reduceIte]
  · by_cases hd : 1 ≤ (μ.1 5).toInt
    · obtain ⟨x1, m1⟩ := need_yes (n := 1) h (by rw [z1]; exact hd)
      have hX : Xdesk_moveToOrFromRegister σ0 83 = (match Xsh_putTopOf σ (11 + 5 * q) 6 with | .inl e9 => .inl e9 | .inr u26 => .inr (Xsh_drop u26 6 1)) := by
        unfold Xdesk_moveToOrFromRegister
        simp only [hreg, Option.getD_some]
        rw [if_neg (by decide), if_pos (by first | rfl | trivial)]
        simp only [x1]
        cases Xsh_putTopOf σ (11 + 5 * q) 6 <;> rfl
      rw [hX]
      by_cases hz : (μ.2.2.1 7 q).toInt = 10
      · have hz0 : μ.2.2.1 7 q = 10 := Int32.toInt_inj.mp (by rw [hz]; rfl)
        refine cres_no (E := "java/lang/UnsupportedOperationException") (u := σ) (ν := si μ 16 5) ?_ ?_ (bad_sfm hw h (by rw [xcd_5]; exact noC_si))
        · rw [putTop_full hc (by rw [g1, reglen h4]; omega)]
        · unfold F_stores
          rw [if_neg (by decide), if_pos rfl]
          simp only [m1, r1, hz0, show ¬ (1 : Int32) = 0 by decide, ↓reduceIte]
      · have hz0 : ¬ μ.2.2.1 7 q = 10 := fun e => hz (by rw [e]; rfl)
        have hM : F_stores μ 83 r = (1, F_copy (si (sa μ 7 q (μ.2.2.1 7 q + 1)) 5 (μ.1 5 - 1)) (μ.1 5 - 1) (F_topOf (si (sa μ 7 q (μ.2.2.1 7 q + 1)) 5 (μ.1 5 - 1)) r)) := by
          unfold F_stores
          rw [if_neg (by decide), if_pos rfl]
          simp only [m1, r1, hz0, show ¬ (1 : Int32) = 0 by decide, ↓reduceIte]
        have e7 : (si (sa μ 7 q (μ.2.2.1 7 q + 1)) 5 (μ.1 5 - 1)).2.2.1 7 q = μ.2.2.1 7 q + 1 := by simp [si, sa, upd]
        have ht := topOf_eq (μ := si (sa μ 7 q (μ.2.2.1 7 q + 1)) 5 (μ.1 5 - 1)) hr (by rw [e7, add_sub1 g2 (by omega)]; omega)
        rw [e7, add_sub1 g2 (by omega)] at ht
        obtain ⟨u, hu, k1, k2, k3, k4⟩ := into_reg (ξ := si (sa μ 7 q (μ.2.2.1 7 q + 1)) 5 (μ.1 5 - 1)) h h4 hd (by omega) (fun k hk => by simp [si, sa, upd, hk]) (by simp [si, upd]) rfl e7 (fun k hk => by simp [si, sa, upd, hk]) (fun k hk => by simp [si, sa, hk]) (by rw [ht]; omega)
        rw [hu]
        exact cres_ok rfl hM ⟨k1, k2, k3, k4.trans h16⟩
    · obtain ⟨x1, m1⟩ := need_no (n := 1) h (by rw [z1]; exact hd)
      refine cres_no (E := "java/lang/IllegalStateException") (u := σ) (ν := si μ 16 2) ?_ ?_ (bad_sfm hw h (by rw [xcd_2]; exact noC_si))
      · unfold Xdesk_moveToOrFromRegister
        simp only [hreg, Option.getD_some]
        rw [if_neg (by decide), if_pos (by first | rfl | trivial)]
        simp only [x1]
      · unfold F_stores
        rw [if_neg (by decide), if_pos rfl]
        simp only [m1, ↓reduceIte]
  · have key : True := trivial
    by_cases hz : (μ.2.2.1 7 q).toInt = 0
    · have hz0 : μ.2.2.1 7 q = 0 := Int32.toInt_inj.mp (by rw [hz]; rfl)
      have hH : Xdesk_needHeld σ (11 + 5 * q) = .inl ("java/lang/IllegalStateException", σ) := by unfold Xdesk_needHeld; rw [g1, hz0, if_neg (by decide)]
      refine cres_no (E := "java/lang/IllegalStateException") (u := σ) (ν := si μ 16 2) ?_ ?_ (bad_sfm hw h (by rw [xcd_2]; exact noC_si))
      · unfold Xdesk_moveToOrFromRegister
        simp only [hreg, Option.getD_some]
        rw [if_neg (by decide), if_neg (by decide)]
        simp only [hH]
      · unfold F_stores
        rw [if_neg (by decide), if_neg (by decide), r1, if_pos hz0]
    · have hz0 : ¬ μ.2.2.1 7 q = 0 := fun e => hz (by rw [e]; rfl)
      have hH : Xdesk_needHeld σ (11 + 5 * q) = .inr σ := by unfold Xdesk_needHeld; rw [g1, if_pos (by rw [Int32.le_iff_toInt_le, z1]; omega)]
      have hX : Xdesk_moveToOrFromRegister σ0 108 = (match Xsh_putTopOf σ 6 (11 + 5 * q) with | .inl e9 => .inl e9 | .inr u26 => .inr (Xsh_drop u26 (11 + 5 * q) 0)) := by
        unfold Xdesk_moveToOrFromRegister
        simp only [hreg, Option.getD_some]
        rw [if_neg (by decide), if_neg (by decide)]
        simp only [hH]
        cases Xsh_putTopOf σ 6 (11 + 5 * q) with
        | inl e => rfl
        | inr u => simp only; rw [if_neg (by decide)]
      have hM : F_stores μ 108 r = (let q_119 := F_room μ; if q_119.1 = 0 then (0, q_119.2) else (1, si (F_copy μ (F_topOf μ r) (μ.1 5)) 5 (μ.1 5 + 1))) := by
        unfold F_stores
        rw [if_neg (by decide), if_neg (by decide), r1, if_neg hz0]
        simp only [show ¬ (108 : Int32) = 76 by decide, ↓reduceIte]
      by_cases h40 : (μ.1 5).toInt < 40
      · obtain ⟨t1, t2, t3, t4, t5⟩ := regTop h h4 (by omega)
        have ht := topOf_eq hr (μ := μ) (by omega)
        have hN : (F_topOf μ r).toInt.toNat = 40 + 10 * q + ((μ.2.2.1 7 q).toInt - 1).toNat := by rw [ht]; omega
        obtain ⟨s1, s2⟩ := itm_src t1
        obtain ⟨a1, a2, a3, a4, a5, a6, a7⟩ := copy_spec (μ := μ) (f := F_topOf μ r) (t := μ.1 5) (by omega) (by omega) (by omega) (by rw [hN]; exact s1) (by rw [hN]; exact s2)
        rw [hN] at a5 a6 a7
        generalize hC : F_copy μ (F_topOf μ r) (μ.1 5) = μc at *
        have hP := ST_push (ν := si μc 5 (μ.1 5 + 1)) h h40 (by simp [si, upd]) ⟨by simp [si, upd, a1], by simp [si, upd, a1], a2 12 (by decide), a3 13 (by decide) (by decide)⟩ (a3 7 (by decide) (by decide)) (fun k _ hk => a4 k hk) a5 a6 (itk_copy t1 a7)
        have hu := putTop_eq (σ := σ) (c := 6) (d := 11 + 5 * q) (by rw [t2, t3, t4, t5]; exact hP.1)
        have hd0 : ∀ u : XS, u.1 (11 + 5 * q) = μ.2.2.1 7 q → Xsh_drop u (11 + 5 * q) 0 = u := by
          intro u hu9
          rw [drop_eq (by decide) (by rw [hu9]; exact g2) (by rw [hu9]; omega), sub_zero32]
          unfold xi
          have : upd u.1 (11 + 5 * q) (u.1 (11 + 5 * q)) = u.1 := by funext j; unfold upd; split <;> simp_all
          rw [this]
        refine cres_ok (u := _) (ν := si (μc) 5 (μ.1 5 + 1)) ?_ ?_ ⟨hP.2, shput_kx (by decide), (km_copy a1 a3).tr (km_si (by decide)), by rw [← h16]; simp [si, upd, a1]⟩
        · rw [hX, hu]
          simp only
          rw [hd0 _ (by rw [shput_1 (by omega)]; exact g1)]
        · rw [hM, room_yes h40]; exact if_neg (show ¬ (1 : Int32) = 0 by decide)
      · refine cres_no (E := "java/lang/UnsupportedOperationException") (u := σ) (ν := si μ 16 5) ?_ ?_ (bad_sfm hw h (by rw [xcd_5]; exact noC_si))
        · rw [hX, putTop_full (by decide) (by rw [d1]; exact h40)]
        · rw [hM, room_no h40]; exact if_pos rfl
  · by_cases hz : (μ.2.2.1 7 q).toInt = 0
    · have hz0 : μ.2.2.1 7 q = 0 := Int32.toInt_inj.mp (by rw [hz]; rfl)
      have hH : Xdesk_needHeld σ (11 + 5 * q) = .inl ("java/lang/IllegalStateException", σ) := by unfold Xdesk_needHeld; rw [g1, hz0, if_neg (by decide)]
      refine cres_no (E := "java/lang/IllegalStateException") (u := σ) (ν := si μ 16 2) ?_ ?_ (bad_sfm hw h (by rw [xcd_2]; exact noC_si))
      · unfold Xdesk_moveToOrFromRegister
        simp only [hreg, Option.getD_some]
        rw [if_neg (by decide), if_neg (by decide)]
        simp only [hH]
      · unfold F_stores
        rw [if_neg (by decide), if_neg (by decide), r1, if_pos hz0]
    · have hz0 : ¬ μ.2.2.1 7 q = 0 := fun e => hz (by rw [e]; rfl)
      have hH : Xdesk_needHeld σ (11 + 5 * q) = .inr σ := by unfold Xdesk_needHeld; rw [g1, if_pos (by rw [Int32.le_iff_toInt_le, z1]; omega)]
      have hX : Xdesk_moveToOrFromRegister σ0 76 = (match Xsh_putTopOf σ 6 (11 + 5 * q) with | .inl e9 => .inl e9 | .inr u26 => .inr (Xsh_drop u26 (11 + 5 * q) 1)) := by
        unfold Xdesk_moveToOrFromRegister
        simp only [hreg, Option.getD_some]
        rw [if_neg (by decide), if_neg (by decide)]
        simp only [hH]
        cases Xsh_putTopOf σ 6 (11 + 5 * q) with
        | inl e => rfl
        | inr u => simp only [↓reduceIte]
      have hM : F_stores μ 76 r = (let q_119 := F_room μ; if q_119.1 = 0 then (0, q_119.2) else (1, sa (si (F_copy μ (F_topOf μ r) (μ.1 5)) 5 (μ.1 5 + 1)) 7 q (μ.2.2.1 7 q - 1))) := by
        unfold F_stores
        rw [if_neg (by decide), if_neg (by decide), r1, if_neg hz0]
        simp only [↓reduceIte]
      by_cases h40 : (μ.1 5).toInt < 40
      · obtain ⟨t1, t2, t3, t4, t5⟩ := regTop h h4 (by omega)
        have ht := topOf_eq hr (μ := μ) (by omega)
        have hN : (F_topOf μ r).toInt.toNat = 40 + 10 * q + ((μ.2.2.1 7 q).toInt - 1).toNat := by rw [ht]; omega
        obtain ⟨s1, s2⟩ := itm_src t1
        obtain ⟨a1, a2, a3, a4, a5, a6, a7⟩ := copy_spec (μ := μ) (f := F_topOf μ r) (t := μ.1 5) (by omega) (by omega) (by omega) (by rw [hN]; exact s1) (by rw [hN]; exact s2)
        rw [hN] at a5 a6 a7
        generalize hC : F_copy μ (F_topOf μ r) (μ.1 5) = μc at *
        have hP := ST_push (ν := si μc 5 (μ.1 5 + 1)) h h40 (by simp [si, upd]) ⟨by simp [si, upd, a1], by simp [si, upd, a1], a2 12 (by decide), a3 13 (by decide) (by decide)⟩ (a3 7 (by decide) (by decide)) (fun k _ hk => a4 k hk) a5 a6 (itk_copy t1 a7)
        have hu := putTop_eq (σ := σ) (c := 6) (d := 11 + 5 * q) (by rw [t2, t3, t4, t5]; exact hP.1)
        have e7 : (si (μc) 5 (μ.1 5 + 1)).2.2.1 7 = μ.2.2.1 7 := a3 7 (by decide) (by decide)
        have hR := ST_rdrop (ν := sa (si (μc) 5 (μ.1 5 + 1)) 7 q (μ.2.2.1 7 q - 1)) hP.2 h4 (by rw [e7]; omega) rfl ⟨rfl, rfl, rfl, by simp [sa]⟩ (by rw [e7]; simp [sa, upd]) (fun k hk => by simp [sa, upd, hk]) (fun k _ _ => ⟨rfl, by simp [sa], fun j _ => by simp [sa]⟩)
        refine cres_ok (u := _) (ν := sa (si (μc) 5 (μ.1 5 + 1)) 7 q (μ.2.2.1 7 q - 1)) ?_ ?_ ⟨hR, (shput_kx (by decide)).tr (drop_kx hc), ((km_copy a1 a3).tr (km_si (μ := μc) (k := 5) (v := μ.1 5 + 1) (by decide))).tr ⟨⟨rfl, by simp [sa], by simp [sa], by simp [sa]⟩, rfl, by simp [sa], rfl, rfl⟩, by rw [← h16]; simp [si, sa, upd, a1]⟩
        · rw [hX, hu]
        · rw [hM, room_yes h40]; exact if_neg (show ¬ (1 : Int32) = 0 by decide)
      · refine cres_no (E := "java/lang/UnsupportedOperationException") (u := σ) (ν := si μ 16 5) ?_ ?_ (bad_sfm hw h (by rw [xcd_5]; exact noC_si))
        · rw [hX, putTop_full (by decide) (by rw [d1]; exact h40)]
        · rw [hM, room_no h40]; exact if_pos rfl
