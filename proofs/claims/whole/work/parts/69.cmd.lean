theorem wsum_succ {μ : MS} {L : Nat} : wsum μ (L + 1) = wsum μ L + ((μ.2.2.1 9 L).toInt - (μ.2.2.1 10 L).toInt + 1) := rfl
theorem sa10_9 {μ : MS} {j : Nat} {v : Int32} : (sa μ 10 j v).2.2.1 9 = μ.2.2.1 9 := by simp [sa]
theorem sa10_8 {μ : MS} {j : Nat} {v : Int32} : (sa μ 10 j v).2.2.1 8 = μ.2.2.1 8 := by simp [sa]
theorem sa10_10 {μ : MS} {j : Nat} {v : Int32} : (sa μ 10 j v).2.2.1 10 = upd (μ.2.2.1 10) j v := by simp [sa]
theorem Wt_sa {μ : MS} {v : Int32} (h1 : 1 ≤ (μ.1 11).toInt) : Wt (sa μ 10 ((μ.1 11).toInt - 1).toNat v) = Wt μ + (μ.2.2.1 10 ((μ.1 11).toInt - 1).toNat).toInt - v.toInt := by
  have key : ∀ L, L ≤ ((μ.1 11).toInt - 1).toNat → wsum (sa μ 10 ((μ.1 11).toInt - 1).toNat v) L = wsum μ L := by
    intro L
    induction L with
    | zero => intro _; rfl
    | succ L ih =>
      intro hL
      rw [wsum_succ, wsum_succ, ih (Nat.le_of_succ_le hL), sa10_9, sa10_10]
      unfold upd
      rw [if_neg (Nat.ne_of_lt hL)]
  have eL : (μ.1 11).toInt.toNat = ((μ.1 11).toInt - 1).toNat + 1 := by omega
  have e1 : Wt (sa μ 10 ((μ.1 11).toInt - 1).toNat v) = wsum (sa μ 10 ((μ.1 11).toInt - 1).toNat v) (((μ.1 11).toInt - 1).toNat + 1) := by rw [← eL]; rfl
  have e2 : Wt μ = wsum μ (((μ.1 11).toInt - 1).toNat + 1) := by rw [← eL]; rfl
  rw [e1, e2, wsum_succ, wsum_succ, key _ (Nat.le_refl _), sa10_9, sa10_10]
  unfold upd
  rw [if_pos rfl]
  omega
theorem NX_sa10 {σ : XS} {μ : MS} {i : Int} {v : Int32} (hn : NX σ μ i) : NX σ (sa μ 10 ((μ.1 11).toInt - 1).toNat v) i := by
  obtain ⟨hc, h1, hl, n, st, ha⟩ := hn
  refine ⟨hc, h1, fun l hl9 => ?_, n, st, lvA_keep rs.rf rfl rfl rfl sa10_8 (by rw [sa10_9]) ha⟩
  have hl9' : (l : Int) < (μ.1 11).toInt - 1 := hl9
  refine lvl_keep rs.rf rfl rfl rfl sa10_8 (by rw [sa10_9]) ?_ (hl l hl9')
  rw [sa10_10]
  unfold upd
  rw [if_neg (by omega)]
theorem reg_yes {σ : XS} (h : 97 ≤ (Xnest_look σ).toInt ∧ (Xnest_look σ).toInt ≤ 100) : Xdesk_registerOfLetter σ = .inr (some (11 + 5 * ((Xnest_look σ) - 97).toNatClampNeg), Xnest_pass σ) ∧ rgn (f_register (Xnest_look σ)) ((Xnest_look σ) - 97).toNatClampNeg ∧ ¬ f_within ((Xnest_look σ).toInt64) 97 100 = 0 := by
  have z97 : (97 : Int32).toInt = 97 := rfl
  have z0 : (0 : Int32).toInt = 0 := rfl
  have z4 : (4 : Int32).toInt = 4 := rfl
  have y97 : (97 : Int64).toInt = 97 := rfl
  have y100 : (100 : Int64).toInt = 100 := rfl
  have e64 := Int32.toInt_toInt64 (Xnest_look σ)
  have e : (Xnest_look σ - 97).toInt = (Xnest_look σ).toInt - 97 := i_subE rfl z97 (by omega) (by omega)
  have en : (Xnest_look σ - 97).toNatClampNeg = ((Xnest_look σ).toInt - 97).toNat := by rw [← Int32.toNat_toInt, e]
  refine ⟨?_, ⟨rfl, ?_, ?_⟩, ?_⟩
  · have hR : Xdesk_registerNumbered σ (Xnest_look σ - 97) = some (11 + 5 * ((Xnest_look σ) - 97).toNatClampNeg) := by
      unfold Xdesk_registerNumbered
      rw [if_neg (by rw [Int32.lt_iff_toInt_lt]; omega), if_pos (by rw [Int32.lt_iff_toInt_lt]; omega)]
    unfold Xdesk_registerOfLetter
    rw [hR]
  · show (Xnest_look σ - 97).toInt = _; rw [en, e]; omega
  · rw [en]; omega
  · unfold f_within
    rw [if_neg (by rw [Int64.lt_iff_toInt_lt]; omega), if_neg (by rw [Int64.lt_iff_toInt_lt]; omega)]
    decide
theorem reg_no {σ : XS} (h : ¬ (97 ≤ (Xnest_look σ).toInt ∧ (Xnest_look σ).toInt ≤ 100)) (hb : 0 ≤ (Xnest_look σ).toInt ∧ (Xnest_look σ).toInt ≤ 127) : Xdesk_registerOfLetter σ = .inl ("java/lang/IllegalArgumentException", σ) ∧ f_within ((Xnest_look σ).toInt64) 97 100 = 0 := by
  have z97 : (97 : Int32).toInt = 97 := rfl
  have z0 : (0 : Int32).toInt = 0 := rfl
  have z4 : (4 : Int32).toInt = 4 := rfl
  have y97 : (97 : Int64).toInt = 97 := rfl
  have y100 : (100 : Int64).toInt = 100 := rfl
  have e64 := Int32.toInt_toInt64 (Xnest_look σ)
  have e : (Xnest_look σ - 97).toInt = (Xnest_look σ).toInt - 97 := i_subE rfl z97 (by omega) (by omega)
  refine ⟨?_, ?_⟩
  · have hR : Xdesk_registerNumbered σ (Xnest_look σ - 97) = none := by
      unfold Xdesk_registerNumbered
      by_cases c : (Xnest_look σ).toInt < 97
      · rw [if_pos (by rw [Int32.lt_iff_toInt_lt]; omega)]
      · rw [if_neg (by rw [Int32.lt_iff_toInt_lt]; omega), if_neg (by rw [Int32.lt_iff_toInt_lt]; omega)]
    unfold Xdesk_registerOfLetter
    rw [hR]
  · unfold f_within
    by_cases c : (Xnest_look σ).toInt < 97
    · rw [if_pos (by rw [Int64.lt_iff_toInt_lt]; omega)]
    · rw [if_neg (by rw [Int64.lt_iff_toInt_lt]; omega), if_pos (by rw [Int64.lt_iff_toInt_lt]; omega)]
theorem dl0 : (0 : Int64).toInt < ((10 ^ (min (0 : Int32).toInt.toNat 18) : Nat) : Int) := by decide
theorem nx_b {σ : XS} {μ : MS} {i : Int} (hn : NX σ μ i) : 0 ≤ i ∧ i ≤ (μ.2.2.1 9 ((μ.1 11).toInt - 1).toNat).toInt ∧ (μ.2.2.1 9 ((μ.1 11).toInt - 1).toNat).toInt ≤ 160 ∧ 1 ≤ (μ.1 11).toInt ∧ (μ.1 11).toInt ≤ 12 := by
  obtain ⟨hc, hlv, _, n0, st0, ha⟩ := hn
  exact ⟨ha.2.2.2.2.2.1, ha.2.2.2.2.2.2.1, ha.2.2.2.2.2.2.2.1, hlv, hc.2.2⟩
theorem i_p1 {i : Int32} (h0 : 0 ≤ i.toInt) (h1 : i.toInt ≤ 160) : (i + 1).toInt = i.toInt + 1 := i_addE rfl (show (1 : Int32).toInt = 1 from rfl) (by omega) (by omega)
theorem i_p2 {i : Int32} (h0 : 0 ≤ i.toInt) (h1 : i.toInt ≤ 160) : (i + 2).toInt = i.toInt + 2 := i_addE rfl (show (2 : Int32).toInt = 2 from rfl) (by omega) (by omega)
theorem d_ar {S i : Int} (h0 : 0 ≤ i) (h1 : S ≤ 160) : (S - i).toNat < 161 ∧ (0 : Int32).toInt + ((S - i).toNat : Nat) ≤ 160 := by
  have z0 : (0 : Int32).toInt = 0 := rfl
  rw [z0]; omega
theorem num_a {f : Nat} (hf : f = 161) {σ : XS} {μ : MS} {i0 : Int32} (h : ST σ μ) (hw : xWF σ) (hr : rok σ) (h16 : μ.1 16 = 0) (i1 : Int32) (g : Int32) (hn : NX σ μ i1.toInt) (hat : (μ.2.2.1 10 ((μ.1 11).toInt - 1).toNat).toInt ≤ i1.toInt) : dres σ μ (Xdesk_putWrittenNumber_L43 f g 0 0 0 0 0 σ) (F_digits_L47 i0 f (μ.1 11 - 1) i1 g 0 0 (-1) 0 μ) :=
  have b := nx_b hn
  have q := d_ar b.1 b.2.2.1
  dig_rel (f0 := i0) (g := g) h16 rfl _ f f σ i1 0 0 (-1) 0 0 0 hn h hr hw rfl (by rw [hf]; exact q.1) (by rw [hf]; exact q.1) (by decide) q.2 hat (by decide) (by decide) (Or.inl ⟨rfl, rfl, rfl⟩) (by decide) dl0
theorem pwn_yes {f : Nat} (hf : f = 161) {σ : XS} (c : Xnest_look σ = 95) : Xdesk_putWrittenNumber σ = Xdesk_putWrittenNumber_L43 f 1 0 0 0 0 0 (Xnest_pass σ) := by
  subst hf
  unfold Xdesk_putWrittenNumber
  exact if_pos c
theorem pwn_no {f : Nat} (hf : f = 161) {σ : XS} (c : ¬ Xnest_look σ = 95) : Xdesk_putWrittenNumber σ = Xdesk_putWrittenNumber_L43 f 0 0 0 0 0 0 σ := by
  subst hf
  unfold Xdesk_putWrittenNumber
  exact if_neg c
theorem dig_yes {f : Nat} (hf : f = 161) {μ : MS} {i0 : Int32} (c : F_charAt μ (μ.1 11 - 1) i0 = 95) : F_digits μ i0 = F_digits_L47 i0 f (μ.1 11 - 1) (i0 + 1) 1 0 0 (-1) 0 μ := by
  subst hf
  unfold F_digits
  exact if_pos c
theorem dig_no {f : Nat} (hf : f = 161) {μ : MS} {i0 : Int32} (c : ¬ F_charAt μ (μ.1 11 - 1) i0 = 95) : F_digits μ i0 = F_digits_L47 i0 f (μ.1 11 - 1) i0 0 0 0 (-1) 0 μ := by
  subst hf
  unfold F_digits
  exact if_neg c
theorem num_rel {σ : XS} {μ : MS} {i0 : Int32} (h : ST σ μ) (hw : xWF σ) (hr : rok σ) (h16 : μ.1 16 = 0) (hn : NX σ μ i0.toInt) (hat : μ.2.2.1 10 ((μ.1 11).toInt - 1).toNat = i0) (hlt : i0.toInt < (μ.2.2.1 9 ((μ.1 11).toInt - 1).toNat).toInt) : dres σ μ (Xdesk_putWrittenNumber σ) (F_digits μ i0) := by
  have b := nx_b hn
  have ei := i_p1 b.1 (Int.le_trans b.2.1 b.2.2.1)
  have hM := look_M hr hn
  obtain ⟨f, hf⟩ : ∃ f : Nat, f = 161 := ⟨161, rfl⟩
  by_cases c : Xnest_look σ = 95
  · rw [pwn_yes hf c, dig_yes hf (hM.trans c)]
    have hn1 := pass_NX hn hlt
    rw [← ei] at hn1
    exact dres_kp pass_kp (num_a hf (ST_kp pass_kp h) (pass_wf hw) (rok_rs (pass_kp (σ := σ)).1 hr) h16 (i0 + 1) 1 hn1 (by rw [hat, ei]; exact Int.le_of_lt (Int.lt_succ _)))
  · rw [pwn_no hf c, dig_no hf (by rw [hM]; exact c)]
    exact num_a hf h hw hr h16 i0 0 hn (by rw [hat]; exact Int.le_refl _)
theorem pwt_f {f : Nat} (hf : f = 161) {σ : XS} : Xdesk_putWrittenText σ = Xdesk_putWrittenText_L21 f (Xnest_innermostRow σ) (Xnest_position σ) 1 0 σ := by
  subst hf
  rfl
theorem brk_f {f : Nat} {μ : MS} {i0 : Int32} (hf : f = ((μ.2.2.1 9 (μ.1 11 - 1).toNatClampNeg).toInt - (i0 + 1).toInt).toNat + 1) : F_brackets μ i0 = F_brackets_L14 i0 f (μ.1 11 - 1) 1 (i0 + 1) μ := by
  subst hf
  rfl
theorem txt_rel {σ : XS} {μ : MS} {i0 : Int32} (h : ST σ μ) (hw : xWF σ) (hr : rok σ) (h16 : μ.1 16 = 0) (hn : NX σ μ i0.toInt) (hat : μ.2.2.1 10 ((μ.1 11).toInt - 1).toNat = i0) (hlt : i0.toInt < (μ.2.2.1 9 ((μ.1 11).toInt - 1).toNat).toInt) : dres σ μ (Xdesk_putWrittenText (Xnest_pass σ)) (F_brackets μ i0) := by
  have b := nx_b hn
  obtain ⟨hc, hlv, hlo, n0, st0, ha⟩ := id hn
  have hA : NXA σ μ i0.toInt n0 st0 := ⟨hc, hlv, hlo, ha⟩
  have ei := i_p1 b.1 (Int.le_trans b.2.1 b.2.2.1)
  have hA1 := pass_NXA hA hlt
  have p := pos_eq hA1
  rw [← ei] at hA1
  have hkp := pass_kp (σ := σ)
  have q := d_ar (i := (i0 + 1).toInt) (by rw [ei]; exact Int.le_trans b.1 (Int.le_of_lt (Int.lt_succ _))) b.2.2.1
  obtain ⟨f, hf⟩ : ∃ f : Nat, f = 161 := ⟨161, rfl⟩
  obtain ⟨f', hf'⟩ : ∃ f' : Nat, f' = ((μ.2.2.1 9 (μ.1 11 - 1).toNatClampNeg).toInt - (i0 + 1).toInt).toNat + 1 := ⟨_, rfl⟩
  have hf2 : ((μ.2.2.1 9 ((μ.1 11).toInt - 1).toNat).toInt - (i0 + 1).toInt).toNat < f' := by rw [hf', lvN hlv hc.2.2]; exact Nat.lt_succ_self _
  have e := brk_rel (f0 := i0) (s0 := Xnest_position (Xnest_pass σ)) (nr := n0) (st := st0) h16 rfl b.1 (by rw [p.1]; exact (Int.add_assoc _ _ _).symm) _ f f' (Xnest_pass σ) (i0 + 1) 1 0 hA1 (ST_kp hkp h) (rok_rs hkp.1 hr) (pass_wf hw) rfl (by rw [hf]; exact q.1) hf2 (by decide) q.2 (by rw [hat, ei]; exact Int.le_of_lt (Int.lt_succ _)) (by rw [ei]; exact Int.le_refl _) (fun e => absurd e (by decide)) (by decide) (by decide)
  rw [pwt_f hf, brk_f hf', p.2]
  exact dres_kp hkp e
theorem bg_no {c : Int32} (h : Xd_beginsNumber c = 0) : Xd_isDigit c = 0 ∧ c ≠ 46 ∧ c ≠ 95 := by
  unfold Xd_beginsNumber at h
  by_cases h1 : Xd_isDigit c = 0
  · rw [if_pos h1] at h
    by_cases h2 : c = 46
    · rw [if_pos h2] at h; exact absurd h (by decide)
    · rw [if_neg h2] at h
      by_cases h3 : c = 95
      · rw [if_pos h3] at h; exact absurd h (by decide)
      · exact ⟨h1, h2, h3⟩
  · rw [if_neg h1] at h; exact absurd h (by decide)
theorem bg_yes {c : Int32} (h : ¬ Xd_beginsNumber c = 0) : ¬ Xd_isDigit c = 0 ∨ c = 95 ∨ c = 46 := by
  unfold Xd_beginsNumber at h
  by_cases h1 : Xd_isDigit c = 0
  · rw [if_pos h1] at h
    by_cases h2 : c = 46
    · exact Or.inr (Or.inr h2)
    · rw [if_neg h2] at h
      by_cases h3 : c = 95
      · exact Or.inr (Or.inl h3)
      · rw [if_neg h3] at h; exact absurd rfl h
  · exact Or.inl h1
theorem wd_eq {c : Int32} : f_within c.toInt64 48 57 = 0 ↔ Xd_isDigit c = 0 := within_eq.trans isDigit_eq.symm
theorem s1_of {σ : XS} {μ : MS} {v : Int32} (h : ST σ μ) : ST (Xnest_pass σ) (sa μ 10 ((μ.1 11).toInt - 1).toNat v) := ST_sa (by decide) (ST_kp pass_kp h)
theorem s2_of {σ : XS} {μ : MS} {v : Int32} (h : ST σ μ) : ST (Xnest_pass (Xnest_pass σ)) (sa μ 10 ((μ.1 11).toInt - 1).toNat v) := ST_sa (by decide) (ST_kp pass_kp (ST_kp pass_kp h))
theorem sa_k {μ : MS} {j : Nat} {v : Int32} : kmP μ (sa μ 10 j v) := ⟨rfl, by simp [sa], rfl⟩
theorem sa_at {μ : MS} {v : Int32} : (sa μ 10 ((μ.1 11).toInt - 1).toNat v).2.2.1 10 (((sa μ 10 ((μ.1 11).toInt - 1).toNat v).1 11).toInt - 1).toNat = v := by
  rw [sa10_10]; unfold upd; exact if_pos rfl
