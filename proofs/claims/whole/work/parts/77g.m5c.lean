theorem topOf_sa {σ : MS} {r v d : Int32} {x : Int} (h0 : 0 ≤ r.toInt) (h1 : r.toInt < 4) (hv : v.toInt = x) (h2 : 0 ≤ x) (h3 : x ≤ 10) : (F_topOf (si (sa σ 7 r.toNatClampNeg v) 5 d) r).toInt = 40 + 10 * r.toInt + x - 1 := by
  subst hv
  have e : F_topOf (si (sa σ 7 r.toNatClampNeg v) 5 d) r = 40 + 10 * r + v - 1 := by simp [F_topOf, si, sa, upd]
  rw [e]
  exact i_subE (i_addE (i_addE (show (40 : Int32).toInt = 40 from rfl) (i_mulE (show (10 : Int32).toInt = 10 from rfl) rfl (by omega) (by omega)) (by omega) (by omega)) rfl (by omega) (by omega)) (show (1 : Int32).toInt = 1 from rfl) (by omega) (by omega)
theorem i_ne {a b : Int32} (h : ¬ a = b) : a.toInt ≠ b.toInt := fun e => h (Int32.toInt_inj.mp e)
theorem isDone_si5 {σ : MS} {v i : Int32} : F_isDone (si σ 5 v) i = F_isDone σ i := by
  have h : ∀ (fu : Nat) (a b : Int32), F_isDone_L9 i fu a b (si σ 5 v) = F_isDone_L9 i fu a b σ := by
    intro fu
    induction fu with
    | zero => intro a b; rfl
    | succ fu ih => intro a b; simp only [F_isDone_L9, ih]; rfl
  exact h _ _ _
theorem reg_ok {c : Int32} (h : ¬ f_within c.toInt64 97 100 = 0) : 0 ≤ (f_register c).toInt ∧ (f_register c).toInt < 4 := by
  unfold f_within at h
  split at h
  · exact absurd rfl h
  · rename_i h1
    split at h
    · exact absurd rfl h
    · rename_i h2
      rw [Int64.lt_iff_toInt_lt, Int32.toInt_toInt64] at h1 h2
      have e1 : (97 : Int64).toInt = 97 := rfl
      have e2 : (100 : Int64).toInt = 100 := rfl
      rw [e1] at h1; rw [e2] at h2
      have e3 : (f_register c).toInt = c.toInt - 97 := i_subE rfl rfl (by omega) (by omega)
      rw [e3]; omega
set_option maxHeartbeats 4000000 in
set_option maxRecDepth 100000 in
theorem c_M_stores (l : Launch) (dC : Nat → ClassId) (dI : Nat → Nat → Nat) (cI cJ : ClassId) (h : Nat) (ad : Nat → Nat) (sz : Nat) (σ : MS) (c0 : Int32) (r0 : Int32) (hd0 : 0 ≤ (σ.1 5).toInt) (hd : (σ.1 5).toInt ≤ 40) (htx : tx (σ.2.2.1 3) (σ.2.2.2 2)) (hr0 : 0 ≤ r0.toInt) (hr1 : r0.toInt < 4) (hh0 : 0 ≤ (σ.2.2.1 7 r0.toNatClampNeg).toInt) (hh1 : (σ.2.2.1 7 r0.toNatClampNeg).toInt ≤ 10) : Met l yX5_stores wsX5_stores ({ frames := 2, cells := 0, slots := 0, locals := 42 } : Room) (va_Pc [.ref h, .int c0, .int r0] (mPre dC dI cI cJ h ad sz σ)) (va_Qi (fun r u => F_stores σ c0 r0 = (r, u)) (mAt dC dI cI cJ h ad (mA h ad cI cJ σ sz)) (mA h ad cI cJ σ sz)) 0 0 (mA h ad cI cJ σ sz) := by
  refine m_ofW (cc := cX5_stores) (maxL := 4) (ret := (some .boolean)) (by decide) rfl (by decide +kernel) rfl (Nat.le_of_ble_eq_true rfl) ?_
  intro p e s m below meth c X G hA hr hlocks hml ls hl
  have hl : lv_has ls 4 [(0, .ref h), (1, .int c0), (2, .int r0)] := hl
  have hx := X.1
  have hb := X.2.1
  have hts := X.2.2.1
  have hown := X.2.2.2.2.1
  have z0 : (0 : Int32).toInt = 0 := rfl
  have z1 : (1 : Int32).toInt = 1 := rfl
  have z2 : (2 : Int32).toInt = 2 := rfl
  have z10 : (10 : Int32).toInt = 10 := rfl
  refine lv_iload_n hx hb dX5_stores_0 rfl (lv_at hl 1 rfl) ?_
  refine lv_bipush (v := 115) hx hb dX5_stores_1 (by decide) ?_
  refine lv_icmp_eq (tgt := 12) hx hb dX5_stores_3 (by decide) (fun c_3 => ?_) (fun c_3 => ?_)
  · have c_3 : c0 = 115 := c_3
    refine lv_aload_n hx hb dX5_stores_12 rfl (lv_at hl 0 rfl) ?_
    refine lv_iconst (v := 1) hx hb dX5_stores_13 (by decide) ?_
    refine m_calli (As := [.int 1]) (rest := []) X hml G hA (c_M_have l dC dI cI cJ h ad _ σ 1) (cwV 1 hts gX5_stores_X5_have rfl rfl rfl (by decide +kernel) ⟨Nat.le_of_ble_eq_true rfl, Nat.le_of_ble_eq_true rfl⟩) rfl hl.1 rfl (Nat.le_of_ble_eq_true rfl) dX5_stores_14 ⟨Nat.zero_le _, Nat.zero_le _⟩ (fun r_14 u_14 H locs hw_14 G => ?_)
    refine lv_if_ne (tgt := 22) hx hb dX5_stores_17 (by decide) (fun c_17 => ?_) (fun c_17 => ?_)
    · have c_17 : ¬ (r_14 = 0) := c_17
      obtain ⟨rfl, hn⟩ := have_ok hw_14 c_17
      refine lv_iload_n hx hb dX5_stores_22 rfl (lv_at hl 1 rfl) ?_
      refine lv_bipush (v := 83) hx hb dX5_stores_23 (by decide) ?_
      refine lv_icmp_eq (tgt := 37) hx hb dX5_stores_25 (by decide) (fun c9 => absurd c9 (show ¬ (c0 = 83) from by rw [c_3] <;> decide)) (fun c9 => ?_)
      refine lv_aload_n hx hb dX5_stores_28 rfl (lv_at hl 0 rfl) ?_
      refine m_get_7 X G (by decide +kernel) dX5_stores_29 ?_
      refine lv_iload_n hx hb dX5_stores_32 rfl (lv_at hl 2 rfl) ?_
      refine m_ld_7 X G (vin (rfl : r0.toInt = _) (by omega) (by omega)) dX5_stores_33 ?_
      refine lv_if_ne (tgt := 41) hx hb dX5_stores_34 (by decide) (fun c_34 => ?_) (fun c_34 => ?_)
      · have c_34 : ¬ ((σ.2.2.1 7 r0.toNatClampNeg) = 0) := c_34
        refine lv_iconst (v := 0) hx hb dX5_stores_41 (by decide) ?_
        refine lv_istore_n (lv' := [(3, .int 0), (0, .ref h), (1, .int c0), (2, .int r0)]) hx hb dX5_stores_42 rfl hl (by decide) rfl (fun ls hl => ?_)
        refine lv_iload_n hx hb dX5_stores_43 rfl (lv_at hl 0 rfl) ?_
        refine lv_if_eq (tgt := 64) hx hb dX5_stores_44 (by decide) (fun c9 => ?_) (fun c9 => absurd (show (0 : Int32) = 0 from by decide) c9)
        refine lv_iload_n hx hb dX5_stores_64 rfl (lv_at hl 0 rfl) ?_
        refine lv_if_eq (tgt := 78) hx hb dX5_stores_65 (by decide) (fun c9 => ?_) (fun c9 => absurd (show (0 : Int32) = 0 from by decide) c9)
        refine lv_aload_n hx hb dX5_stores_78 rfl (lv_at hl 1 rfl) ?_
        refine lv_dup hx hb dX5_stores_79 rfl ?_
        refine m_get_5 X G (by decide +kernel) dX5_stores_80 ?_
        refine lv_iconst (v := 1) hx hb dX5_stores_83 (by decide) ?_
        refine lv_isub hx hb dX5_stores_84 ?_
        refine m_put_5 X G (by decide +kernel) dX5_stores_85 (fun H locs G => ?_)
        have G : mH dC dI h ad cI cJ (si σ 5 ((σ.1 5) - 1)) (mA h ad cI cJ σ sz) s.heap H locs := G
        refine lv_aload_n hx hb dX5_stores_88 rfl (lv_at hl 1 rfl) ?_
        refine lv_aload_n hx hb dX5_stores_89 rfl (lv_at hl 1 rfl) ?_
        refine m_get_5 X G (by decide +kernel) dX5_stores_90 ?_
        refine lv_aload_n hx hb dX5_stores_93 rfl (lv_at hl 1 rfl) ?_
        refine lv_iload_n hx hb dX5_stores_94 rfl (lv_at hl 3 rfl) ?_
        refine m_calli (As := [.int r0]) (rest := [.int ((σ.1 5) - 1), .ref h]) X hml G hA (c_M_topOf l dC dI cI cJ h ad _ (si σ 5 ((σ.1 5) - 1)) r0 hr0 hr1) (cwV 1 hts gX5_stores_X5_topOf rfl rfl rfl (by decide +kernel) ⟨Nat.le_of_ble_eq_true rfl, Nat.le_of_ble_eq_true rfl⟩) rfl hl.1 rfl (Nat.le_of_ble_eq_true rfl) dX5_stores_95 ⟨Nat.zero_le _, Nat.zero_le _⟩ (fun r_95 u_95 H locs hw_95 G => ?_)
        obtain ⟨rfl, hu_95⟩ := hw_95
        rw [hu_95] at G
        have hT : (F_topOf (si σ 5 ((σ.1 5) - 1)) r0).toInt = 40 + 10 * r0.toInt + (σ.2.2.1 7 r0.toNatClampNeg).toInt - 1 := topOf_v (σ := (si σ 5 ((σ.1 5) - 1))) hr0 hr1 hh0 hh1
        refine m_callv (As := [.int ((σ.1 5) - 1), .int (F_topOf (si σ 5 ((σ.1 5) - 1)) r0)]) (rest := []) X hml G hA (c_M_copy l dC dI cI cJ h ad _ (si σ 5 ((σ.1 5) - 1)) ((σ.1 5) - 1) (F_topOf (si σ 5 ((σ.1 5) - 1)) r0) (ge0 (i_subE (rfl : (σ.1 5).toInt = _) (show (1 : Int32).toInt = 1 from rfl) (by omega) (by omega)) (by omega)) (ltn (i_subE (rfl : (σ.1 5).toInt = _) (show (1 : Int32).toInt = 1 from rfl) (by omega) (by omega)) (by omega)) (ge0 hT (by omega)) (ltn hT (by omega)) (fun h9 => (htx _ (cl_lt (ge0 (i_subE (rfl : (σ.1 5).toInt = _) (show (1 : Int32).toInt = 1 from rfl) (by omega) (by omega)) (by omega)) (ltn (i_subE (rfl : (σ.1 5).toInt = _) (show (1 : Int32).toInt = 1 from rfl) (by omega) (by omega)) (by omega))) h9).2)) (cwV 2 hts gX5_stores_X5_copy rfl rfl rfl (by decide +kernel) ⟨Nat.le_of_ble_eq_true rfl, Nat.le_of_ble_eq_true rfl⟩) rfl hl.1 rfl (Nat.le_of_ble_eq_true rfl) dX5_stores_98 ⟨Nat.zero_le _, Nat.zero_le _⟩ (fun u_98 H locs hw_98 G => ?_)
        obtain ⟨b2_98, a3_98, a4_98, rfl⟩ := copy_st hw_98
        have htx_98 := copy_tx (σ := (si σ 5 ((σ.1 5) - 1))) htx hw_98 (ge0 (i_subE (rfl : (σ.1 5).toInt = _) (show (1 : Int32).toInt = 1 from rfl) (by omega) (by omega)) (by omega)) (ltn (i_subE (rfl : (σ.1 5).toInt = _) (show (1 : Int32).toInt = 1 from rfl) (by omega) (by omega)) (by omega))
        refine lv_iconst (v := 1) hx hb dX5_stores_101 (by decide) ?_
        exact m_zret X G hr hlocks rfl (by simp only [F_stores, eq_true c_3, hw_14, eq_false c_17, eq_false c_34, hw_98, ↓reduceIte, si_self, sm_self, si_snd, sm_fst, si20_16, not_false_eq_true, not_true_eq_false, eq_self, scp_2, scp_3, scp_4]) dX5_stores_102
      · have c_34 : (σ.2.2.1 7 r0.toNatClampNeg) = 0 := c_34
        have h34 : (σ.2.2.1 7 r0.toNatClampNeg).toInt = 0 := by rw [c_34]; rfl
        refine lv_iconst (v := 1) hx hb dX5_stores_37 (by decide) ?_
        refine lv_goto (tgt := 42) hx hb dX5_stores_38 (by decide) ?_
        refine lv_istore_n (lv' := [(3, .int 1), (0, .ref h), (1, .int c0), (2, .int r0)]) hx hb dX5_stores_42 rfl hl (by decide) rfl (fun ls hl => ?_)
        refine lv_iload_n hx hb dX5_stores_43 rfl (lv_at hl 0 rfl) ?_
        refine lv_if_eq (tgt := 64) hx hb dX5_stores_44 (by decide) (fun c9 => absurd c9 (show ¬ ((1 : Int32) = 0) from by decide)) (fun c9 => ?_)
        refine lv_aload_n hx hb dX5_stores_47 rfl (lv_at hl 1 rfl) ?_
        refine m_get_7 X G (by decide +kernel) dX5_stores_48 ?_
        refine lv_iload_n hx hb dX5_stores_51 rfl (lv_at hl 3 rfl) ?_
        refine m_ld_7 X G (vin (rfl : r0.toInt = _) (by omega) (by omega)) dX5_stores_52 ?_
        refine lv_bipush (v := 10) hx hb dX5_stores_53 (by decide) ?_
        refine lv_icmp_ne (tgt := 64) hx hb dX5_stores_55 (by decide) (fun c9 => ?_) (fun c9 => absurd c9 (show ¬ ((σ.2.2.1 7 r0.toNatClampNeg) = 10) from by rw [c_34] <;> decide))
        refine lv_iload_n hx hb dX5_stores_64 rfl (lv_at hl 0 rfl) ?_
        refine lv_if_eq (tgt := 78) hx hb dX5_stores_65 (by decide) (fun c9 => absurd c9 (show ¬ ((1 : Int32) = 0) from by decide)) (fun c9 => ?_)
        refine lv_aload_n hx hb dX5_stores_68 rfl (lv_at hl 1 rfl) ?_
        refine m_get_7 X G (by decide +kernel) dX5_stores_69 ?_
        refine lv_iload_n hx hb dX5_stores_72 rfl (lv_at hl 3 rfl) ?_
        refine lv_dup2_11 hx hb dX5_stores_73 rfl rfl ?_
        refine m_ld_7 X G (vin (rfl : r0.toInt = _) (by omega) (by omega)) dX5_stores_74 ?_
        refine lv_iconst (v := 1) hx hb dX5_stores_75 (by decide) ?_
        refine lv_iadd hx hb dX5_stores_76 ?_
        refine m_st_7 X G (vin (rfl : r0.toInt = _) (by omega) (by omega)) dX5_stores_77 (fun H locs G => ?_)
        have G : mH dC dI h ad cI cJ (sa σ 7 r0.toNatClampNeg ((σ.2.2.1 7 r0.toNatClampNeg) + 1)) (mA h ad cI cJ σ sz) s.heap H locs := G
        refine lv_aload_n hx hb dX5_stores_78 rfl (lv_at hl 1 rfl) ?_
        refine lv_dup hx hb dX5_stores_79 rfl ?_
        refine m_get_5 X G (by decide +kernel) dX5_stores_80 ?_
        refine lv_iconst (v := 1) hx hb dX5_stores_83 (by decide) ?_
        refine lv_isub hx hb dX5_stores_84 ?_
        refine m_put_5 X G (by decide +kernel) dX5_stores_85 (fun H locs G => ?_)
        have G : mH dC dI h ad cI cJ (si (sa σ 7 r0.toNatClampNeg ((σ.2.2.1 7 r0.toNatClampNeg) + 1)) 5 ((σ.1 5) - 1)) (mA h ad cI cJ σ sz) s.heap H locs := G
        refine lv_aload_n hx hb dX5_stores_88 rfl (lv_at hl 1 rfl) ?_
        refine lv_aload_n hx hb dX5_stores_89 rfl (lv_at hl 1 rfl) ?_
        refine m_get_5 X G (by decide +kernel) dX5_stores_90 ?_
        refine lv_aload_n hx hb dX5_stores_93 rfl (lv_at hl 1 rfl) ?_
        refine lv_iload_n hx hb dX5_stores_94 rfl (lv_at hl 3 rfl) ?_
        refine m_calli (As := [.int r0]) (rest := [.int ((σ.1 5) - 1), .ref h]) X hml G hA (c_M_topOf l dC dI cI cJ h ad _ (si (sa σ 7 r0.toNatClampNeg ((σ.2.2.1 7 r0.toNatClampNeg) + 1)) 5 ((σ.1 5) - 1)) r0 hr0 hr1) (cwV 1 hts gX5_stores_X5_topOf rfl rfl rfl (by decide +kernel) ⟨Nat.le_of_ble_eq_true rfl, Nat.le_of_ble_eq_true rfl⟩) rfl hl.1 rfl (Nat.le_of_ble_eq_true rfl) dX5_stores_95 ⟨Nat.zero_le _, Nat.zero_le _⟩ (fun r_95 u_95 H locs hw_95 G => ?_)
        obtain ⟨rfl, hu_95⟩ := hw_95
        rw [hu_95] at G
        have hT := topOf_sa (σ := σ) (d := ((σ.1 5) - 1)) hr0 hr1 (i_addE (rfl : (σ.2.2.1 7 r0.toNatClampNeg).toInt = _) (show (1 : Int32).toInt = 1 from rfl) (by omega) (by omega)) (by omega) (by omega)
        refine m_callv (As := [.int ((σ.1 5) - 1), .int (F_topOf (si (sa σ 7 r0.toNatClampNeg ((σ.2.2.1 7 r0.toNatClampNeg) + 1)) 5 ((σ.1 5) - 1)) r0)]) (rest := []) X hml G hA (c_M_copy l dC dI cI cJ h ad _ (si (sa σ 7 r0.toNatClampNeg ((σ.2.2.1 7 r0.toNatClampNeg) + 1)) 5 ((σ.1 5) - 1)) ((σ.1 5) - 1) (F_topOf (si (sa σ 7 r0.toNatClampNeg ((σ.2.2.1 7 r0.toNatClampNeg) + 1)) 5 ((σ.1 5) - 1)) r0) (ge0 (i_subE (rfl : (σ.1 5).toInt = _) (show (1 : Int32).toInt = 1 from rfl) (by omega) (by omega)) (by omega)) (ltn (i_subE (rfl : (σ.1 5).toInt = _) (show (1 : Int32).toInt = 1 from rfl) (by omega) (by omega)) (by omega)) (ge0 hT (by omega)) (ltn hT (by omega)) (fun h9 => (htx _ (cl_lt (ge0 (i_subE (rfl : (σ.1 5).toInt = _) (show (1 : Int32).toInt = 1 from rfl) (by omega) (by omega)) (by omega)) (ltn (i_subE (rfl : (σ.1 5).toInt = _) (show (1 : Int32).toInt = 1 from rfl) (by omega) (by omega)) (by omega))) h9).2)) (cwV 2 hts gX5_stores_X5_copy rfl rfl rfl (by decide +kernel) ⟨Nat.le_of_ble_eq_true rfl, Nat.le_of_ble_eq_true rfl⟩) rfl hl.1 rfl (Nat.le_of_ble_eq_true rfl) dX5_stores_98 ⟨Nat.zero_le _, Nat.zero_le _⟩ (fun u_98 H locs hw_98 G => ?_)
        obtain ⟨b2_98, a3_98, a4_98, rfl⟩ := copy_st hw_98
        have htx_98 := copy_tx (σ := (si (sa σ 7 r0.toNatClampNeg ((σ.2.2.1 7 r0.toNatClampNeg) + 1)) 5 ((σ.1 5) - 1))) htx hw_98 (ge0 (i_subE (rfl : (σ.1 5).toInt = _) (show (1 : Int32).toInt = 1 from rfl) (by omega) (by omega)) (by omega)) (ltn (i_subE (rfl : (σ.1 5).toInt = _) (show (1 : Int32).toInt = 1 from rfl) (by omega) (by omega)) (by omega))
        refine lv_iconst (v := 1) hx hb dX5_stores_101 (by decide) ?_
        exact m_zret X G hr hlocks rfl (by simp only [F_stores, eq_true c_3, hw_14, eq_false c_17, eq_true c_34, hw_98, ↓reduceIte, si_self, sm_self, si_snd, sm_fst, si20_16, not_false_eq_true, not_true_eq_false, eq_self, scp_2, scp_3, scp_4]) dX5_stores_102
    · have c_17 : r_14 = 0 := c_17
      refine lv_iconst (v := 0) hx hb dX5_stores_20 (by decide) ?_
      exact m_zret X G hr hlocks rfl (by simp only [F_stores, eq_true c_3, hw_14, eq_true c_17, ↓reduceIte, si_self, sm_self, si_snd, sm_fst, si20_16, not_false_eq_true, not_true_eq_false, eq_self, scp_2, scp_3, scp_4]) dX5_stores_21
  · have c_3 : ¬ (c0 = 115) := c_3
    refine lv_iload_n hx hb dX5_stores_6 rfl (lv_at hl 1 rfl) ?_
    refine lv_bipush (v := 83) hx hb dX5_stores_7 (by decide) ?_
    refine lv_icmp_ne (tgt := 103) hx hb dX5_stores_9 (by decide) (fun c_9 => ?_) (fun c_9 => ?_)
    · have c_9 : ¬ (c0 = 83) := c_9
      refine lv_aload_n hx hb dX5_stores_103 rfl (lv_at hl 0 rfl) ?_
      refine m_get_7 X G (by decide +kernel) dX5_stores_104 ?_
      refine lv_iload_n hx hb dX5_stores_107 rfl (lv_at hl 2 rfl) ?_
      refine m_ld_7 X G (vin (rfl : r0.toInt = _) (by omega) (by omega)) dX5_stores_108 ?_
      refine lv_if_ne (tgt := 118) hx hb dX5_stores_109 (by decide) (fun c_109 => ?_) (fun c_109 => ?_)
      · have c_109 : ¬ ((σ.2.2.1 7 r0.toNatClampNeg) = 0) := c_109
        refine lv_aload_n hx hb dX5_stores_118 rfl (lv_at hl 0 rfl) ?_
        refine m_calli (As := []) (rest := []) X hml G hA (c_M_room l dC dI cI cJ h ad _ σ) (cwV 0 hts gX5_stores_X5_room rfl rfl rfl (by decide +kernel) ⟨Nat.le_of_ble_eq_true rfl, Nat.le_of_ble_eq_true rfl⟩) rfl hl.1 rfl (Nat.le_of_ble_eq_true rfl) dX5_stores_119 ⟨Nat.zero_le _, Nat.zero_le _⟩ (fun r_119 u_119 H locs hw_119 G => ?_)
        refine lv_if_ne (tgt := 127) hx hb dX5_stores_122 (by decide) (fun c_122 => ?_) (fun c_122 => ?_)
        · have c_122 : ¬ (r_119 = 0) := c_122
          obtain ⟨rfl, hroom⟩ := room_ok hw_119 c_122
          refine lv_aload_n hx hb dX5_stores_127 rfl (lv_at hl 0 rfl) ?_
          refine lv_aload_n hx hb dX5_stores_128 rfl (lv_at hl 0 rfl) ?_
          refine lv_iload_n hx hb dX5_stores_129 rfl (lv_at hl 2 rfl) ?_
          refine m_calli (As := [.int r0]) (rest := [.ref h]) X hml G hA (c_M_topOf l dC dI cI cJ h ad _ σ r0 hr0 hr1) (cwV 1 hts gX5_stores_X5_topOf rfl rfl rfl (by decide +kernel) ⟨Nat.le_of_ble_eq_true rfl, Nat.le_of_ble_eq_true rfl⟩) rfl hl.1 rfl (Nat.le_of_ble_eq_true rfl) dX5_stores_130 ⟨Nat.zero_le _, Nat.zero_le _⟩ (fun r_130 u_130 H locs hw_130 G => ?_)
          obtain ⟨rfl, hu_130⟩ := hw_130
          rw [hu_130] at G
          refine lv_aload_n hx hb dX5_stores_133 rfl (lv_at hl 0 rfl) ?_
          refine m_get_5 X G (by decide +kernel) dX5_stores_134 ?_
          have hT : (F_topOf σ r0).toInt = 40 + 10 * r0.toInt + (σ.2.2.1 7 r0.toNatClampNeg).toInt - 1 := topOf_v (σ := σ) hr0 hr1 hh0 hh1
          refine m_callv (As := [.int (F_topOf σ r0), .int (σ.1 5)]) (rest := []) X hml G hA (c_M_copy l dC dI cI cJ h ad _ σ (F_topOf σ r0) (σ.1 5) (ge0 hT (by omega)) (ltn hT (by omega)) (ge0 (rfl : (σ.1 5).toInt = _) (by omega)) (ltn (rfl : (σ.1 5).toInt = _) (by omega)) (fun h9 => (htx _ (cl_lt (ge0 hT (by omega)) (ltn hT (by omega))) h9).2)) (cwV 2 hts gX5_stores_X5_copy rfl rfl rfl (by decide +kernel) ⟨Nat.le_of_ble_eq_true rfl, Nat.le_of_ble_eq_true rfl⟩) rfl hl.1 rfl (Nat.le_of_ble_eq_true rfl) dX5_stores_137 ⟨Nat.zero_le _, Nat.zero_le _⟩ (fun u_137 H locs hw_137 G => ?_)
          obtain ⟨b2_137, a3_137, a4_137, rfl⟩ := copy_st hw_137
          have htx_137 := copy_tx (σ := σ) htx hw_137 (ge0 hT (by omega)) (ltn hT (by omega))
          refine lv_aload_n hx hb dX5_stores_140 rfl (lv_at hl 0 rfl) ?_
          refine lv_dup hx hb dX5_stores_141 rfl ?_
          refine m_get_5 X G (by decide +kernel) dX5_stores_142 ?_
          refine lv_iconst (v := 1) hx hb dX5_stores_145 (by decide) ?_
          refine lv_iadd hx hb dX5_stores_146 ?_
          refine m_put_5 X G (by decide +kernel) dX5_stores_147 (fun H locs G => ?_)
          have G : mH dC dI h ad cI cJ (si (scp σ b2_137 a3_137 a4_137) 5 ((σ.1 5) + 1)) (mA h ad cI cJ σ sz) s.heap H locs := G
          refine lv_iload_n hx hb dX5_stores_150 rfl (lv_at hl 1 rfl) ?_
          refine lv_bipush (v := 76) hx hb dX5_stores_151 (by decide) ?_
          refine lv_icmp_ne (tgt := 166) hx hb dX5_stores_153 (by decide) (fun c_153 => ?_) (fun c_153 => ?_)
          · have c_153 : ¬ (c0 = 76) := c_153
            refine lv_iconst (v := 1) hx hb dX5_stores_166 (by decide) ?_
            exact m_zret X G hr hlocks rfl (by simp only [F_stores, eq_false c_3, eq_false c_9, eq_false c_109, hw_119, eq_false c_122, hw_137, eq_false c_153, ↓reduceIte, si_self, sm_self, si_snd, sm_fst, si20_16, not_false_eq_true, not_true_eq_false, eq_self, scp_2, scp_3, scp_4]) dX5_stores_167
          · have c_153 : c0 = 76 := c_153
            refine lv_aload_n hx hb dX5_stores_156 rfl (lv_at hl 0 rfl) ?_
            refine m_get_7 X G (by decide +kernel) dX5_stores_157 ?_
            refine lv_iload_n hx hb dX5_stores_160 rfl (lv_at hl 2 rfl) ?_
            refine lv_dup2_11 hx hb dX5_stores_161 rfl rfl ?_
            refine m_ld_7 X G (vin (rfl : r0.toInt = _) (by omega) (by omega)) dX5_stores_162 ?_
            refine lv_iconst (v := 1) hx hb dX5_stores_163 (by decide) ?_
            refine lv_isub hx hb dX5_stores_164 ?_
            refine m_st_7 X G (vin (rfl : r0.toInt = _) (by omega) (by omega)) dX5_stores_165 (fun H locs G => ?_)
            have G : mH dC dI h ad cI cJ (sa (si (scp σ b2_137 a3_137 a4_137) 5 ((σ.1 5) + 1)) 7 r0.toNatClampNeg ((σ.2.2.1 7 r0.toNatClampNeg) - 1)) (mA h ad cI cJ σ sz) s.heap H locs := G
            refine lv_iconst (v := 1) hx hb dX5_stores_166 (by decide) ?_
            exact m_zret X G hr hlocks rfl (by simp only [F_stores, eq_false c_3, eq_false c_9, eq_false c_109, hw_119, eq_false c_122, hw_137, eq_true c_153, ↓reduceIte, si_self, sm_self, si_snd, sm_fst, si20_16, not_false_eq_true, not_true_eq_false, eq_self, scp_2, scp_3, scp_4]) dX5_stores_167
        · have c_122 : r_119 = 0 := c_122
          refine lv_iconst (v := 0) hx hb dX5_stores_125 (by decide) ?_
          exact m_zret X G hr hlocks rfl (by simp only [F_stores, eq_false c_3, eq_false c_9, eq_false c_109, hw_119, eq_true c_122, ↓reduceIte, si_self, sm_self, si_snd, sm_fst, si20_16, not_false_eq_true, not_true_eq_false, eq_self, scp_2, scp_3, scp_4]) dX5_stores_126
      · have c_109 : (σ.2.2.1 7 r0.toNatClampNeg) = 0 := c_109
        refine lv_aload_n hx hb dX5_stores_112 rfl (lv_at hl 0 rfl) ?_
        refine lv_iconst (v := 2) hx hb dX5_stores_113 (by decide) ?_
        refine m_calli (As := [.int 2]) (rest := []) X hml G hA (c_M_fail l dC dI cI cJ h ad _ σ 2) (cwV 1 hts gX5_stores_X5_fail rfl rfl rfl (by decide +kernel) ⟨Nat.le_of_ble_eq_true rfl, Nat.le_of_ble_eq_true rfl⟩) rfl hl.1 rfl (Nat.le_of_ble_eq_true rfl) dX5_stores_114 ⟨Nat.zero_le _, Nat.zero_le _⟩ (fun r_114 u_114 H locs hw_114 G => ?_)
        obtain ⟨rfl, rfl⟩ := hw_114
        exact m_zret X G hr hlocks rfl (by simp only [F_stores, eq_false c_3, eq_false c_9, eq_true c_109, ↓reduceIte, si_self, sm_self, si_snd, sm_fst, si20_16, not_false_eq_true, not_true_eq_false, eq_self, scp_2, scp_3, scp_4]) dX5_stores_117
    · have c_9 : c0 = 83 := c_9
      refine lv_aload_n hx hb dX5_stores_12 rfl (lv_at hl 0 rfl) ?_
      refine lv_iconst (v := 1) hx hb dX5_stores_13 (by decide) ?_
      refine m_calli (As := [.int 1]) (rest := []) X hml G hA (c_M_have l dC dI cI cJ h ad _ σ 1) (cwV 1 hts gX5_stores_X5_have rfl rfl rfl (by decide +kernel) ⟨Nat.le_of_ble_eq_true rfl, Nat.le_of_ble_eq_true rfl⟩) rfl hl.1 rfl (Nat.le_of_ble_eq_true rfl) dX5_stores_14 ⟨Nat.zero_le _, Nat.zero_le _⟩ (fun r_14 u_14 H locs hw_14 G => ?_)
      refine lv_if_ne (tgt := 22) hx hb dX5_stores_17 (by decide) (fun c_17 => ?_) (fun c_17 => ?_)
      · have c_17 : ¬ (r_14 = 0) := c_17
        obtain ⟨rfl, hn⟩ := have_ok hw_14 c_17
        refine lv_iload_n hx hb dX5_stores_22 rfl (lv_at hl 1 rfl) ?_
        refine lv_bipush (v := 83) hx hb dX5_stores_23 (by decide) ?_
        refine lv_icmp_eq (tgt := 37) hx hb dX5_stores_25 (by decide) (fun c9 => ?_) (fun c9 => absurd (show c0 = 83 from by rw [c_9] <;> decide) c9)
        refine lv_iconst (v := 1) hx hb dX5_stores_37 (by decide) ?_
        refine lv_goto (tgt := 42) hx hb dX5_stores_38 (by decide) ?_
        refine lv_istore_n (lv' := [(3, .int 1), (0, .ref h), (1, .int c0), (2, .int r0)]) hx hb dX5_stores_42 rfl hl (by decide) rfl (fun ls hl => ?_)
        refine lv_iload_n hx hb dX5_stores_43 rfl (lv_at hl 0 rfl) ?_
        refine lv_if_eq (tgt := 64) hx hb dX5_stores_44 (by decide) (fun c9 => absurd c9 (show ¬ ((1 : Int32) = 0) from by decide)) (fun c9 => ?_)
        refine lv_aload_n hx hb dX5_stores_47 rfl (lv_at hl 1 rfl) ?_
        refine m_get_7 X G (by decide +kernel) dX5_stores_48 ?_
        refine lv_iload_n hx hb dX5_stores_51 rfl (lv_at hl 3 rfl) ?_
        refine m_ld_7 X G (vin (rfl : r0.toInt = _) (by omega) (by omega)) dX5_stores_52 ?_
        refine lv_bipush (v := 10) hx hb dX5_stores_53 (by decide) ?_
        refine lv_icmp_ne (tgt := 64) hx hb dX5_stores_55 (by decide) (fun c_55 => ?_) (fun c_55 => ?_)
        · have c_55 : ¬ ((σ.2.2.1 7 r0.toNatClampNeg) = 10) := c_55
          have h55 := i_ne c_55
          refine lv_iload_n hx hb dX5_stores_64 rfl (lv_at hl 0 rfl) ?_
          refine lv_if_eq (tgt := 78) hx hb dX5_stores_65 (by decide) (fun c9 => absurd c9 (show ¬ ((1 : Int32) = 0) from by decide)) (fun c9 => ?_)
          refine lv_aload_n hx hb dX5_stores_68 rfl (lv_at hl 1 rfl) ?_
          refine m_get_7 X G (by decide +kernel) dX5_stores_69 ?_
          refine lv_iload_n hx hb dX5_stores_72 rfl (lv_at hl 3 rfl) ?_
          refine lv_dup2_11 hx hb dX5_stores_73 rfl rfl ?_
          refine m_ld_7 X G (vin (rfl : r0.toInt = _) (by omega) (by omega)) dX5_stores_74 ?_
          refine lv_iconst (v := 1) hx hb dX5_stores_75 (by decide) ?_
          refine lv_iadd hx hb dX5_stores_76 ?_
          refine m_st_7 X G (vin (rfl : r0.toInt = _) (by omega) (by omega)) dX5_stores_77 (fun H locs G => ?_)
          have G : mH dC dI h ad cI cJ (sa σ 7 r0.toNatClampNeg ((σ.2.2.1 7 r0.toNatClampNeg) + 1)) (mA h ad cI cJ σ sz) s.heap H locs := G
          refine lv_aload_n hx hb dX5_stores_78 rfl (lv_at hl 1 rfl) ?_
          refine lv_dup hx hb dX5_stores_79 rfl ?_
          refine m_get_5 X G (by decide +kernel) dX5_stores_80 ?_
          refine lv_iconst (v := 1) hx hb dX5_stores_83 (by decide) ?_
          refine lv_isub hx hb dX5_stores_84 ?_
          refine m_put_5 X G (by decide +kernel) dX5_stores_85 (fun H locs G => ?_)
          have G : mH dC dI h ad cI cJ (si (sa σ 7 r0.toNatClampNeg ((σ.2.2.1 7 r0.toNatClampNeg) + 1)) 5 ((σ.1 5) - 1)) (mA h ad cI cJ σ sz) s.heap H locs := G
          refine lv_aload_n hx hb dX5_stores_88 rfl (lv_at hl 1 rfl) ?_
          refine lv_aload_n hx hb dX5_stores_89 rfl (lv_at hl 1 rfl) ?_
          refine m_get_5 X G (by decide +kernel) dX5_stores_90 ?_
          refine lv_aload_n hx hb dX5_stores_93 rfl (lv_at hl 1 rfl) ?_
          refine lv_iload_n hx hb dX5_stores_94 rfl (lv_at hl 3 rfl) ?_
          refine m_calli (As := [.int r0]) (rest := [.int ((σ.1 5) - 1), .ref h]) X hml G hA (c_M_topOf l dC dI cI cJ h ad _ (si (sa σ 7 r0.toNatClampNeg ((σ.2.2.1 7 r0.toNatClampNeg) + 1)) 5 ((σ.1 5) - 1)) r0 hr0 hr1) (cwV 1 hts gX5_stores_X5_topOf rfl rfl rfl (by decide +kernel) ⟨Nat.le_of_ble_eq_true rfl, Nat.le_of_ble_eq_true rfl⟩) rfl hl.1 rfl (Nat.le_of_ble_eq_true rfl) dX5_stores_95 ⟨Nat.zero_le _, Nat.zero_le _⟩ (fun r_95 u_95 H locs hw_95 G => ?_)
          obtain ⟨rfl, hu_95⟩ := hw_95
          rw [hu_95] at G
          have hT := topOf_sa (σ := σ) (d := ((σ.1 5) - 1)) hr0 hr1 (i_addE (rfl : (σ.2.2.1 7 r0.toNatClampNeg).toInt = _) (show (1 : Int32).toInt = 1 from rfl) (by omega) (by omega)) (by omega) (by omega)
          refine m_callv (As := [.int ((σ.1 5) - 1), .int (F_topOf (si (sa σ 7 r0.toNatClampNeg ((σ.2.2.1 7 r0.toNatClampNeg) + 1)) 5 ((σ.1 5) - 1)) r0)]) (rest := []) X hml G hA (c_M_copy l dC dI cI cJ h ad _ (si (sa σ 7 r0.toNatClampNeg ((σ.2.2.1 7 r0.toNatClampNeg) + 1)) 5 ((σ.1 5) - 1)) ((σ.1 5) - 1) (F_topOf (si (sa σ 7 r0.toNatClampNeg ((σ.2.2.1 7 r0.toNatClampNeg) + 1)) 5 ((σ.1 5) - 1)) r0) (ge0 (i_subE (rfl : (σ.1 5).toInt = _) (show (1 : Int32).toInt = 1 from rfl) (by omega) (by omega)) (by omega)) (ltn (i_subE (rfl : (σ.1 5).toInt = _) (show (1 : Int32).toInt = 1 from rfl) (by omega) (by omega)) (by omega)) (ge0 hT (by omega)) (ltn hT (by omega)) (fun h9 => (htx _ (cl_lt (ge0 (i_subE (rfl : (σ.1 5).toInt = _) (show (1 : Int32).toInt = 1 from rfl) (by omega) (by omega)) (by omega)) (ltn (i_subE (rfl : (σ.1 5).toInt = _) (show (1 : Int32).toInt = 1 from rfl) (by omega) (by omega)) (by omega))) h9).2)) (cwV 2 hts gX5_stores_X5_copy rfl rfl rfl (by decide +kernel) ⟨Nat.le_of_ble_eq_true rfl, Nat.le_of_ble_eq_true rfl⟩) rfl hl.1 rfl (Nat.le_of_ble_eq_true rfl) dX5_stores_98 ⟨Nat.zero_le _, Nat.zero_le _⟩ (fun u_98 H locs hw_98 G => ?_)
          obtain ⟨b2_98, a3_98, a4_98, rfl⟩ := copy_st hw_98
          have htx_98 := copy_tx (σ := (si (sa σ 7 r0.toNatClampNeg ((σ.2.2.1 7 r0.toNatClampNeg) + 1)) 5 ((σ.1 5) - 1))) htx hw_98 (ge0 (i_subE (rfl : (σ.1 5).toInt = _) (show (1 : Int32).toInt = 1 from rfl) (by omega) (by omega)) (by omega)) (ltn (i_subE (rfl : (σ.1 5).toInt = _) (show (1 : Int32).toInt = 1 from rfl) (by omega) (by omega)) (by omega))
          refine lv_iconst (v := 1) hx hb dX5_stores_101 (by decide) ?_
          exact m_zret X G hr hlocks rfl (by simp only [F_stores, eq_false c_3, eq_true c_9, hw_14, eq_false c_17, eq_false c_55, hw_98, ↓reduceIte, si_self, sm_self, si_snd, sm_fst, si20_16, not_false_eq_true, not_true_eq_false, eq_self, scp_2, scp_3, scp_4]) dX5_stores_102
        · have c_55 : (σ.2.2.1 7 r0.toNatClampNeg) = 10 := c_55
          refine lv_aload_n hx hb dX5_stores_58 rfl (lv_at hl 1 rfl) ?_
          refine lv_iconst (v := 5) hx hb dX5_stores_59 (by decide) ?_
          refine m_calli (As := [.int 5]) (rest := []) X hml G hA (c_M_fail l dC dI cI cJ h ad _ σ 5) (cwV 1 hts gX5_stores_X5_fail rfl rfl rfl (by decide +kernel) ⟨Nat.le_of_ble_eq_true rfl, Nat.le_of_ble_eq_true rfl⟩) rfl hl.1 rfl (Nat.le_of_ble_eq_true rfl) dX5_stores_60 ⟨Nat.zero_le _, Nat.zero_le _⟩ (fun r_60 u_60 H locs hw_60 G => ?_)
          obtain ⟨rfl, rfl⟩ := hw_60
          exact m_zret X G hr hlocks rfl (by simp only [F_stores, eq_false c_3, eq_true c_9, hw_14, eq_false c_17, eq_true c_55, ↓reduceIte, si_self, sm_self, si_snd, sm_fst, si20_16, not_false_eq_true, not_true_eq_false, eq_self, scp_2, scp_3, scp_4]) dX5_stores_63
      · have c_17 : r_14 = 0 := c_17
        refine lv_iconst (v := 0) hx hb dX5_stores_20 (by decide) ?_
        exact m_zret X G hr hlocks rfl (by simp only [F_stores, eq_false c_3, eq_true c_9, hw_14, eq_true c_17, ↓reduceIte, si_self, sm_self, si_snd, sm_fst, si20_16, not_false_eq_true, not_true_eq_false, eq_self, scp_2, scp_3, scp_4]) dX5_stores_21
set_option maxHeartbeats 4000000 in
set_option maxRecDepth 100000 in
theorem c_M_tests (l : Launch) (dC : Nat → ClassId) (dI : Nat → Nat → Nat) (cI cJ : ClassId) (h : Nat) (ad : Nat → Nat) (sz : Nat) (σ : MS) (c0 : Int32) (r0 : Int32) (i0 : Int32) (hd0 : 0 ≤ (σ.1 5).toInt) (hd : (σ.1 5).toInt ≤ 40) (htx : tx (σ.2.2.1 3) (σ.2.2.2 2)) (hr0 : 0 ≤ r0.toInt) (hr1 : r0.toInt < 4) (hh0 : 0 ≤ (σ.2.2.1 7 r0.toNatClampNeg).toInt) (hh1 : (σ.2.2.1 7 r0.toNatClampNeg).toInt ≤ 10) (hi0 : 0 ≤ i0.toInt) (hl0 : 1 ≤ (σ.1 11).toInt) (hl1 : (σ.1 11).toInt ≤ 12) (hs : (σ.2.2.1 9 (σ.1 11 - 1).toNatClampNeg).toInt ≤ 160) : Met l yX5_tests wsX5_tests ({ frames := 3, cells := 0, slots := 0, locals := 67 } : Room) (va_Pc [.ref h, .int c0, .int r0, .int i0] (mPre dC dI cI cJ h ad sz σ)) (va_Qi (fun r u => F_tests σ c0 r0 i0 = (r, u)) (mAt dC dI cI cJ h ad (mA h ad cI cJ σ sz)) (mA h ad cI cJ σ sz)) 0 0 (mA h ad cI cJ σ sz) := by
  refine m_ofW (cc := cX5_tests) (maxL := 5) (ret := (some .boolean)) (by decide) rfl (by decide +kernel) rfl (Nat.le_of_ble_eq_true rfl) ?_
  intro p e s m below meth c X G hA hr hlocks hml ls hl
  have hl : lv_has ls 5 [(0, .ref h), (1, .int c0), (2, .int r0), (3, .int i0)] := hl
  have hx := X.1
  have hb := X.2.1
  have hts := X.2.2.1
  have hown := X.2.2.2.2.1
  have z0 : (0 : Int32).toInt = 0 := rfl
  have z1 : (1 : Int32).toInt = 1 := rfl
  have z2 : (2 : Int32).toInt = 2 := rfl
  have z10 : (10 : Int32).toInt = 10 := rfl
  refine lv_aload_n hx hb dX5_tests_0 rfl (lv_at hl 0 rfl) ?_
  refine lv_iconst (v := 2) hx hb dX5_tests_1 (by decide) ?_
  refine m_calli (As := [.int 2]) (rest := []) X hml G hA (c_M_numbers l dC dI cI cJ h ad _ σ 2 (by decide) hd) (cwV 1 hts gX5_tests_X5_numbers rfl rfl rfl (by decide +kernel) ⟨Nat.le_of_ble_eq_true rfl, Nat.le_of_ble_eq_true rfl⟩) rfl hl.1 rfl (Nat.le_of_ble_eq_true rfl) dX5_tests_2 ⟨Nat.zero_le _, Nat.zero_le _⟩ (fun r_2 u_2 H locs hw_2 G => ?_)
  refine lv_if_eq (tgt := 15) hx hb dX5_tests_5 (by decide) (fun c_5 => ?_) (fun c_5 => ?_)
  · have c_5 : r_2 = 0 := c_5
    refine lv_iconst (v := 0) hx hb dX5_tests_15 (by decide) ?_
    exact m_zret X G hr hlocks rfl (by simp only [F_tests, hw_2, eq_true c_5, ↓reduceIte, si_self, sm_self, si_snd, sm_fst, si20_16, not_false_eq_true, not_true_eq_false, eq_self, scp_2, scp_3, scp_4]) dX5_tests_16
  · have c_5 : ¬ (r_2 = 0) := c_5
    obtain ⟨rfl, hn⟩ := numbers_ok hw_2 c_5
    have hn : 2 ≤ (σ.1 5).toInt := hn
    refine lv_aload_n hx hb dX5_tests_8 rfl (lv_at hl 0 rfl) ?_
    refine m_calli (As := []) (rest := []) X hml G hA (c_M_compared l dC dI cI cJ h ad _ σ hn hd) (cwV 0 hts gX5_tests_X5_compared rfl rfl rfl (by decide +kernel) ⟨Nat.le_of_ble_eq_true rfl, Nat.le_of_ble_eq_true rfl⟩) rfl hl.1 rfl (Nat.le_of_ble_eq_true rfl) dX5_tests_9 ⟨Nat.zero_le _, Nat.zero_le _⟩ (fun r_9 u_9 H locs hw_9 G => ?_)
    obtain ⟨f_9, m_9, n_9, rfl⟩ := compared_st hw_9
    refine lv_if_ne (tgt := 17) hx hb dX5_tests_12 (by decide) (fun c_12 => ?_) (fun c_12 => ?_)
    · have c_12 : ¬ (r_9 = 0) := c_12
      refine lv_iload_n hx hb dX5_tests_17 rfl (lv_at hl 1 rfl) ?_
      refine lv_bipush (v := 60) hx hb dX5_tests_18 (by decide) ?_
      refine lv_icmp_ne (tgt := 40) hx hb dX5_tests_20 (by decide) (fun c_20 => ?_) (fun c_20 => ?_)
      · have c_20 : ¬ (c0 = 60) := c_20
        refine lv_iload_n hx hb dX5_tests_40 rfl (lv_at hl 1 rfl) ?_
        refine lv_bipush (v := 62) hx hb dX5_tests_41 (by decide) ?_
        refine lv_icmp_ne (tgt := 63) hx hb dX5_tests_43 (by decide) (fun c_43 => ?_) (fun c_43 => ?_)
        · have c_43 : ¬ (c0 = 62) := c_43
          refine lv_aload_n hx hb dX5_tests_63 rfl (lv_at hl 0 rfl) ?_
          refine m_get_19 X G (by decide +kernel) dX5_tests_64 ?_
          refine lv_lconst (v := 0) hx hb dX5_tests_67 (by decide) ?_
          refine W.lcmp hx hb dX5_tests_68 ?_
          refine lv_if_ne (tgt := 76) hx hb dX5_tests_69 (by decide) (fun c_69 => ?_) (fun c_69 => ?_)
          · have c_69 := (mt (l_cmp_eq _ _).mpr c_69)
            have c_69 : ¬ (m_9 = 0) := c_69
            refine lv_iconst (v := 0) hx hb dX5_tests_76 (by decide) ?_
            refine lv_istore (lv' := [(4, .int 0), (0, .ref h), (1, .int c0), (2, .int r0), (3, .int i0)]) hx hb dX5_tests_77 hl (by decide) rfl (fun ls hl => ?_)
            refine lv_iload hx hb dX5_tests_79 (lv_at hl 0 rfl) ?_
            refine lv_if_ne (tgt := 96) hx hb dX5_tests_81 (by decide) (fun c9 => absurd (show (0 : Int32) = 0 from by decide) c9) (fun c9 => ?_)
            refine lv_aload_n hx hb dX5_tests_84 rfl (lv_at hl 1 rfl) ?_
            refine lv_dup hx hb dX5_tests_85 rfl ?_
            refine m_get_5 X G (by decide +kernel) dX5_tests_86 ?_
            refine lv_iconst (v := 2) hx hb dX5_tests_89 (by decide) ?_
            refine lv_isub hx hb dX5_tests_90 ?_
            refine m_put_5 X G (by decide +kernel) dX5_tests_91 (fun H locs G => ?_)
            have G : mH dC dI h ad cI cJ (si (si (sm (si σ 16 f_9) m_9) 20 n_9) 5 ((σ.1 5) - 2)) (mA h ad cI cJ σ sz) s.heap H locs := G
            refine lv_iconst (v := 1) hx hb dX5_tests_94 (by decide) ?_
            exact m_zret X G hr hlocks rfl (by simp only [F_tests, hw_2, eq_false c_5, hw_9, eq_false c_12, eq_false c_20, eq_false c_43, eq_false c_69, ↓reduceIte, si_self, sm_self, si_snd, sm_fst, si20_16, not_false_eq_true, not_true_eq_false, eq_self, scp_2, scp_3, scp_4]) dX5_tests_95
          · have c_69 := ((l_cmp_eq _ _).mp c_69)
            have c_69 : m_9 = 0 := c_69
            refine lv_iconst (v := 1) hx hb dX5_tests_72 (by decide) ?_
            refine lv_goto (tgt := 77) hx hb dX5_tests_73 (by decide) ?_
            refine lv_istore (lv' := [(4, .int 1), (0, .ref h), (1, .int c0), (2, .int r0), (3, .int i0)]) hx hb dX5_tests_77 hl (by decide) rfl (fun ls hl => ?_)
            refine lv_iload hx hb dX5_tests_79 (lv_at hl 0 rfl) ?_
            refine lv_if_ne (tgt := 96) hx hb dX5_tests_81 (by decide) (fun c9 => ?_) (fun c9 => absurd c9 (show ¬ ((1 : Int32) = 0) from by decide))
            refine lv_aload_n hx hb dX5_tests_96 rfl (lv_at hl 1 rfl) ?_
            refine m_get_7 X G (by decide +kernel) dX5_tests_97 ?_
            refine lv_iload_n hx hb dX5_tests_100 rfl (lv_at hl 3 rfl) ?_
            refine m_ld_7 X G (vin (rfl : r0.toInt = _) (by omega) (by omega)) dX5_tests_101 ?_
            refine lv_if_ne (tgt := 111) hx hb dX5_tests_102 (by decide) (fun c_102 => ?_) (fun c_102 => ?_)
            · have c_102 : ¬ ((σ.2.2.1 7 r0.toNatClampNeg) = 0) := c_102
              refine lv_aload_n hx hb dX5_tests_111 rfl (lv_at hl 1 rfl) ?_
              refine m_get_3 X G (by decide +kernel) dX5_tests_112 ?_
              refine lv_aload_n hx hb dX5_tests_115 rfl (lv_at hl 1 rfl) ?_
              refine lv_iload_n hx hb dX5_tests_116 rfl (lv_at hl 3 rfl) ?_
              refine m_calli (As := [.int r0]) (rest := [.ref (ad 3)]) X hml G hA (c_M_topOf l dC dI cI cJ h ad _ (si (sm (si σ 16 f_9) m_9) 20 n_9) r0 hr0 hr1) (cwV 1 hts gX5_tests_X5_topOf rfl rfl rfl (by decide +kernel) ⟨Nat.le_of_ble_eq_true rfl, Nat.le_of_ble_eq_true rfl⟩) rfl hl.1 rfl (Nat.le_of_ble_eq_true rfl) dX5_tests_117 ⟨Nat.zero_le _, Nat.zero_le _⟩ (fun r_117 u_117 H locs hw_117 G => ?_)
              obtain ⟨rfl, hu_117⟩ := hw_117
              rw [hu_117] at G
              have hT : (F_topOf (si (sm (si σ 16 f_9) m_9) 20 n_9) r0).toInt = 40 + 10 * r0.toInt + (σ.2.2.1 7 r0.toNatClampNeg).toInt - 1 := topOf_v (σ := (si (sm (si σ 16 f_9) m_9) 20 n_9)) hr0 hr1 hh0 hh1
              refine m_ld_3 X G (vin hT (by omega) (by omega)) dX5_tests_120 ?_
              refine lv_if_lt (tgt := 130) hx hb dX5_tests_121 (by decide) (fun c_121 => ?_) (fun c_121 => ?_)
              · have c_121 : (σ.2.2.1 3 (F_topOf (si (sm (si σ 16 f_9) m_9) 20 n_9) r0).toNatClampNeg) < 0 := c_121
                refine lv_aload_n hx hb dX5_tests_130 rfl (lv_at hl 1 rfl) ?_
                refine lv_iload_n hx hb dX5_tests_131 rfl (lv_at hl 4 rfl) ?_
                refine m_calli (As := [.int i0]) (rest := []) X hml G hA (c_M_mayRun l dC dI cI cJ h ad _ (si (sm (si σ 16 f_9) m_9) 20 n_9) i0 hi0 hl0 hl1 hs) (cwV 1 hts gX5_tests_X5_mayRun rfl rfl rfl (by decide +kernel) ⟨Nat.le_of_ble_eq_true rfl, Nat.le_of_ble_eq_true rfl⟩) rfl hl.1 rfl (Nat.le_of_ble_eq_true rfl) dX5_tests_132 ⟨Nat.zero_le _, Nat.zero_le _⟩ (fun r_132 u_132 H locs hw_132 G => ?_)
                refine lv_if_ne (tgt := 140) hx hb dX5_tests_135 (by decide) (fun c_135 => ?_) (fun c_135 => ?_)
                · have c_135 : ¬ (r_132 = 0) := c_135
                  obtain ⟨rfl, hmr⟩ := mayRun_ok hw_132 c_135
                  refine lv_aload_n hx hb dX5_tests_140 rfl (lv_at hl 1 rfl) ?_
                  refine lv_dup hx hb dX5_tests_141 rfl ?_
                  refine m_get_5 X G (by decide +kernel) dX5_tests_142 ?_
                  refine lv_iconst (v := 2) hx hb dX5_tests_145 (by decide) ?_
                  refine lv_isub hx hb dX5_tests_146 ?_
                  refine m_put_5 X G (by decide +kernel) dX5_tests_147 (fun H locs G => ?_)
                  have G : mH dC dI h ad cI cJ (si (si (sm (si σ 16 f_9) m_9) 20 n_9) 5 ((σ.1 5) - 2)) (mA h ad cI cJ σ sz) s.heap H locs := G
                  refine lv_aload_n hx hb dX5_tests_150 rfl (lv_at hl 1 rfl) ?_
                  refine lv_aload_n hx hb dX5_tests_151 rfl (lv_at hl 1 rfl) ?_
                  refine lv_iload_n hx hb dX5_tests_152 rfl (lv_at hl 3 rfl) ?_
                  refine m_calli (As := [.int r0]) (rest := [.ref h]) X hml G hA (c_M_topOf l dC dI cI cJ h ad _ (si (si (sm (si σ 16 f_9) m_9) 20 n_9) 5 ((σ.1 5) - 2)) r0 hr0 hr1) (cwV 1 hts gX5_tests_X5_topOf rfl rfl rfl (by decide +kernel) ⟨Nat.le_of_ble_eq_true rfl, Nat.le_of_ble_eq_true rfl⟩) rfl hl.1 rfl (Nat.le_of_ble_eq_true rfl) dX5_tests_153 ⟨Nat.zero_le _, Nat.zero_le _⟩ (fun r_153 u_153 H locs hw_153 G => ?_)
                  obtain ⟨rfl, hu_153⟩ := hw_153
                  rw [hu_153] at G
                  refine lv_iload_n hx hb dX5_tests_156 rfl (lv_at hl 4 rfl) ?_
                  have hT : (F_topOf (si (si (sm (si σ 16 f_9) m_9) 20 n_9) 5 ((σ.1 5) - 2)) r0).toInt = 40 + 10 * r0.toInt + (σ.2.2.1 7 r0.toNatClampNeg).toInt - 1 := topOf_v (σ := (si (si (sm (si σ 16 f_9) m_9) 20 n_9) 5 ((σ.1 5) - 2))) hr0 hr1 hh0 hh1
                  refine m_callv (As := [.int (F_topOf (si (si (sm (si σ 16 f_9) m_9) 20 n_9) 5 ((σ.1 5) - 2)) r0), .int i0]) (rest := []) X hml G hA (c_M_begin l dC dI cI cJ h ad _ (si (si (sm (si σ 16 f_9) m_9) 20 n_9) 5 ((σ.1 5) - 2)) (F_topOf (si (si (sm (si σ 16 f_9) m_9) 20 n_9) 5 ((σ.1 5) - 2)) r0) i0 hi0 hl0 hl1 hs (ge0 hT (by omega)) (ltn hT (by omega)) (htx _ (cl_lt (ge0 hT (by omega)) (ltn hT (by omega))) c_121).1 (htx _ (cl_lt (ge0 hT (by omega)) (ltn hT (by omega))) c_121).2 (hmr.imp id (fun h9 h8 => h9 (isDone_si5.symm.trans h8)))) (cwV 2 hts gX5_tests_X5_begin rfl rfl rfl (by decide +kernel) ⟨Nat.le_of_ble_eq_true rfl, Nat.le_of_ble_eq_true rfl⟩) rfl hl.1 rfl (Nat.le_of_ble_eq_true rfl) dX5_tests_157 ⟨Nat.zero_le _, Nat.zero_le _⟩ (fun u_157 H locs hw_157 G => ?_)
                  refine lv_iconst (v := 1) hx hb dX5_tests_160 (by decide) ?_
                  exact m_zret X G hr hlocks rfl (by simp only [F_tests, hw_2, eq_false c_5, hw_9, eq_false c_12, eq_false c_20, eq_false c_43, eq_true c_69, eq_false c_102, eq_true c_121, hw_132, eq_false c_135, hw_157, ↓reduceIte, si_self, sm_self, si_snd, sm_fst, si20_16, not_false_eq_true, not_true_eq_false, eq_self, scp_2, scp_3, scp_4]) dX5_tests_161
                · have c_135 : r_132 = 0 := c_135
                  refine lv_iconst (v := 0) hx hb dX5_tests_138 (by decide) ?_
                  exact m_zret X G hr hlocks rfl (by simp only [F_tests, hw_2, eq_false c_5, hw_9, eq_false c_12, eq_false c_20, eq_false c_43, eq_true c_69, eq_false c_102, eq_true c_121, hw_132, eq_true c_135, ↓reduceIte, si_self, sm_self, si_snd, sm_fst, si20_16, not_false_eq_true, not_true_eq_false, eq_self, scp_2, scp_3, scp_4]) dX5_tests_139
              · have c_121 : ¬ ((σ.2.2.1 3 (F_topOf (si (sm (si σ 16 f_9) m_9) 20 n_9) r0).toNatClampNeg) < 0) := c_121
                refine lv_aload_n hx hb dX5_tests_124 rfl (lv_at hl 1 rfl) ?_
                refine lv_iconst (v := 3) hx hb dX5_tests_125 (by decide) ?_
                refine m_calli (As := [.int 3]) (rest := []) X hml G hA (c_M_fail l dC dI cI cJ h ad _ (si (sm (si σ 16 f_9) m_9) 20 n_9) 3) (cwV 1 hts gX5_tests_X5_fail rfl rfl rfl (by decide +kernel) ⟨Nat.le_of_ble_eq_true rfl, Nat.le_of_ble_eq_true rfl⟩) rfl hl.1 rfl (Nat.le_of_ble_eq_true rfl) dX5_tests_126 ⟨Nat.zero_le _, Nat.zero_le _⟩ (fun r_126 u_126 H locs hw_126 G => ?_)
                obtain ⟨rfl, rfl⟩ := hw_126
                exact m_zret X G hr hlocks rfl (by simp only [F_tests, hw_2, eq_false c_5, hw_9, eq_false c_12, eq_false c_20, eq_false c_43, eq_true c_69, eq_false c_102, eq_false c_121, ↓reduceIte, si_self, sm_self, si_snd, sm_fst, si20_16, not_false_eq_true, not_true_eq_false, eq_self, scp_2, scp_3, scp_4]) dX5_tests_129
            · have c_102 : (σ.2.2.1 7 r0.toNatClampNeg) = 0 := c_102
              refine lv_aload_n hx hb dX5_tests_105 rfl (lv_at hl 1 rfl) ?_
              refine lv_iconst (v := 2) hx hb dX5_tests_106 (by decide) ?_
              refine m_calli (As := [.int 2]) (rest := []) X hml G hA (c_M_fail l dC dI cI cJ h ad _ (si (sm (si σ 16 f_9) m_9) 20 n_9) 2) (cwV 1 hts gX5_tests_X5_fail rfl rfl rfl (by decide +kernel) ⟨Nat.le_of_ble_eq_true rfl, Nat.le_of_ble_eq_true rfl⟩) rfl hl.1 rfl (Nat.le_of_ble_eq_true rfl) dX5_tests_107 ⟨Nat.zero_le _, Nat.zero_le _⟩ (fun r_107 u_107 H locs hw_107 G => ?_)
              obtain ⟨rfl, rfl⟩ := hw_107
              exact m_zret X G hr hlocks rfl (by simp only [F_tests, hw_2, eq_false c_5, hw_9, eq_false c_12, eq_false c_20, eq_false c_43, eq_true c_69, eq_true c_102, ↓reduceIte, si_self, sm_self, si_snd, sm_fst, si20_16, not_false_eq_true, not_true_eq_false, eq_self, scp_2, scp_3, scp_4]) dX5_tests_110
        · have c_43 : c0 = 62 := c_43
          refine lv_aload_n hx hb dX5_tests_46 rfl (lv_at hl 0 rfl) ?_
          refine m_get_19 X G (by decide +kernel) dX5_tests_47 ?_
          refine lv_lconst (v := 0) hx hb dX5_tests_50 (by decide) ?_
          refine W.lcmp hx hb dX5_tests_51 ?_
          refine lv_if_ge (tgt := 59) hx hb dX5_tests_52 (by decide) (fun c_52 => ?_) (fun c_52 => ?_)
          · have c_52 := ((l_cmp_ge _ _).mp c_52)
            have c_52 : 0 ≤ m_9 := c_52
            refine lv_iconst (v := 0) hx hb dX5_tests_59 (by decide) ?_
            refine lv_goto (tgt := 77) hx hb dX5_tests_60 (by decide) ?_
            refine lv_istore (lv' := [(4, .int 0), (0, .ref h), (1, .int c0), (2, .int r0), (3, .int i0)]) hx hb dX5_tests_77 hl (by decide) rfl (fun ls hl => ?_)
            refine lv_iload hx hb dX5_tests_79 (lv_at hl 0 rfl) ?_
            refine lv_if_ne (tgt := 96) hx hb dX5_tests_81 (by decide) (fun c9 => absurd (show (0 : Int32) = 0 from by decide) c9) (fun c9 => ?_)
            refine lv_aload_n hx hb dX5_tests_84 rfl (lv_at hl 1 rfl) ?_
            refine lv_dup hx hb dX5_tests_85 rfl ?_
            refine m_get_5 X G (by decide +kernel) dX5_tests_86 ?_
            refine lv_iconst (v := 2) hx hb dX5_tests_89 (by decide) ?_
            refine lv_isub hx hb dX5_tests_90 ?_
            refine m_put_5 X G (by decide +kernel) dX5_tests_91 (fun H locs G => ?_)
            have G : mH dC dI h ad cI cJ (si (si (sm (si σ 16 f_9) m_9) 20 n_9) 5 ((σ.1 5) - 2)) (mA h ad cI cJ σ sz) s.heap H locs := G
            refine lv_iconst (v := 1) hx hb dX5_tests_94 (by decide) ?_
            exact m_zret X G hr hlocks rfl (by simp only [F_tests, hw_2, eq_false c_5, hw_9, eq_false c_12, eq_false c_20, eq_true c_43, eq_true c_52, ↓reduceIte, si_self, sm_self, si_snd, sm_fst, si20_16, not_false_eq_true, not_true_eq_false, eq_self, scp_2, scp_3, scp_4]) dX5_tests_95
          · have c_52 := (mt (l_cmp_ge _ _).mpr c_52)
            have c_52 : ¬ (0 ≤ m_9) := c_52
            refine lv_iconst (v := 1) hx hb dX5_tests_55 (by decide) ?_
            refine lv_goto (tgt := 77) hx hb dX5_tests_56 (by decide) ?_
            refine lv_istore (lv' := [(4, .int 1), (0, .ref h), (1, .int c0), (2, .int r0), (3, .int i0)]) hx hb dX5_tests_77 hl (by decide) rfl (fun ls hl => ?_)
            refine lv_iload hx hb dX5_tests_79 (lv_at hl 0 rfl) ?_
            refine lv_if_ne (tgt := 96) hx hb dX5_tests_81 (by decide) (fun c9 => ?_) (fun c9 => absurd c9 (show ¬ ((1 : Int32) = 0) from by decide))
            refine lv_aload_n hx hb dX5_tests_96 rfl (lv_at hl 1 rfl) ?_
            refine m_get_7 X G (by decide +kernel) dX5_tests_97 ?_
            refine lv_iload_n hx hb dX5_tests_100 rfl (lv_at hl 3 rfl) ?_
            refine m_ld_7 X G (vin (rfl : r0.toInt = _) (by omega) (by omega)) dX5_tests_101 ?_
            refine lv_if_ne (tgt := 111) hx hb dX5_tests_102 (by decide) (fun c_102 => ?_) (fun c_102 => ?_)
            · have c_102 : ¬ ((σ.2.2.1 7 r0.toNatClampNeg) = 0) := c_102
              refine lv_aload_n hx hb dX5_tests_111 rfl (lv_at hl 1 rfl) ?_
              refine m_get_3 X G (by decide +kernel) dX5_tests_112 ?_
              refine lv_aload_n hx hb dX5_tests_115 rfl (lv_at hl 1 rfl) ?_
              refine lv_iload_n hx hb dX5_tests_116 rfl (lv_at hl 3 rfl) ?_
              refine m_calli (As := [.int r0]) (rest := [.ref (ad 3)]) X hml G hA (c_M_topOf l dC dI cI cJ h ad _ (si (sm (si σ 16 f_9) m_9) 20 n_9) r0 hr0 hr1) (cwV 1 hts gX5_tests_X5_topOf rfl rfl rfl (by decide +kernel) ⟨Nat.le_of_ble_eq_true rfl, Nat.le_of_ble_eq_true rfl⟩) rfl hl.1 rfl (Nat.le_of_ble_eq_true rfl) dX5_tests_117 ⟨Nat.zero_le _, Nat.zero_le _⟩ (fun r_117 u_117 H locs hw_117 G => ?_)
              obtain ⟨rfl, hu_117⟩ := hw_117
              rw [hu_117] at G
              have hT : (F_topOf (si (sm (si σ 16 f_9) m_9) 20 n_9) r0).toInt = 40 + 10 * r0.toInt + (σ.2.2.1 7 r0.toNatClampNeg).toInt - 1 := topOf_v (σ := (si (sm (si σ 16 f_9) m_9) 20 n_9)) hr0 hr1 hh0 hh1
              refine m_ld_3 X G (vin hT (by omega) (by omega)) dX5_tests_120 ?_
              refine lv_if_lt (tgt := 130) hx hb dX5_tests_121 (by decide) (fun c_121 => ?_) (fun c_121 => ?_)
              · have c_121 : (σ.2.2.1 3 (F_topOf (si (sm (si σ 16 f_9) m_9) 20 n_9) r0).toNatClampNeg) < 0 := c_121
                refine lv_aload_n hx hb dX5_tests_130 rfl (lv_at hl 1 rfl) ?_
                refine lv_iload_n hx hb dX5_tests_131 rfl (lv_at hl 4 rfl) ?_
                refine m_calli (As := [.int i0]) (rest := []) X hml G hA (c_M_mayRun l dC dI cI cJ h ad _ (si (sm (si σ 16 f_9) m_9) 20 n_9) i0 hi0 hl0 hl1 hs) (cwV 1 hts gX5_tests_X5_mayRun rfl rfl rfl (by decide +kernel) ⟨Nat.le_of_ble_eq_true rfl, Nat.le_of_ble_eq_true rfl⟩) rfl hl.1 rfl (Nat.le_of_ble_eq_true rfl) dX5_tests_132 ⟨Nat.zero_le _, Nat.zero_le _⟩ (fun r_132 u_132 H locs hw_132 G => ?_)
                refine lv_if_ne (tgt := 140) hx hb dX5_tests_135 (by decide) (fun c_135 => ?_) (fun c_135 => ?_)
                · have c_135 : ¬ (r_132 = 0) := c_135
                  obtain ⟨rfl, hmr⟩ := mayRun_ok hw_132 c_135
                  refine lv_aload_n hx hb dX5_tests_140 rfl (lv_at hl 1 rfl) ?_
                  refine lv_dup hx hb dX5_tests_141 rfl ?_
                  refine m_get_5 X G (by decide +kernel) dX5_tests_142 ?_
                  refine lv_iconst (v := 2) hx hb dX5_tests_145 (by decide) ?_
                  refine lv_isub hx hb dX5_tests_146 ?_
                  refine m_put_5 X G (by decide +kernel) dX5_tests_147 (fun H locs G => ?_)
                  have G : mH dC dI h ad cI cJ (si (si (sm (si σ 16 f_9) m_9) 20 n_9) 5 ((σ.1 5) - 2)) (mA h ad cI cJ σ sz) s.heap H locs := G
                  refine lv_aload_n hx hb dX5_tests_150 rfl (lv_at hl 1 rfl) ?_
                  refine lv_aload_n hx hb dX5_tests_151 rfl (lv_at hl 1 rfl) ?_
                  refine lv_iload_n hx hb dX5_tests_152 rfl (lv_at hl 3 rfl) ?_
                  refine m_calli (As := [.int r0]) (rest := [.ref h]) X hml G hA (c_M_topOf l dC dI cI cJ h ad _ (si (si (sm (si σ 16 f_9) m_9) 20 n_9) 5 ((σ.1 5) - 2)) r0 hr0 hr1) (cwV 1 hts gX5_tests_X5_topOf rfl rfl rfl (by decide +kernel) ⟨Nat.le_of_ble_eq_true rfl, Nat.le_of_ble_eq_true rfl⟩) rfl hl.1 rfl (Nat.le_of_ble_eq_true rfl) dX5_tests_153 ⟨Nat.zero_le _, Nat.zero_le _⟩ (fun r_153 u_153 H locs hw_153 G => ?_)
                  obtain ⟨rfl, hu_153⟩ := hw_153
                  rw [hu_153] at G
                  refine lv_iload_n hx hb dX5_tests_156 rfl (lv_at hl 4 rfl) ?_
                  have hT : (F_topOf (si (si (sm (si σ 16 f_9) m_9) 20 n_9) 5 ((σ.1 5) - 2)) r0).toInt = 40 + 10 * r0.toInt + (σ.2.2.1 7 r0.toNatClampNeg).toInt - 1 := topOf_v (σ := (si (si (sm (si σ 16 f_9) m_9) 20 n_9) 5 ((σ.1 5) - 2))) hr0 hr1 hh0 hh1
                  refine m_callv (As := [.int (F_topOf (si (si (sm (si σ 16 f_9) m_9) 20 n_9) 5 ((σ.1 5) - 2)) r0), .int i0]) (rest := []) X hml G hA (c_M_begin l dC dI cI cJ h ad _ (si (si (sm (si σ 16 f_9) m_9) 20 n_9) 5 ((σ.1 5) - 2)) (F_topOf (si (si (sm (si σ 16 f_9) m_9) 20 n_9) 5 ((σ.1 5) - 2)) r0) i0 hi0 hl0 hl1 hs (ge0 hT (by omega)) (ltn hT (by omega)) (htx _ (cl_lt (ge0 hT (by omega)) (ltn hT (by omega))) c_121).1 (htx _ (cl_lt (ge0 hT (by omega)) (ltn hT (by omega))) c_121).2 (hmr.imp id (fun h9 h8 => h9 (isDone_si5.symm.trans h8)))) (cwV 2 hts gX5_tests_X5_begin rfl rfl rfl (by decide +kernel) ⟨Nat.le_of_ble_eq_true rfl, Nat.le_of_ble_eq_true rfl⟩) rfl hl.1 rfl (Nat.le_of_ble_eq_true rfl) dX5_tests_157 ⟨Nat.zero_le _, Nat.zero_le _⟩ (fun u_157 H locs hw_157 G => ?_)
                  refine lv_iconst (v := 1) hx hb dX5_tests_160 (by decide) ?_
                  exact m_zret X G hr hlocks rfl (by simp only [F_tests, hw_2, eq_false c_5, hw_9, eq_false c_12, eq_false c_20, eq_true c_43, eq_false c_52, eq_false c_102, eq_true c_121, hw_132, eq_false c_135, hw_157, ↓reduceIte, si_self, sm_self, si_snd, sm_fst, si20_16, not_false_eq_true, not_true_eq_false, eq_self, scp_2, scp_3, scp_4]) dX5_tests_161
                · have c_135 : r_132 = 0 := c_135
                  refine lv_iconst (v := 0) hx hb dX5_tests_138 (by decide) ?_
                  exact m_zret X G hr hlocks rfl (by simp only [F_tests, hw_2, eq_false c_5, hw_9, eq_false c_12, eq_false c_20, eq_true c_43, eq_false c_52, eq_false c_102, eq_true c_121, hw_132, eq_true c_135, ↓reduceIte, si_self, sm_self, si_snd, sm_fst, si20_16, not_false_eq_true, not_true_eq_false, eq_self, scp_2, scp_3, scp_4]) dX5_tests_139
              · have c_121 : ¬ ((σ.2.2.1 3 (F_topOf (si (sm (si σ 16 f_9) m_9) 20 n_9) r0).toNatClampNeg) < 0) := c_121
                refine lv_aload_n hx hb dX5_tests_124 rfl (lv_at hl 1 rfl) ?_
                refine lv_iconst (v := 3) hx hb dX5_tests_125 (by decide) ?_
                refine m_calli (As := [.int 3]) (rest := []) X hml G hA (c_M_fail l dC dI cI cJ h ad _ (si (sm (si σ 16 f_9) m_9) 20 n_9) 3) (cwV 1 hts gX5_tests_X5_fail rfl rfl rfl (by decide +kernel) ⟨Nat.le_of_ble_eq_true rfl, Nat.le_of_ble_eq_true rfl⟩) rfl hl.1 rfl (Nat.le_of_ble_eq_true rfl) dX5_tests_126 ⟨Nat.zero_le _, Nat.zero_le _⟩ (fun r_126 u_126 H locs hw_126 G => ?_)
                obtain ⟨rfl, rfl⟩ := hw_126
                exact m_zret X G hr hlocks rfl (by simp only [F_tests, hw_2, eq_false c_5, hw_9, eq_false c_12, eq_false c_20, eq_true c_43, eq_false c_52, eq_false c_102, eq_false c_121, ↓reduceIte, si_self, sm_self, si_snd, sm_fst, si20_16, not_false_eq_true, not_true_eq_false, eq_self, scp_2, scp_3, scp_4]) dX5_tests_129
            · have c_102 : (σ.2.2.1 7 r0.toNatClampNeg) = 0 := c_102
              refine lv_aload_n hx hb dX5_tests_105 rfl (lv_at hl 1 rfl) ?_
              refine lv_iconst (v := 2) hx hb dX5_tests_106 (by decide) ?_
              refine m_calli (As := [.int 2]) (rest := []) X hml G hA (c_M_fail l dC dI cI cJ h ad _ (si (sm (si σ 16 f_9) m_9) 20 n_9) 2) (cwV 1 hts gX5_tests_X5_fail rfl rfl rfl (by decide +kernel) ⟨Nat.le_of_ble_eq_true rfl, Nat.le_of_ble_eq_true rfl⟩) rfl hl.1 rfl (Nat.le_of_ble_eq_true rfl) dX5_tests_107 ⟨Nat.zero_le _, Nat.zero_le _⟩ (fun r_107 u_107 H locs hw_107 G => ?_)
              obtain ⟨rfl, rfl⟩ := hw_107
              exact m_zret X G hr hlocks rfl (by simp only [F_tests, hw_2, eq_false c_5, hw_9, eq_false c_12, eq_false c_20, eq_true c_43, eq_false c_52, eq_true c_102, ↓reduceIte, si_self, sm_self, si_snd, sm_fst, si20_16, not_false_eq_true, not_true_eq_false, eq_self, scp_2, scp_3, scp_4]) dX5_tests_110
      · have c_20 : c0 = 60 := c_20
        refine lv_aload_n hx hb dX5_tests_23 rfl (lv_at hl 0 rfl) ?_
        refine m_get_19 X G (by decide +kernel) dX5_tests_24 ?_
        refine lv_lconst (v := 0) hx hb dX5_tests_27 (by decide) ?_
        refine W.lcmp hx hb dX5_tests_28 ?_
        refine lv_if_le (tgt := 36) hx hb dX5_tests_29 (by decide) (fun c_29 => ?_) (fun c_29 => ?_)
        · have c_29 := ((l_cmp_le _ _).mp c_29)
          have c_29 : m_9 ≤ 0 := c_29
          refine lv_iconst (v := 0) hx hb dX5_tests_36 (by decide) ?_
          refine lv_goto (tgt := 77) hx hb dX5_tests_37 (by decide) ?_
          refine lv_istore (lv' := [(4, .int 0), (0, .ref h), (1, .int c0), (2, .int r0), (3, .int i0)]) hx hb dX5_tests_77 hl (by decide) rfl (fun ls hl => ?_)
          refine lv_iload hx hb dX5_tests_79 (lv_at hl 0 rfl) ?_
          refine lv_if_ne (tgt := 96) hx hb dX5_tests_81 (by decide) (fun c9 => absurd (show (0 : Int32) = 0 from by decide) c9) (fun c9 => ?_)
          refine lv_aload_n hx hb dX5_tests_84 rfl (lv_at hl 1 rfl) ?_
          refine lv_dup hx hb dX5_tests_85 rfl ?_
          refine m_get_5 X G (by decide +kernel) dX5_tests_86 ?_
          refine lv_iconst (v := 2) hx hb dX5_tests_89 (by decide) ?_
          refine lv_isub hx hb dX5_tests_90 ?_
          refine m_put_5 X G (by decide +kernel) dX5_tests_91 (fun H locs G => ?_)
          have G : mH dC dI h ad cI cJ (si (si (sm (si σ 16 f_9) m_9) 20 n_9) 5 ((σ.1 5) - 2)) (mA h ad cI cJ σ sz) s.heap H locs := G
          refine lv_iconst (v := 1) hx hb dX5_tests_94 (by decide) ?_
          exact m_zret X G hr hlocks rfl (by simp only [F_tests, hw_2, eq_false c_5, hw_9, eq_false c_12, eq_true c_20, eq_true c_29, ↓reduceIte, si_self, sm_self, si_snd, sm_fst, si20_16, not_false_eq_true, not_true_eq_false, eq_self, scp_2, scp_3, scp_4]) dX5_tests_95
        · have c_29 := (mt (l_cmp_le _ _).mpr c_29)
          have c_29 : ¬ (m_9 ≤ 0) := c_29
          refine lv_iconst (v := 1) hx hb dX5_tests_32 (by decide) ?_
          refine lv_goto (tgt := 77) hx hb dX5_tests_33 (by decide) ?_
          refine lv_istore (lv' := [(4, .int 1), (0, .ref h), (1, .int c0), (2, .int r0), (3, .int i0)]) hx hb dX5_tests_77 hl (by decide) rfl (fun ls hl => ?_)
          refine lv_iload hx hb dX5_tests_79 (lv_at hl 0 rfl) ?_
          refine lv_if_ne (tgt := 96) hx hb dX5_tests_81 (by decide) (fun c9 => ?_) (fun c9 => absurd c9 (show ¬ ((1 : Int32) = 0) from by decide))
          refine lv_aload_n hx hb dX5_tests_96 rfl (lv_at hl 1 rfl) ?_
          refine m_get_7 X G (by decide +kernel) dX5_tests_97 ?_
          refine lv_iload_n hx hb dX5_tests_100 rfl (lv_at hl 3 rfl) ?_
          refine m_ld_7 X G (vin (rfl : r0.toInt = _) (by omega) (by omega)) dX5_tests_101 ?_
          refine lv_if_ne (tgt := 111) hx hb dX5_tests_102 (by decide) (fun c_102 => ?_) (fun c_102 => ?_)
          · have c_102 : ¬ ((σ.2.2.1 7 r0.toNatClampNeg) = 0) := c_102
            refine lv_aload_n hx hb dX5_tests_111 rfl (lv_at hl 1 rfl) ?_
            refine m_get_3 X G (by decide +kernel) dX5_tests_112 ?_
            refine lv_aload_n hx hb dX5_tests_115 rfl (lv_at hl 1 rfl) ?_
            refine lv_iload_n hx hb dX5_tests_116 rfl (lv_at hl 3 rfl) ?_
            refine m_calli (As := [.int r0]) (rest := [.ref (ad 3)]) X hml G hA (c_M_topOf l dC dI cI cJ h ad _ (si (sm (si σ 16 f_9) m_9) 20 n_9) r0 hr0 hr1) (cwV 1 hts gX5_tests_X5_topOf rfl rfl rfl (by decide +kernel) ⟨Nat.le_of_ble_eq_true rfl, Nat.le_of_ble_eq_true rfl⟩) rfl hl.1 rfl (Nat.le_of_ble_eq_true rfl) dX5_tests_117 ⟨Nat.zero_le _, Nat.zero_le _⟩ (fun r_117 u_117 H locs hw_117 G => ?_)
            obtain ⟨rfl, hu_117⟩ := hw_117
            rw [hu_117] at G
            have hT : (F_topOf (si (sm (si σ 16 f_9) m_9) 20 n_9) r0).toInt = 40 + 10 * r0.toInt + (σ.2.2.1 7 r0.toNatClampNeg).toInt - 1 := topOf_v (σ := (si (sm (si σ 16 f_9) m_9) 20 n_9)) hr0 hr1 hh0 hh1
            refine m_ld_3 X G (vin hT (by omega) (by omega)) dX5_tests_120 ?_
            refine lv_if_lt (tgt := 130) hx hb dX5_tests_121 (by decide) (fun c_121 => ?_) (fun c_121 => ?_)
            · have c_121 : (σ.2.2.1 3 (F_topOf (si (sm (si σ 16 f_9) m_9) 20 n_9) r0).toNatClampNeg) < 0 := c_121
              refine lv_aload_n hx hb dX5_tests_130 rfl (lv_at hl 1 rfl) ?_
              refine lv_iload_n hx hb dX5_tests_131 rfl (lv_at hl 4 rfl) ?_
              refine m_calli (As := [.int i0]) (rest := []) X hml G hA (c_M_mayRun l dC dI cI cJ h ad _ (si (sm (si σ 16 f_9) m_9) 20 n_9) i0 hi0 hl0 hl1 hs) (cwV 1 hts gX5_tests_X5_mayRun rfl rfl rfl (by decide +kernel) ⟨Nat.le_of_ble_eq_true rfl, Nat.le_of_ble_eq_true rfl⟩) rfl hl.1 rfl (Nat.le_of_ble_eq_true rfl) dX5_tests_132 ⟨Nat.zero_le _, Nat.zero_le _⟩ (fun r_132 u_132 H locs hw_132 G => ?_)
              refine lv_if_ne (tgt := 140) hx hb dX5_tests_135 (by decide) (fun c_135 => ?_) (fun c_135 => ?_)
              · have c_135 : ¬ (r_132 = 0) := c_135
                obtain ⟨rfl, hmr⟩ := mayRun_ok hw_132 c_135
                refine lv_aload_n hx hb dX5_tests_140 rfl (lv_at hl 1 rfl) ?_
                refine lv_dup hx hb dX5_tests_141 rfl ?_
                refine m_get_5 X G (by decide +kernel) dX5_tests_142 ?_
                refine lv_iconst (v := 2) hx hb dX5_tests_145 (by decide) ?_
                refine lv_isub hx hb dX5_tests_146 ?_
                refine m_put_5 X G (by decide +kernel) dX5_tests_147 (fun H locs G => ?_)
                have G : mH dC dI h ad cI cJ (si (si (sm (si σ 16 f_9) m_9) 20 n_9) 5 ((σ.1 5) - 2)) (mA h ad cI cJ σ sz) s.heap H locs := G
                refine lv_aload_n hx hb dX5_tests_150 rfl (lv_at hl 1 rfl) ?_
                refine lv_aload_n hx hb dX5_tests_151 rfl (lv_at hl 1 rfl) ?_
                refine lv_iload_n hx hb dX5_tests_152 rfl (lv_at hl 3 rfl) ?_
                refine m_calli (As := [.int r0]) (rest := [.ref h]) X hml G hA (c_M_topOf l dC dI cI cJ h ad _ (si (si (sm (si σ 16 f_9) m_9) 20 n_9) 5 ((σ.1 5) - 2)) r0 hr0 hr1) (cwV 1 hts gX5_tests_X5_topOf rfl rfl rfl (by decide +kernel) ⟨Nat.le_of_ble_eq_true rfl, Nat.le_of_ble_eq_true rfl⟩) rfl hl.1 rfl (Nat.le_of_ble_eq_true rfl) dX5_tests_153 ⟨Nat.zero_le _, Nat.zero_le _⟩ (fun r_153 u_153 H locs hw_153 G => ?_)
                obtain ⟨rfl, hu_153⟩ := hw_153
                rw [hu_153] at G
                refine lv_iload_n hx hb dX5_tests_156 rfl (lv_at hl 4 rfl) ?_
                have hT : (F_topOf (si (si (sm (si σ 16 f_9) m_9) 20 n_9) 5 ((σ.1 5) - 2)) r0).toInt = 40 + 10 * r0.toInt + (σ.2.2.1 7 r0.toNatClampNeg).toInt - 1 := topOf_v (σ := (si (si (sm (si σ 16 f_9) m_9) 20 n_9) 5 ((σ.1 5) - 2))) hr0 hr1 hh0 hh1
                refine m_callv (As := [.int (F_topOf (si (si (sm (si σ 16 f_9) m_9) 20 n_9) 5 ((σ.1 5) - 2)) r0), .int i0]) (rest := []) X hml G hA (c_M_begin l dC dI cI cJ h ad _ (si (si (sm (si σ 16 f_9) m_9) 20 n_9) 5 ((σ.1 5) - 2)) (F_topOf (si (si (sm (si σ 16 f_9) m_9) 20 n_9) 5 ((σ.1 5) - 2)) r0) i0 hi0 hl0 hl1 hs (ge0 hT (by omega)) (ltn hT (by omega)) (htx _ (cl_lt (ge0 hT (by omega)) (ltn hT (by omega))) c_121).1 (htx _ (cl_lt (ge0 hT (by omega)) (ltn hT (by omega))) c_121).2 (hmr.imp id (fun h9 h8 => h9 (isDone_si5.symm.trans h8)))) (cwV 2 hts gX5_tests_X5_begin rfl rfl rfl (by decide +kernel) ⟨Nat.le_of_ble_eq_true rfl, Nat.le_of_ble_eq_true rfl⟩) rfl hl.1 rfl (Nat.le_of_ble_eq_true rfl) dX5_tests_157 ⟨Nat.zero_le _, Nat.zero_le _⟩ (fun u_157 H locs hw_157 G => ?_)
                refine lv_iconst (v := 1) hx hb dX5_tests_160 (by decide) ?_
                exact m_zret X G hr hlocks rfl (by simp only [F_tests, hw_2, eq_false c_5, hw_9, eq_false c_12, eq_true c_20, eq_false c_29, eq_false c_102, eq_true c_121, hw_132, eq_false c_135, hw_157, ↓reduceIte, si_self, sm_self, si_snd, sm_fst, si20_16, not_false_eq_true, not_true_eq_false, eq_self, scp_2, scp_3, scp_4]) dX5_tests_161
              · have c_135 : r_132 = 0 := c_135
                refine lv_iconst (v := 0) hx hb dX5_tests_138 (by decide) ?_
                exact m_zret X G hr hlocks rfl (by simp only [F_tests, hw_2, eq_false c_5, hw_9, eq_false c_12, eq_true c_20, eq_false c_29, eq_false c_102, eq_true c_121, hw_132, eq_true c_135, ↓reduceIte, si_self, sm_self, si_snd, sm_fst, si20_16, not_false_eq_true, not_true_eq_false, eq_self, scp_2, scp_3, scp_4]) dX5_tests_139
            · have c_121 : ¬ ((σ.2.2.1 3 (F_topOf (si (sm (si σ 16 f_9) m_9) 20 n_9) r0).toNatClampNeg) < 0) := c_121
              refine lv_aload_n hx hb dX5_tests_124 rfl (lv_at hl 1 rfl) ?_
              refine lv_iconst (v := 3) hx hb dX5_tests_125 (by decide) ?_
              refine m_calli (As := [.int 3]) (rest := []) X hml G hA (c_M_fail l dC dI cI cJ h ad _ (si (sm (si σ 16 f_9) m_9) 20 n_9) 3) (cwV 1 hts gX5_tests_X5_fail rfl rfl rfl (by decide +kernel) ⟨Nat.le_of_ble_eq_true rfl, Nat.le_of_ble_eq_true rfl⟩) rfl hl.1 rfl (Nat.le_of_ble_eq_true rfl) dX5_tests_126 ⟨Nat.zero_le _, Nat.zero_le _⟩ (fun r_126 u_126 H locs hw_126 G => ?_)
              obtain ⟨rfl, rfl⟩ := hw_126
              exact m_zret X G hr hlocks rfl (by simp only [F_tests, hw_2, eq_false c_5, hw_9, eq_false c_12, eq_true c_20, eq_false c_29, eq_false c_102, eq_false c_121, ↓reduceIte, si_self, sm_self, si_snd, sm_fst, si20_16, not_false_eq_true, not_true_eq_false, eq_self, scp_2, scp_3, scp_4]) dX5_tests_129
          · have c_102 : (σ.2.2.1 7 r0.toNatClampNeg) = 0 := c_102
            refine lv_aload_n hx hb dX5_tests_105 rfl (lv_at hl 1 rfl) ?_
            refine lv_iconst (v := 2) hx hb dX5_tests_106 (by decide) ?_
            refine m_calli (As := [.int 2]) (rest := []) X hml G hA (c_M_fail l dC dI cI cJ h ad _ (si (sm (si σ 16 f_9) m_9) 20 n_9) 2) (cwV 1 hts gX5_tests_X5_fail rfl rfl rfl (by decide +kernel) ⟨Nat.le_of_ble_eq_true rfl, Nat.le_of_ble_eq_true rfl⟩) rfl hl.1 rfl (Nat.le_of_ble_eq_true rfl) dX5_tests_107 ⟨Nat.zero_le _, Nat.zero_le _⟩ (fun r_107 u_107 H locs hw_107 G => ?_)
            obtain ⟨rfl, rfl⟩ := hw_107
            exact m_zret X G hr hlocks rfl (by simp only [F_tests, hw_2, eq_false c_5, hw_9, eq_false c_12, eq_true c_20, eq_false c_29, eq_true c_102, ↓reduceIte, si_self, sm_self, si_snd, sm_fst, si20_16, not_false_eq_true, not_true_eq_false, eq_self, scp_2, scp_3, scp_4]) dX5_tests_110
    · have c_12 : r_9 = 0 := c_12
      refine lv_iconst (v := 0) hx hb dX5_tests_15 (by decide) ?_
      exact m_zret X G hr hlocks rfl (by simp only [F_tests, hw_2, eq_false c_5, hw_9, eq_true c_12, ↓reduceIte, si_self, sm_self, si_snd, sm_fst, si20_16, not_false_eq_true, not_true_eq_false, eq_self, scp_2, scp_3, scp_4]) dX5_tests_16
set_option maxHeartbeats 4000000 in
set_option maxRecDepth 100000 in
theorem c_M_runs (l : Launch) (dC : Nat → ClassId) (dI : Nat → Nat → Nat) (cI cJ : ClassId) (h : Nat) (ad : Nat → Nat) (sz : Nat) (σ : MS) (i0 : Int32) (hd : (σ.1 5).toInt ≤ 40) (htx : tx (σ.2.2.1 3) (σ.2.2.2 2)) (hi0 : 0 ≤ i0.toInt) (hl0 : 1 ≤ (σ.1 11).toInt) (hl1 : (σ.1 11).toInt ≤ 12) (hs : (σ.2.2.1 9 (σ.1 11 - 1).toNatClampNeg).toInt ≤ 160) : Met l yX5_runs wsX5_runs ({ frames := 3, cells := 0, slots := 0, locals := 67 } : Room) (va_Pc [.ref h, .int i0] (mPre dC dI cI cJ h ad sz σ)) (va_Qi (fun r u => F_runs σ i0 = (r, u)) (mAt dC dI cI cJ h ad (mA h ad cI cJ σ sz)) (mA h ad cI cJ σ sz)) 0 0 (mA h ad cI cJ σ sz) := by
  refine m_ofW (cc := cX5_runs) (maxL := 2) (ret := (some .boolean)) (by decide) rfl (by decide +kernel) rfl (Nat.le_of_ble_eq_true rfl) ?_
  intro p e s m below meth c X G hA hr hlocks hml ls hl
  have hl : lv_has ls 2 [(0, .ref h), (1, .int i0)] := hl
  have hx := X.1
  have hb := X.2.1
  have hts := X.2.2.1
  have hown := X.2.2.2.2.1
  have z0 : (0 : Int32).toInt = 0 := rfl
  have z1 : (1 : Int32).toInt = 1 := rfl
  have z2 : (2 : Int32).toInt = 2 := rfl
  refine lv_aload_n hx hb dX5_runs_0 rfl (lv_at hl 0 rfl) ?_
  refine lv_iconst (v := 1) hx hb dX5_runs_1 (by decide) ?_
  refine m_calli (As := [.int 1]) (rest := []) X hml G hA (c_M_have l dC dI cI cJ h ad _ σ 1) (cwV 1 hts gX5_runs_X5_have rfl rfl rfl (by decide +kernel) ⟨Nat.le_of_ble_eq_true rfl, Nat.le_of_ble_eq_true rfl⟩) rfl hl.1 rfl (Nat.le_of_ble_eq_true rfl) dX5_runs_2 ⟨Nat.zero_le _, Nat.zero_le _⟩ (fun r_2 u_2 H locs hw_2 G => ?_)
  refine lv_if_ne (tgt := 10) hx hb dX5_runs_5 (by decide) (fun c_5 => ?_) (fun c_5 => ?_)
  · have c_5 : ¬ (r_2 = 0) := c_5
    obtain ⟨rfl, hn⟩ := have_ok hw_2 c_5
    have hn : 1 ≤ (σ.1 5).toInt := hn
    refine lv_aload_n hx hb dX5_runs_10 rfl (lv_at hl 0 rfl) ?_
    refine m_get_3 X G (by decide +kernel) dX5_runs_11 ?_
    refine lv_aload_n hx hb dX5_runs_14 rfl (lv_at hl 0 rfl) ?_
    refine m_get_5 X G (by decide +kernel) dX5_runs_15 ?_
    refine lv_iconst (v := 1) hx hb dX5_runs_18 (by decide) ?_
    refine lv_isub hx hb dX5_runs_19 ?_
    refine m_ld_3 X G (vin (i_subE (rfl : (σ.1 5).toInt = _) (show (1 : Int32).toInt = 1 from rfl) (by omega) (by omega)) (by omega) (by omega)) dX5_runs_20 ?_
    refine lv_if_lt (tgt := 26) hx hb dX5_runs_21 (by decide) (fun c_21 => ?_) (fun c_21 => ?_)
    · have c_21 : (σ.2.2.1 3 ((σ.1 5) - 1).toNatClampNeg) < 0 := c_21
      refine lv_aload_n hx hb dX5_runs_26 rfl (lv_at hl 0 rfl) ?_
      refine lv_iload_n hx hb dX5_runs_27 rfl (lv_at hl 1 rfl) ?_
      refine m_calli (As := [.int i0]) (rest := []) X hml G hA (c_M_mayRun l dC dI cI cJ h ad _ σ i0 hi0 hl0 hl1 hs) (cwV 1 hts gX5_runs_X5_mayRun rfl rfl rfl (by decide +kernel) ⟨Nat.le_of_ble_eq_true rfl, Nat.le_of_ble_eq_true rfl⟩) rfl hl.1 rfl (Nat.le_of_ble_eq_true rfl) dX5_runs_28 ⟨Nat.zero_le _, Nat.zero_le _⟩ (fun r_28 u_28 H locs hw_28 G => ?_)
      refine lv_if_ne (tgt := 36) hx hb dX5_runs_31 (by decide) (fun c_31 => ?_) (fun c_31 => ?_)
      · have c_31 : ¬ (r_28 = 0) := c_31
        obtain ⟨rfl, hmr⟩ := mayRun_ok hw_28 c_31
        refine lv_aload_n hx hb dX5_runs_36 rfl (lv_at hl 0 rfl) ?_
        refine lv_dup hx hb dX5_runs_37 rfl ?_
        refine m_get_5 X G (by decide +kernel) dX5_runs_38 ?_
        refine lv_iconst (v := 1) hx hb dX5_runs_41 (by decide) ?_
        refine lv_isub hx hb dX5_runs_42 ?_
        refine m_put_5 X G (by decide +kernel) dX5_runs_43 (fun H locs G => ?_)
        have G : mH dC dI h ad cI cJ (si σ 5 ((σ.1 5) - 1)) (mA h ad cI cJ σ sz) s.heap H locs := G
        refine lv_aload_n hx hb dX5_runs_46 rfl (lv_at hl 0 rfl) ?_
        refine lv_aload_n hx hb dX5_runs_47 rfl (lv_at hl 0 rfl) ?_
        refine m_get_5 X G (by decide +kernel) dX5_runs_48 ?_
        refine lv_iload_n hx hb dX5_runs_51 rfl (lv_at hl 1 rfl) ?_
        refine m_callv (As := [.int ((σ.1 5) - 1), .int i0]) (rest := []) X hml G hA (c_M_begin l dC dI cI cJ h ad _ (si σ 5 ((σ.1 5) - 1)) ((σ.1 5) - 1) i0 hi0 hl0 hl1 hs (ge0 (i_subE (rfl : (σ.1 5).toInt = _) (show (1 : Int32).toInt = 1 from rfl) (by omega) (by omega)) (by omega)) (ltn (i_subE (rfl : (σ.1 5).toInt = _) (show (1 : Int32).toInt = 1 from rfl) (by omega) (by omega)) (by omega)) (htx _ (cl_lt (ge0 (i_subE (rfl : (σ.1 5).toInt = _) (show (1 : Int32).toInt = 1 from rfl) (by omega) (by omega)) (by omega)) (ltn (i_subE (rfl : (σ.1 5).toInt = _) (show (1 : Int32).toInt = 1 from rfl) (by omega) (by omega)) (by omega))) c_21).1 (htx _ (cl_lt (ge0 (i_subE (rfl : (σ.1 5).toInt = _) (show (1 : Int32).toInt = 1 from rfl) (by omega) (by omega)) (by omega)) (ltn (i_subE (rfl : (σ.1 5).toInt = _) (show (1 : Int32).toInt = 1 from rfl) (by omega) (by omega)) (by omega))) c_21).2 (hmr.imp id (fun h9 h8 => h9 (isDone_si5.symm.trans h8)))) (cwV 2 hts gX5_runs_X5_begin rfl rfl rfl (by decide +kernel) ⟨Nat.le_of_ble_eq_true rfl, Nat.le_of_ble_eq_true rfl⟩) rfl hl.1 rfl (Nat.le_of_ble_eq_true rfl) dX5_runs_52 ⟨Nat.zero_le _, Nat.zero_le _⟩ (fun u_52 H locs hw_52 G => ?_)
        refine lv_iconst (v := 1) hx hb dX5_runs_55 (by decide) ?_
        exact m_zret X G hr hlocks rfl (by simp only [F_runs, hw_2, eq_false c_5, eq_true c_21, hw_28, eq_false c_31, hw_52, ↓reduceIte, si_self, sm_self, si_snd, sm_fst, si20_16, not_false_eq_true, not_true_eq_false, eq_self, scp_2, scp_3, scp_4]) dX5_runs_56
      · have c_31 : r_28 = 0 := c_31
        refine lv_iconst (v := 0) hx hb dX5_runs_34 (by decide) ?_
        exact m_zret X G hr hlocks rfl (by simp only [F_runs, hw_2, eq_false c_5, eq_true c_21, hw_28, eq_true c_31, ↓reduceIte, si_self, sm_self, si_snd, sm_fst, si20_16, not_false_eq_true, not_true_eq_false, eq_self, scp_2, scp_3, scp_4]) dX5_runs_35
    · have c_21 : ¬ ((σ.2.2.1 3 ((σ.1 5) - 1).toNatClampNeg) < 0) := c_21
      refine lv_iconst (v := 1) hx hb dX5_runs_24 (by decide) ?_
      exact m_zret X G hr hlocks rfl (by simp only [F_runs, hw_2, eq_false c_5, eq_false c_21, ↓reduceIte, si_self, sm_self, si_snd, sm_fst, si20_16, not_false_eq_true, not_true_eq_false, eq_self, scp_2, scp_3, scp_4]) dX5_runs_25
  · have c_5 : r_2 = 0 := c_5
    refine lv_iconst (v := 0) hx hb dX5_runs_8 (by decide) ?_
    exact m_zret X G hr hlocks rfl (by simp only [F_runs, hw_2, eq_true c_5, ↓reduceIte, si_self, sm_self, si_snd, sm_fst, si20_16, not_false_eq_true, not_true_eq_false, eq_self, scp_2, scp_3, scp_4]) dX5_runs_9
