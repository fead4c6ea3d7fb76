set_option maxHeartbeats 4000000 in
set_option maxRecDepth 100000 in
theorem c_M_command (l : Launch) (dC : Nat → ClassId) (dI : Nat → Nat → Nat) (cI cJ : ClassId) (h : Nat) (ad : Nat → Nat) (sz : Nat) (σ : MS) (i0 : Int32) (hd0 : 0 ≤ (σ.1 5).toInt) (hd : (σ.1 5).toInt ≤ 40) (hp0 : 0 ≤ (σ.1 14).toInt) (htx : tx (σ.2.2.1 3) (σ.2.2.2 2)) (hhel : ∀ j, j < 4 → 0 ≤ (σ.2.2.1 7 j).toInt ∧ (σ.2.2.1 7 j).toInt ≤ 10) (hl0 : 1 ≤ (σ.1 11).toInt) (hl1 : (σ.1 11).toInt ≤ 12) (hi0 : 0 ≤ i0.toInt) (hi1 : i0.toInt < 160) (hs : (σ.2.2.1 9 (σ.1 11 - 1).toNatClampNeg).toInt ≤ 160) : Met l yX5_command wsX5_command ({ frames := 6, cells := 0, slots := 0, locals := 142 } : Room) (va_Pc [.ref h, .int i0] (mPre dC dI cI cJ h ad sz σ)) (va_Qi (fun r u => F_command σ i0 = (r, u)) (mAt dC dI cI cJ h ad (mA h ad cI cJ σ sz)) (mA h ad cI cJ σ sz)) 0 0 (mA h ad cI cJ σ sz) := by
  refine m_ofW (cc := cX5_command) (maxL := 7) (ret := (some .boolean)) (by decide) rfl (by decide +kernel) rfl (Nat.le_of_ble_eq_true rfl) ?_
  intro p e s m below meth c X G hA hr hlocks hml ls hl
  have hl : lv_has ls 7 [(0, .ref h), (1, .int i0)] := hl
  have hx := X.1
  have hb := X.2.1
  have hts := X.2.2.1
  have hown := X.2.2.2.2.1
  have z0 : (0 : Int32).toInt = 0 := rfl
  have z1 : (1 : Int32).toInt = 1 := rfl
  have z2 : (2 : Int32).toInt = 2 := rfl
  have z10 : (10 : Int32).toInt = 10 := rfl
  have hv : (σ.1 11 - 1).toInt = (σ.1 11).toInt - 1 := i_subE rfl (show (1 : Int32).toInt = 1 from rfl) (by omega) (by omega)
  refine lv_aload_n hx hb dX5_command_0 rfl (lv_at hl 0 rfl) ?_
  refine m_get_11 X G (by decide +kernel) dX5_command_1 ?_
  refine lv_iconst (v := 1) hx hb dX5_command_4 (by decide) ?_
  refine lv_isub hx hb dX5_command_5 ?_
  refine lv_istore_n (lv' := [(2, .int ((σ.1 11) - 1)), (0, .ref h), (1, .int i0)]) hx hb dX5_command_6 rfl hl (by decide) rfl (fun ls hl => ?_)
  refine lv_aload_n hx hb dX5_command_7 rfl (lv_at hl 1 rfl) ?_
  refine lv_iload_n hx hb dX5_command_8 rfl (lv_at hl 0 rfl) ?_
  refine lv_iload_n hx hb dX5_command_9 rfl (lv_at hl 2 rfl) ?_
  refine m_calli (As := [.int ((σ.1 11) - 1), .int i0]) (rest := []) X hml G hA (c_M_charAt l dC dI cI cJ h ad _ σ ((σ.1 11) - 1) i0 (ge0 hv (by omega)) (ltn hv (by omega)) hi0 hs) (cwV 2 hts gX5_command_X5_charAt rfl rfl rfl (by decide +kernel) ⟨Nat.le_of_ble_eq_true rfl, Nat.le_of_ble_eq_true rfl⟩) rfl hl.1 rfl (Nat.le_of_ble_eq_true rfl) dX5_command_10 ⟨Nat.zero_le _, Nat.zero_le _⟩ (fun r_10 u_10 H locs hw_10 G => ?_)
  obtain ⟨rfl, hu_10⟩ := hw_10
  rw [hu_10] at G
  refine lv_istore_n (lv' := [(3, .int (F_charAt σ ((σ.1 11) - 1) i0)), (2, .int ((σ.1 11) - 1)), (0, .ref h), (1, .int i0)]) hx hb dX5_command_13 rfl hl (by decide) rfl (fun ls hl => ?_)
  refine lv_aload_n hx hb dX5_command_14 rfl (lv_at hl 2 rfl) ?_
  refine lv_iload_n hx hb dX5_command_15 rfl (lv_at hl 1 rfl) ?_
  refine lv_iload_n hx hb dX5_command_16 rfl (lv_at hl 3 rfl) ?_
  refine lv_iconst (v := 1) hx hb dX5_command_17 (by decide) ?_
  refine lv_iadd hx hb dX5_command_18 ?_
  refine m_calli (As := [.int ((σ.1 11) - 1), .int (i0 + 1)]) (rest := []) X hml G hA (c_M_charAt l dC dI cI cJ h ad _ σ ((σ.1 11) - 1) (i0 + 1) (ge0 hv (by omega)) (ltn hv (by omega)) (ge0 (i_addE (rfl : i0.toInt = _) (show (1 : Int32).toInt = 1 from rfl) (by omega) (by omega)) (by omega)) hs) (cwV 2 hts gX5_command_X5_charAt rfl rfl rfl (by decide +kernel) ⟨Nat.le_of_ble_eq_true rfl, Nat.le_of_ble_eq_true rfl⟩) rfl hl.1 rfl (Nat.le_of_ble_eq_true rfl) dX5_command_19 ⟨Nat.zero_le _, Nat.zero_le _⟩ (fun r_19 u_19 H locs hw_19 G => ?_)
  obtain ⟨rfl, hu_19⟩ := hw_19
  rw [hu_19] at G
  refine lv_istore (lv' := [(4, .int (F_charAt σ ((σ.1 11) - 1) (i0 + 1))), (3, .int (F_charAt σ ((σ.1 11) - 1) i0)), (2, .int ((σ.1 11) - 1)), (0, .ref h), (1, .int i0)]) hx hb dX5_command_22 hl (by decide) rfl (fun ls hl => ?_)
  refine lv_iload_n hx hb dX5_command_24 rfl (lv_at hl 1 rfl) ?_
  refine lv_i2l hx hb dX5_command_25 rfl ?_
  refine lv_ldc2 (v := 48) hx hb hown (hts (.constantLong RX5 123 (48)) (by decide +kernel)) dX5_command_26 ?_
  refine lv_ldc2 (v := 57) hx hb hown (hts (.constantLong RX5 125 (57)) (by decide +kernel)) dX5_command_29 ?_
  refine W.callR (W.runS (As := [.long ((F_charAt σ ((σ.1 11) - 1) i0).toInt64), .long 48, .long 57]) (rest := []) ⟨hx, hb, hml, hown, hts⟩ (c_M_within l ((F_charAt σ ((σ.1 11) - 1) i0).toInt64) 48 57) (va_cwS 3 hts gX5_command_X5_within rfl rfl rfl (by decide +kernel) ⟨Nat.le_of_ble_eq_true rfl, Nat.le_of_ble_eq_true rfl⟩) ⟨fun a U g mk q => q, fun U _ _ => ⟨rfl, trivial⟩⟩ rfl rfl hl.1 rfl (lv_room (Nat.le_of_ble_eq_true rfl)) dX5_command_32 ⟨Nat.zero_le _, Nat.zero_le _⟩) ?_
  refine W.eq (g2 := F0 m 35 ls [.int (f_within ((F_charAt σ ((σ.1 11) - 1) i0).toInt64) 48 57)]) rfl ?_
  refine lv_if_ne (tgt := 50) hx hb dX5_command_35 (by decide) (fun c_35 => ?_) (fun c_35 => ?_)
  · have c_35 : ¬ ((f_within ((F_charAt σ ((σ.1 11) - 1) i0).toInt64) 48 57) = 0) := c_35
    refine lv_aload_n hx hb dX5_command_50 rfl (lv_at hl 3 rfl) ?_
    refine lv_iload_n hx hb dX5_command_51 rfl (lv_at hl 4 rfl) ?_
    refine m_calli (As := [.int i0]) (rest := []) X hml G hA (c_M_digits l dC dI cI cJ h ad _ σ i0 hi0 (by omega) hl0 hl1 hs hd0 hd) (cwV 1 hts gX5_command_X5_digits rfl rfl rfl (by decide +kernel) ⟨Nat.le_of_ble_eq_true rfl, Nat.le_of_ble_eq_true rfl⟩) rfl hl.1 rfl (Nat.le_of_ble_eq_true rfl) dX5_command_52 ⟨Nat.zero_le _, Nat.zero_le _⟩ (fun r_52 u_52 H locs hw_52 G => ?_)
    exact m_zret X G hr hlocks (nb (b_digits hw_52)) (by simp only [F_command, eq_false c_35, hw_52, ↓reduceIte, si_self, sm_self, si_snd, sm_fst, si20_16, not_false_eq_true, not_true_eq_false, eq_self, scp_2, scp_3, scp_4]) dX5_command_55
  · have c_35 : (f_within ((F_charAt σ ((σ.1 11) - 1) i0).toInt64) 48 57) = 0 := c_35
    refine lv_iload_n hx hb dX5_command_38 rfl (lv_at hl 1 rfl) ?_
    refine lv_bipush (v := 95) hx hb dX5_command_39 (by decide) ?_
    refine lv_icmp_eq (tgt := 50) hx hb dX5_command_41 (by decide) (fun c_41 => ?_) (fun c_41 => ?_)
    · have c_41 : (F_charAt σ ((σ.1 11) - 1) i0) = 95 := c_41
      refine lv_aload_n hx hb dX5_command_50 rfl (lv_at hl 3 rfl) ?_
      refine lv_iload_n hx hb dX5_command_51 rfl (lv_at hl 4 rfl) ?_
      refine m_calli (As := [.int i0]) (rest := []) X hml G hA (c_M_digits l dC dI cI cJ h ad _ σ i0 hi0 (by omega) hl0 hl1 hs hd0 hd) (cwV 1 hts gX5_command_X5_digits rfl rfl rfl (by decide +kernel) ⟨Nat.le_of_ble_eq_true rfl, Nat.le_of_ble_eq_true rfl⟩) rfl hl.1 rfl (Nat.le_of_ble_eq_true rfl) dX5_command_52 ⟨Nat.zero_le _, Nat.zero_le _⟩ (fun r_52 u_52 H locs hw_52 G => ?_)
      exact m_zret X G hr hlocks (nb (b_digits hw_52)) (by simp only [F_command, eq_true c_35, eq_true c_41, hw_52, ↓reduceIte, si_self, sm_self, si_snd, sm_fst, si20_16, not_false_eq_true, not_true_eq_false, eq_self, scp_2, scp_3, scp_4]) dX5_command_55
    · have c_41 : ¬ ((F_charAt σ ((σ.1 11) - 1) i0) = 95) := c_41
      refine lv_iload_n hx hb dX5_command_44 rfl (lv_at hl 1 rfl) ?_
      refine lv_bipush (v := 46) hx hb dX5_command_45 (by decide) ?_
      refine lv_icmp_ne (tgt := 56) hx hb dX5_command_47 (by decide) (fun c_47 => ?_) (fun c_47 => ?_)
      · have c_47 : ¬ ((F_charAt σ ((σ.1 11) - 1) i0) = 46) := c_47
        refine lv_iload_n hx hb dX5_command_56 rfl (lv_at hl 1 rfl) ?_
        refine lv_bipush (v := 91) hx hb dX5_command_57 (by decide) ?_
        refine lv_icmp_ne (tgt := 68) hx hb dX5_command_59 (by decide) (fun c_59 => ?_) (fun c_59 => ?_)
        · have c_59 : ¬ ((F_charAt σ ((σ.1 11) - 1) i0) = 91) := c_59
          refine lv_iload_n hx hb dX5_command_68 rfl (lv_at hl 1 rfl) ?_
          refine lv_bipush (v := 115) hx hb dX5_command_69 (by decide) ?_
          refine lv_bipush (v := 108) hx hb dX5_command_71 (by decide) ?_
          refine lv_bipush (v := 83) hx hb dX5_command_73 (by decide) ?_
          refine lv_bipush (v := 76) hx hb dX5_command_75 (by decide) ?_
          refine W.callR (W.runS (As := [.int (F_charAt σ ((σ.1 11) - 1) i0), .int 115, .int 108, .int 83, .int 76]) (rest := []) ⟨hx, hb, hml, hown, hts⟩ (c_M_isOne l (F_charAt σ ((σ.1 11) - 1) i0) 115 108 83 76) (va_cwS 5 hts gX5_command_X5_isOne rfl rfl rfl (by decide +kernel) ⟨Nat.le_of_ble_eq_true rfl, Nat.le_of_ble_eq_true rfl⟩) ⟨fun a U g mk q => q, fun U _ _ => ⟨rfl, trivial⟩⟩ rfl rfl hl.1 rfl (lv_room (Nat.le_of_ble_eq_true rfl)) dX5_command_77 ⟨Nat.zero_le _, Nat.zero_le _⟩) ?_
          refine W.eq (g2 := F0 m 80 ls [.int (f_isOne (F_charAt σ ((σ.1 11) - 1) i0) 115 108 83 76)]) rfl ?_
          refine lv_if_ne (tgt := 98) hx hb dX5_command_80 (by decide) (fun c_80 => ?_) (fun c_80 => ?_)
          · have c_80 : ¬ ((f_isOne (F_charAt σ ((σ.1 11) - 1) i0) 115 108 83 76) = 0) := c_80
            refine lv_iconst (v := 1) hx hb dX5_command_98 (by decide) ?_
            refine lv_goto (tgt := 103) hx hb dX5_command_99 (by decide) ?_
            refine lv_istore (lv' := [(5, .int 1), (4, .int (F_charAt σ ((σ.1 11) - 1) (i0 + 1))), (3, .int (F_charAt σ ((σ.1 11) - 1) i0)), (2, .int ((σ.1 11) - 1)), (0, .ref h), (1, .int i0)]) hx hb dX5_command_103 hl (by decide) rfl (fun ls hl => ?_)
            refine lv_iload hx hb dX5_command_105 (lv_at hl 0 rfl) ?_
            refine lv_if_eq (tgt := 131) hx hb dX5_command_107 (by decide) (fun c9 => absurd c9 (show ¬ ((1 : Int32) = 0) from by decide)) (fun c9 => ?_)
            refine lv_iload hx hb dX5_command_110 (lv_at hl 1 rfl) ?_
            refine lv_i2l hx hb dX5_command_112 rfl ?_
            refine lv_ldc2 (v := 97) hx hb hown (hts (.constantLong RX5 185 (97)) (by decide +kernel)) dX5_command_113 ?_
            refine lv_ldc2 (v := 100) hx hb hown (hts (.constantLong RX5 187 (100)) (by decide +kernel)) dX5_command_116 ?_
            refine W.callR (W.runS (As := [.long ((F_charAt σ ((σ.1 11) - 1) (i0 + 1)).toInt64), .long 97, .long 100]) (rest := []) ⟨hx, hb, hml, hown, hts⟩ (c_M_within l ((F_charAt σ ((σ.1 11) - 1) (i0 + 1)).toInt64) 97 100) (va_cwS 3 hts gX5_command_X5_within rfl rfl rfl (by decide +kernel) ⟨Nat.le_of_ble_eq_true rfl, Nat.le_of_ble_eq_true rfl⟩) ⟨fun a U g mk q => q, fun U _ _ => ⟨rfl, trivial⟩⟩ rfl rfl hl.1 rfl (lv_room (Nat.le_of_ble_eq_true rfl)) dX5_command_119 ⟨Nat.zero_le _, Nat.zero_le _⟩) ?_
            refine W.eq (g2 := F0 m 122 ls [.int (f_within ((F_charAt σ ((σ.1 11) - 1) (i0 + 1)).toInt64) 97 100)]) rfl ?_
            refine lv_if_ne (tgt := 131) hx hb dX5_command_122 (by decide) (fun c_122 => ?_) (fun c_122 => ?_)
            · have c_122 : ¬ ((f_within ((F_charAt σ ((σ.1 11) - 1) (i0 + 1)).toInt64) 97 100) = 0) := c_122
              have hreg := reg_ok c_122
              refine lv_iload hx hb dX5_command_131 (lv_at hl 0 rfl) ?_
              refine lv_if_eq (tgt := 142) hx hb dX5_command_133 (by decide) (fun c9 => absurd c9 (show ¬ ((1 : Int32) = 0) from by decide)) (fun c9 => ?_)
              refine lv_iload_n hx hb dX5_command_136 rfl (lv_at hl 5 rfl) ?_
              refine lv_iconst (v := 2) hx hb dX5_command_137 (by decide) ?_
              refine lv_iadd hx hb dX5_command_138 ?_
              refine lv_goto (tgt := 145) hx hb dX5_command_139 (by decide) ?_
              refine lv_istore (lv' := [(6, .int (i0 + 2)), (5, .int 1), (4, .int (F_charAt σ ((σ.1 11) - 1) (i0 + 1))), (3, .int (F_charAt σ ((σ.1 11) - 1) i0)), (2, .int ((σ.1 11) - 1)), (0, .ref h), (1, .int i0)]) hx hb dX5_command_145 hl (by decide) rfl (fun ls hl => ?_)
              refine lv_aload_n hx hb dX5_command_147 rfl (lv_at hl 5 rfl) ?_
              refine m_get_10 X G (by decide +kernel) dX5_command_148 ?_
              refine lv_iload_n hx hb dX5_command_151 rfl (lv_at hl 4 rfl) ?_
              refine lv_iload hx hb dX5_command_152 (lv_at hl 0 rfl) ?_
              refine m_st_10 X G (vin (i_subE (rfl : (σ.1 11).toInt = _) (show (1 : Int32).toInt = 1 from rfl) (by omega) (by omega)) (by omega) (by omega)) dX5_command_154 (fun H locs G => ?_)
              have G : mH dC dI h ad cI cJ (sa σ 10 ((σ.1 11) - 1).toNatClampNeg (i0 + 2)) (mA h ad cI cJ σ sz) s.heap H locs := G
              refine lv_iload_n hx hb dX5_command_155 rfl (lv_at hl 3 rfl) ?_
              refine lv_bipush (v := 115) hx hb dX5_command_156 (by decide) ?_
              refine lv_bipush (v := 108) hx hb dX5_command_158 (by decide) ?_
              refine lv_bipush (v := 83) hx hb dX5_command_160 (by decide) ?_
              refine lv_bipush (v := 76) hx hb dX5_command_162 (by decide) ?_
              refine W.callR (W.runS (As := [.int (F_charAt σ ((σ.1 11) - 1) i0), .int 115, .int 108, .int 83, .int 76]) (rest := []) ⟨hx, hb, hml, hown, hts⟩ (c_M_isOne l (F_charAt σ ((σ.1 11) - 1) i0) 115 108 83 76) (va_cwS 5 hts gX5_command_X5_isOne rfl rfl rfl (by decide +kernel) ⟨Nat.le_of_ble_eq_true rfl, Nat.le_of_ble_eq_true rfl⟩) ⟨fun a U g mk q => q, fun U _ _ => ⟨rfl, trivial⟩⟩ rfl rfl hl.1 rfl (lv_room (Nat.le_of_ble_eq_true rfl)) dX5_command_164 ⟨Nat.zero_le _, Nat.zero_le _⟩) ?_
              refine W.eq (g2 := F0 m 167 ls [.int (f_isOne (F_charAt σ ((σ.1 11) - 1) i0) 115 108 83 76)]) rfl ?_
              refine lv_if_eq (tgt := 181) hx hb dX5_command_167 (by decide) (fun c9 => absurd c9 (show ¬ ((f_isOne (F_charAt σ ((σ.1 11) - 1) i0) 115 108 83 76) = 0) from c_80)) (fun c9 => ?_)
              refine lv_aload_n hx hb dX5_command_170 rfl (lv_at hl 5 rfl) ?_
              refine lv_iload_n hx hb dX5_command_171 rfl (lv_at hl 3 rfl) ?_
              refine lv_iload hx hb dX5_command_172 (lv_at hl 2 rfl) ?_
              refine W.callR (W.runS (As := [.int (F_charAt σ ((σ.1 11) - 1) (i0 + 1))]) (rest := [.int (F_charAt σ ((σ.1 11) - 1) i0), .ref h]) ⟨hx, hb, hml, hown, hts⟩ (c_M_register l (F_charAt σ ((σ.1 11) - 1) (i0 + 1))) (va_cwS 1 hts gX5_command_X5_register rfl rfl rfl (by decide +kernel) ⟨Nat.le_of_ble_eq_true rfl, Nat.le_of_ble_eq_true rfl⟩) ⟨fun a U g mk q => q, fun U _ _ => ⟨rfl, trivial⟩⟩ rfl rfl hl.1 rfl (lv_room (Nat.le_of_ble_eq_true rfl)) dX5_command_174 ⟨Nat.zero_le _, Nat.zero_le _⟩) ?_
              refine W.eq (g2 := F0 m 177 ls [.int (f_register (F_charAt σ ((σ.1 11) - 1) (i0 + 1))), .int (F_charAt σ ((σ.1 11) - 1) i0), .ref h]) rfl ?_
              refine m_calli (As := [.int (F_charAt σ ((σ.1 11) - 1) i0), .int (f_register (F_charAt σ ((σ.1 11) - 1) (i0 + 1)))]) (rest := []) X hml G hA (c_M_stores l dC dI cI cJ h ad _ (sa σ 10 ((σ.1 11) - 1).toNatClampNeg (i0 + 2)) (F_charAt σ ((σ.1 11) - 1) i0) (f_register (F_charAt σ ((σ.1 11) - 1) (i0 + 1))) hd0 hd htx hreg.1 hreg.2 (hhel _ (cl_lt hreg.1 hreg.2)).1 (hhel _ (cl_lt hreg.1 hreg.2)).2) (cwV 2 hts gX5_command_X5_stores rfl rfl rfl (by decide +kernel) ⟨Nat.le_of_ble_eq_true rfl, Nat.le_of_ble_eq_true rfl⟩) rfl hl.1 rfl (Nat.le_of_ble_eq_true rfl) dX5_command_177 ⟨Nat.zero_le _, Nat.zero_le _⟩ (fun r_177 u_177 H locs hw_177 G => ?_)
              exact m_zret X G hr hlocks (nb (b_stores hw_177)) (by simp only [F_command, eq_true c_35, eq_false c_41, eq_false c_47, eq_false c_59, eq_false c_80, eq_false c_122, hw_177, ↓reduceIte, si_self, sm_self, si_snd, sm_fst, si20_16, not_false_eq_true, not_true_eq_false, eq_self, scp_2, scp_3, scp_4]) dX5_command_180
            · have c_122 : (f_within ((F_charAt σ ((σ.1 11) - 1) (i0 + 1)).toInt64) 97 100) = 0 := c_122
              refine lv_aload_n hx hb dX5_command_125 rfl (lv_at hl 4 rfl) ?_
              refine lv_iconst (v := 1) hx hb dX5_command_126 (by decide) ?_
              refine m_calli (As := [.int 1]) (rest := []) X hml G hA (c_M_fail l dC dI cI cJ h ad _ σ 1) (cwV 1 hts gX5_command_X5_fail rfl rfl rfl (by decide +kernel) ⟨Nat.le_of_ble_eq_true rfl, Nat.le_of_ble_eq_true rfl⟩) rfl hl.1 rfl (Nat.le_of_ble_eq_true rfl) dX5_command_127 ⟨Nat.zero_le _, Nat.zero_le _⟩ (fun r_127 u_127 H locs hw_127 G => ?_)
              obtain ⟨rfl, rfl⟩ := hw_127
              exact m_zret X G hr hlocks rfl (by simp only [F_command, eq_true c_35, eq_false c_41, eq_false c_47, eq_false c_59, eq_false c_80, eq_true c_122, ↓reduceIte, si_self, sm_self, si_snd, sm_fst, si20_16, not_false_eq_true, not_true_eq_false, eq_self, scp_2, scp_3, scp_4]) dX5_command_130
          · have c_80 : (f_isOne (F_charAt σ ((σ.1 11) - 1) i0) 115 108 83 76) = 0 := c_80
            refine lv_iload_n hx hb dX5_command_83 rfl (lv_at hl 1 rfl) ?_
            refine lv_bipush (v := 60) hx hb dX5_command_84 (by decide) ?_
            refine lv_bipush (v := 62) hx hb dX5_command_86 (by decide) ?_
            refine lv_bipush (v := 61) hx hb dX5_command_88 (by decide) ?_
            refine lv_bipush (v := 60) hx hb dX5_command_90 (by decide) ?_
            refine W.callR (W.runS (As := [.int (F_charAt σ ((σ.1 11) - 1) i0), .int 60, .int 62, .int 61, .int 60]) (rest := []) ⟨hx, hb, hml, hown, hts⟩ (c_M_isOne l (F_charAt σ ((σ.1 11) - 1) i0) 60 62 61 60) (va_cwS 5 hts gX5_command_X5_isOne rfl rfl rfl (by decide +kernel) ⟨Nat.le_of_ble_eq_true rfl, Nat.le_of_ble_eq_true rfl⟩) ⟨fun a U g mk q => q, fun U _ _ => ⟨rfl, trivial⟩⟩ rfl rfl hl.1 rfl (lv_room (Nat.le_of_ble_eq_true rfl)) dX5_command_92 ⟨Nat.zero_le _, Nat.zero_le _⟩) ?_
            refine W.eq (g2 := F0 m 95 ls [.int (f_isOne (F_charAt σ ((σ.1 11) - 1) i0) 60 62 61 60)]) rfl ?_
            refine lv_if_eq (tgt := 102) hx hb dX5_command_95 (by decide) (fun c_95 => ?_) (fun c_95 => ?_)
            · have c_95 : (f_isOne (F_charAt σ ((σ.1 11) - 1) i0) 60 62 61 60) = 0 := c_95
              refine lv_iconst (v := 0) hx hb dX5_command_102 (by decide) ?_
              refine lv_istore (lv' := [(5, .int 0), (4, .int (F_charAt σ ((σ.1 11) - 1) (i0 + 1))), (3, .int (F_charAt σ ((σ.1 11) - 1) i0)), (2, .int ((σ.1 11) - 1)), (0, .ref h), (1, .int i0)]) hx hb dX5_command_103 hl (by decide) rfl (fun ls hl => ?_)
              refine lv_iload hx hb dX5_command_105 (lv_at hl 0 rfl) ?_
              refine lv_if_eq (tgt := 131) hx hb dX5_command_107 (by decide) (fun c9 => ?_) (fun c9 => absurd (show (0 : Int32) = 0 from by decide) c9)
              refine lv_iload hx hb dX5_command_131 (lv_at hl 0 rfl) ?_
              refine lv_if_eq (tgt := 142) hx hb dX5_command_133 (by decide) (fun c9 => ?_) (fun c9 => absurd (show (0 : Int32) = 0 from by decide) c9)
              refine lv_iload_n hx hb dX5_command_142 rfl (lv_at hl 5 rfl) ?_
              refine lv_iconst (v := 1) hx hb dX5_command_143 (by decide) ?_
              refine lv_iadd hx hb dX5_command_144 ?_
              refine lv_istore (lv' := [(6, .int (i0 + 1)), (5, .int 0), (4, .int (F_charAt σ ((σ.1 11) - 1) (i0 + 1))), (3, .int (F_charAt σ ((σ.1 11) - 1) i0)), (2, .int ((σ.1 11) - 1)), (0, .ref h), (1, .int i0)]) hx hb dX5_command_145 hl (by decide) rfl (fun ls hl => ?_)
              refine lv_aload_n hx hb dX5_command_147 rfl (lv_at hl 5 rfl) ?_
              refine m_get_10 X G (by decide +kernel) dX5_command_148 ?_
              refine lv_iload_n hx hb dX5_command_151 rfl (lv_at hl 4 rfl) ?_
              refine lv_iload hx hb dX5_command_152 (lv_at hl 0 rfl) ?_
              refine m_st_10 X G (vin (i_subE (rfl : (σ.1 11).toInt = _) (show (1 : Int32).toInt = 1 from rfl) (by omega) (by omega)) (by omega) (by omega)) dX5_command_154 (fun H locs G => ?_)
              have G : mH dC dI h ad cI cJ (sa σ 10 ((σ.1 11) - 1).toNatClampNeg (i0 + 1)) (mA h ad cI cJ σ sz) s.heap H locs := G
              refine lv_iload_n hx hb dX5_command_155 rfl (lv_at hl 3 rfl) ?_
              refine lv_bipush (v := 115) hx hb dX5_command_156 (by decide) ?_
              refine lv_bipush (v := 108) hx hb dX5_command_158 (by decide) ?_
              refine lv_bipush (v := 83) hx hb dX5_command_160 (by decide) ?_
              refine lv_bipush (v := 76) hx hb dX5_command_162 (by decide) ?_
              refine W.callR (W.runS (As := [.int (F_charAt σ ((σ.1 11) - 1) i0), .int 115, .int 108, .int 83, .int 76]) (rest := []) ⟨hx, hb, hml, hown, hts⟩ (c_M_isOne l (F_charAt σ ((σ.1 11) - 1) i0) 115 108 83 76) (va_cwS 5 hts gX5_command_X5_isOne rfl rfl rfl (by decide +kernel) ⟨Nat.le_of_ble_eq_true rfl, Nat.le_of_ble_eq_true rfl⟩) ⟨fun a U g mk q => q, fun U _ _ => ⟨rfl, trivial⟩⟩ rfl rfl hl.1 rfl (lv_room (Nat.le_of_ble_eq_true rfl)) dX5_command_164 ⟨Nat.zero_le _, Nat.zero_le _⟩) ?_
              refine W.eq (g2 := F0 m 167 ls [.int (f_isOne (F_charAt σ ((σ.1 11) - 1) i0) 115 108 83 76)]) rfl ?_
              refine lv_if_eq (tgt := 181) hx hb dX5_command_167 (by decide) (fun c9 => ?_) (fun c9 => absurd (show (f_isOne (F_charAt σ ((σ.1 11) - 1) i0) 115 108 83 76) = 0 from by rw [c_80] <;> decide) c9)
              refine lv_iload hx hb dX5_command_181 (lv_at hl 1 rfl) ?_
              refine lv_if_eq (tgt := 199) hx hb dX5_command_183 (by decide) (fun c9 => ?_) (fun c9 => absurd (show (0 : Int32) = 0 from by decide) c9)
              refine lv_iload_n hx hb dX5_command_199 rfl (lv_at hl 3 rfl) ?_
              refine lv_bipush (v := 120) hx hb dX5_command_200 (by decide) ?_
              refine lv_icmp_ne (tgt := 212) hx hb dX5_command_202 (by decide) (fun c_202 => ?_) (fun c_202 => ?_)
              · have c_202 : ¬ ((F_charAt σ ((σ.1 11) - 1) i0) = 120) := c_202
                refine lv_iload_n hx hb dX5_command_212 rfl (lv_at hl 3 rfl) ?_
                refine lv_bipush (v := 113) hx hb dX5_command_213 (by decide) ?_
                refine lv_icmp_ne (tgt := 225) hx hb dX5_command_215 (by decide) (fun c_215 => ?_) (fun c_215 => ?_)
                · have c_215 : ¬ ((F_charAt σ ((σ.1 11) - 1) i0) = 113) := c_215
                  refine lv_iload_n hx hb dX5_command_225 rfl (lv_at hl 3 rfl) ?_
                  refine lv_bipush (v := 43) hx hb dX5_command_226 (by decide) ?_
                  refine lv_bipush (v := 45) hx hb dX5_command_228 (by decide) ?_
                  refine lv_bipush (v := 42) hx hb dX5_command_230 (by decide) ?_
                  refine lv_bipush (v := 47) hx hb dX5_command_232 (by decide) ?_
                  refine W.callR (W.runS (As := [.int (F_charAt σ ((σ.1 11) - 1) i0), .int 43, .int 45, .int 42, .int 47]) (rest := []) ⟨hx, hb, hml, hown, hts⟩ (c_M_isOne l (F_charAt σ ((σ.1 11) - 1) i0) 43 45 42 47) (va_cwS 5 hts gX5_command_X5_isOne rfl rfl rfl (by decide +kernel) ⟨Nat.le_of_ble_eq_true rfl, Nat.le_of_ble_eq_true rfl⟩) ⟨fun a U g mk q => q, fun U _ _ => ⟨rfl, trivial⟩⟩ rfl rfl hl.1 rfl (lv_room (Nat.le_of_ble_eq_true rfl)) dX5_command_234 ⟨Nat.zero_le _, Nat.zero_le _⟩) ?_
                  refine W.eq (g2 := F0 m 237 ls [.int (f_isOne (F_charAt σ ((σ.1 11) - 1) i0) 43 45 42 47)]) rfl ?_
                  refine lv_if_ne (tgt := 261) hx hb dX5_command_237 (by decide) (fun c_237 => ?_) (fun c_237 => ?_)
                  · have c_237 : ¬ ((f_isOne (F_charAt σ ((σ.1 11) - 1) i0) 43 45 42 47) = 0) := c_237
                    refine lv_aload_n hx hb dX5_command_261 rfl (lv_at hl 5 rfl) ?_
                    refine lv_iload_n hx hb dX5_command_262 rfl (lv_at hl 3 rfl) ?_
                    refine m_calli (As := [.int (F_charAt σ ((σ.1 11) - 1) i0)]) (rest := []) X hml G hA (c_M_calculates l dC dI cI cJ h ad _ (sa σ 10 ((σ.1 11) - 1).toNatClampNeg (i0 + 1)) (F_charAt σ ((σ.1 11) - 1) i0) hd (by first | exact cc1 c_237 | exact cc2 c_252 | exact cc3 c_258)) (cwV 1 hts gX5_command_X5_calculates rfl rfl rfl (by decide +kernel) ⟨Nat.le_of_ble_eq_true rfl, Nat.le_of_ble_eq_true rfl⟩) rfl hl.1 rfl (Nat.le_of_ble_eq_true rfl) dX5_command_263 ⟨Nat.zero_le _, Nat.zero_le _⟩ (fun r_263 u_263 H locs hw_263 G => ?_)
                    exact m_zret X G hr hlocks (nb (b_calculates hw_263)) (by simp only [F_command, eq_true c_35, eq_false c_41, eq_false c_47, eq_false c_59, eq_true c_80, eq_true c_95, eq_false c_202, eq_false c_215, eq_false c_237, hw_263, ↓reduceIte, si_self, sm_self, si_snd, sm_fst, si20_16, not_false_eq_true, not_true_eq_false, eq_self, scp_2, scp_3, scp_4]) dX5_command_266
                  · have c_237 : (f_isOne (F_charAt σ ((σ.1 11) - 1) i0) 43 45 42 47) = 0 := c_237
                    refine lv_iload_n hx hb dX5_command_240 rfl (lv_at hl 3 rfl) ?_
                    refine lv_bipush (v := 37) hx hb dX5_command_241 (by decide) ?_
                    refine lv_bipush (v := 118) hx hb dX5_command_243 (by decide) ?_
                    refine lv_bipush (v := 126) hx hb dX5_command_245 (by decide) ?_
                    refine lv_bipush (v := 107) hx hb dX5_command_247 (by decide) ?_
                    refine W.callR (W.runS (As := [.int (F_charAt σ ((σ.1 11) - 1) i0), .int 37, .int 118, .int 126, .int 107]) (rest := []) ⟨hx, hb, hml, hown, hts⟩ (c_M_isOne l (F_charAt σ ((σ.1 11) - 1) i0) 37 118 126 107) (va_cwS 5 hts gX5_command_X5_isOne rfl rfl rfl (by decide +kernel) ⟨Nat.le_of_ble_eq_true rfl, Nat.le_of_ble_eq_true rfl⟩) ⟨fun a U g mk q => q, fun U _ _ => ⟨rfl, trivial⟩⟩ rfl rfl hl.1 rfl (lv_room (Nat.le_of_ble_eq_true rfl)) dX5_command_249 ⟨Nat.zero_le _, Nat.zero_le _⟩) ?_
                    refine W.eq (g2 := F0 m 252 ls [.int (f_isOne (F_charAt σ ((σ.1 11) - 1) i0) 37 118 126 107)]) rfl ?_
                    refine lv_if_ne (tgt := 261) hx hb dX5_command_252 (by decide) (fun c_252 => ?_) (fun c_252 => ?_)
                    · have c_252 : ¬ ((f_isOne (F_charAt σ ((σ.1 11) - 1) i0) 37 118 126 107) = 0) := c_252
                      refine lv_aload_n hx hb dX5_command_261 rfl (lv_at hl 5 rfl) ?_
                      refine lv_iload_n hx hb dX5_command_262 rfl (lv_at hl 3 rfl) ?_
                      refine m_calli (As := [.int (F_charAt σ ((σ.1 11) - 1) i0)]) (rest := []) X hml G hA (c_M_calculates l dC dI cI cJ h ad _ (sa σ 10 ((σ.1 11) - 1).toNatClampNeg (i0 + 1)) (F_charAt σ ((σ.1 11) - 1) i0) hd (by first | exact cc1 c_237 | exact cc2 c_252 | exact cc3 c_258)) (cwV 1 hts gX5_command_X5_calculates rfl rfl rfl (by decide +kernel) ⟨Nat.le_of_ble_eq_true rfl, Nat.le_of_ble_eq_true rfl⟩) rfl hl.1 rfl (Nat.le_of_ble_eq_true rfl) dX5_command_263 ⟨Nat.zero_le _, Nat.zero_le _⟩ (fun r_263 u_263 H locs hw_263 G => ?_)
                      exact m_zret X G hr hlocks (nb (b_calculates hw_263)) (by simp only [F_command, eq_true c_35, eq_false c_41, eq_false c_47, eq_false c_59, eq_true c_80, eq_true c_95, eq_false c_202, eq_false c_215, eq_true c_237, eq_false c_252, hw_263, ↓reduceIte, si_self, sm_self, si_snd, sm_fst, si20_16, not_false_eq_true, not_true_eq_false, eq_self, scp_2, scp_3, scp_4]) dX5_command_266
                    · have c_252 : (f_isOne (F_charAt σ ((σ.1 11) - 1) i0) 37 118 126 107) = 0 := c_252
                      refine lv_iload_n hx hb dX5_command_255 rfl (lv_at hl 3 rfl) ?_
                      refine lv_bipush (v := 88) hx hb dX5_command_256 (by decide) ?_
                      refine lv_icmp_ne (tgt := 267) hx hb dX5_command_258 (by decide) (fun c_258 => ?_) (fun c_258 => ?_)
                      · have c_258 : ¬ ((F_charAt σ ((σ.1 11) - 1) i0) = 88) := c_258
                        refine lv_iload_n hx hb dX5_command_267 rfl (lv_at hl 3 rfl) ?_
                        refine lv_bipush (v := 100) hx hb dX5_command_268 (by decide) ?_
                        refine lv_bipush (v := 114) hx hb dX5_command_270 (by decide) ?_
                        refine lv_bipush (v := 68) hx hb dX5_command_272 (by decide) ?_
                        refine lv_bipush (v := 99) hx hb dX5_command_274 (by decide) ?_
                        refine W.callR (W.runS (As := [.int (F_charAt σ ((σ.1 11) - 1) i0), .int 100, .int 114, .int 68, .int 99]) (rest := []) ⟨hx, hb, hml, hown, hts⟩ (c_M_isOne l (F_charAt σ ((σ.1 11) - 1) i0) 100 114 68 99) (va_cwS 5 hts gX5_command_X5_isOne rfl rfl rfl (by decide +kernel) ⟨Nat.le_of_ble_eq_true rfl, Nat.le_of_ble_eq_true rfl⟩) ⟨fun a U g mk q => q, fun U _ _ => ⟨rfl, trivial⟩⟩ rfl rfl hl.1 rfl (lv_room (Nat.le_of_ble_eq_true rfl)) dX5_command_276 ⟨Nat.zero_le _, Nat.zero_le _⟩) ?_
                        refine W.eq (g2 := F0 m 279 ls [.int (f_isOne (F_charAt σ ((σ.1 11) - 1) i0) 100 114 68 99)]) rfl ?_
                        refine lv_if_ne (tgt := 297) hx hb dX5_command_279 (by decide) (fun c_279 => ?_) (fun c_279 => ?_)
                        · have c_279 : ¬ ((f_isOne (F_charAt σ ((σ.1 11) - 1) i0) 100 114 68 99) = 0) := c_279
                          refine lv_aload_n hx hb dX5_command_297 rfl (lv_at hl 5 rfl) ?_
                          refine lv_iload_n hx hb dX5_command_298 rfl (lv_at hl 3 rfl) ?_
                          refine m_calli (As := [.int (F_charAt σ ((σ.1 11) - 1) i0)]) (rest := []) X hml G hA (c_M_moves l dC dI cI cJ h ad _ (sa σ 10 ((σ.1 11) - 1).toNatClampNeg (i0 + 1)) (F_charAt σ ((σ.1 11) - 1) i0) hd0 hd hp0 htx) (cwV 1 hts gX5_command_X5_moves rfl rfl rfl (by decide +kernel) ⟨Nat.le_of_ble_eq_true rfl, Nat.le_of_ble_eq_true rfl⟩) rfl hl.1 rfl (Nat.le_of_ble_eq_true rfl) dX5_command_299 ⟨Nat.zero_le _, Nat.zero_le _⟩ (fun r_299 u_299 H locs hw_299 G => ?_)
                          exact m_zret X G hr hlocks (nb (b_moves hw_299)) (by simp only [F_command, eq_true c_35, eq_false c_41, eq_false c_47, eq_false c_59, eq_true c_80, eq_true c_95, eq_false c_202, eq_false c_215, eq_true c_237, eq_true c_252, eq_false c_258, eq_false c_279, hw_299, ↓reduceIte, si_self, sm_self, si_snd, sm_fst, si20_16, not_false_eq_true, not_true_eq_false, eq_self, scp_2, scp_3, scp_4]) dX5_command_302
                        · have c_279 : (f_isOne (F_charAt σ ((σ.1 11) - 1) i0) 100 114 68 99) = 0 := c_279
                          refine lv_iload_n hx hb dX5_command_282 rfl (lv_at hl 3 rfl) ?_
                          refine lv_bipush (v := 122) hx hb dX5_command_283 (by decide) ?_
                          refine lv_bipush (v := 75) hx hb dX5_command_285 (by decide) ?_
                          refine lv_bipush (v := 112) hx hb dX5_command_287 (by decide) ?_
                          refine lv_bipush (v := 112) hx hb dX5_command_289 (by decide) ?_
                          refine W.callR (W.runS (As := [.int (F_charAt σ ((σ.1 11) - 1) i0), .int 122, .int 75, .int 112, .int 112]) (rest := []) ⟨hx, hb, hml, hown, hts⟩ (c_M_isOne l (F_charAt σ ((σ.1 11) - 1) i0) 122 75 112 112) (va_cwS 5 hts gX5_command_X5_isOne rfl rfl rfl (by decide +kernel) ⟨Nat.le_of_ble_eq_true rfl, Nat.le_of_ble_eq_true rfl⟩) ⟨fun a U g mk q => q, fun U _ _ => ⟨rfl, trivial⟩⟩ rfl rfl hl.1 rfl (lv_room (Nat.le_of_ble_eq_true rfl)) dX5_command_291 ⟨Nat.zero_le _, Nat.zero_le _⟩) ?_
                          refine W.eq (g2 := F0 m 294 ls [.int (f_isOne (F_charAt σ ((σ.1 11) - 1) i0) 122 75 112 112)]) rfl ?_
                          refine lv_if_eq (tgt := 303) hx hb dX5_command_294 (by decide) (fun c_294 => ?_) (fun c_294 => ?_)
                          · have c_294 : (f_isOne (F_charAt σ ((σ.1 11) - 1) i0) 122 75 112 112) = 0 := c_294
                            refine lv_aload_n hx hb dX5_command_303 rfl (lv_at hl 5 rfl) ?_
                            refine lv_iconst (v := 1) hx hb dX5_command_304 (by decide) ?_
                            refine m_calli (As := [.int 1]) (rest := []) X hml G hA (c_M_fail l dC dI cI cJ h ad _ (sa σ 10 ((σ.1 11) - 1).toNatClampNeg (i0 + 1)) 1) (cwV 1 hts gX5_command_X5_fail rfl rfl rfl (by decide +kernel) ⟨Nat.le_of_ble_eq_true rfl, Nat.le_of_ble_eq_true rfl⟩) rfl hl.1 rfl (Nat.le_of_ble_eq_true rfl) dX5_command_305 ⟨Nat.zero_le _, Nat.zero_le _⟩ (fun r_305 u_305 H locs hw_305 G => ?_)
                            obtain ⟨rfl, rfl⟩ := hw_305
                            exact m_zret X G hr hlocks rfl (by simp only [F_command, eq_true c_35, eq_false c_41, eq_false c_47, eq_false c_59, eq_true c_80, eq_true c_95, eq_false c_202, eq_false c_215, eq_true c_237, eq_true c_252, eq_false c_258, eq_true c_279, eq_true c_294, ↓reduceIte, si_self, sm_self, si_snd, sm_fst, si20_16, not_false_eq_true, not_true_eq_false, eq_self, scp_2, scp_3, scp_4]) dX5_command_308
                          · have c_294 : ¬ ((f_isOne (F_charAt σ ((σ.1 11) - 1) i0) 122 75 112 112) = 0) := c_294
                            refine lv_aload_n hx hb dX5_command_297 rfl (lv_at hl 5 rfl) ?_
                            refine lv_iload_n hx hb dX5_command_298 rfl (lv_at hl 3 rfl) ?_
                            refine m_calli (As := [.int (F_charAt σ ((σ.1 11) - 1) i0)]) (rest := []) X hml G hA (c_M_moves l dC dI cI cJ h ad _ (sa σ 10 ((σ.1 11) - 1).toNatClampNeg (i0 + 1)) (F_charAt σ ((σ.1 11) - 1) i0) hd0 hd hp0 htx) (cwV 1 hts gX5_command_X5_moves rfl rfl rfl (by decide +kernel) ⟨Nat.le_of_ble_eq_true rfl, Nat.le_of_ble_eq_true rfl⟩) rfl hl.1 rfl (Nat.le_of_ble_eq_true rfl) dX5_command_299 ⟨Nat.zero_le _, Nat.zero_le _⟩ (fun r_299 u_299 H locs hw_299 G => ?_)
                            exact m_zret X G hr hlocks (nb (b_moves hw_299)) (by simp only [F_command, eq_true c_35, eq_false c_41, eq_false c_47, eq_false c_59, eq_true c_80, eq_true c_95, eq_false c_202, eq_false c_215, eq_true c_237, eq_true c_252, eq_false c_258, eq_true c_279, eq_false c_294, hw_299, ↓reduceIte, si_self, sm_self, si_snd, sm_fst, si20_16, not_false_eq_true, not_true_eq_false, eq_self, scp_2, scp_3, scp_4]) dX5_command_302
                      · have c_258 : (F_charAt σ ((σ.1 11) - 1) i0) = 88 := c_258
                        refine lv_aload_n hx hb dX5_command_261 rfl (lv_at hl 5 rfl) ?_
                        refine lv_iload_n hx hb dX5_command_262 rfl (lv_at hl 3 rfl) ?_
                        refine m_calli (As := [.int (F_charAt σ ((σ.1 11) - 1) i0)]) (rest := []) X hml G hA (c_M_calculates l dC dI cI cJ h ad _ (sa σ 10 ((σ.1 11) - 1).toNatClampNeg (i0 + 1)) (F_charAt σ ((σ.1 11) - 1) i0) hd (by first | exact cc1 c_237 | exact cc2 c_252 | exact cc3 c_258)) (cwV 1 hts gX5_command_X5_calculates rfl rfl rfl (by decide +kernel) ⟨Nat.le_of_ble_eq_true rfl, Nat.le_of_ble_eq_true rfl⟩) rfl hl.1 rfl (Nat.le_of_ble_eq_true rfl) dX5_command_263 ⟨Nat.zero_le _, Nat.zero_le _⟩ (fun r_263 u_263 H locs hw_263 G => ?_)
                        exact m_zret X G hr hlocks (nb (b_calculates hw_263)) (by simp only [F_command, eq_true c_35, eq_false c_41, eq_false c_47, eq_false c_59, eq_true c_80, eq_true c_95, eq_false c_202, eq_false c_215, eq_true c_237, eq_true c_252, eq_true c_258, hw_263, ↓reduceIte, si_self, sm_self, si_snd, sm_fst, si20_16, not_false_eq_true, not_true_eq_false, eq_self, scp_2, scp_3, scp_4]) dX5_command_266
                · have c_215 : (F_charAt σ ((σ.1 11) - 1) i0) = 113 := c_215
                  refine lv_aload_n hx hb dX5_command_218 rfl (lv_at hl 5 rfl) ?_
                  refine lv_iconst (v := 1) hx hb dX5_command_219 (by decide) ?_
                  refine m_put_18 X G rfl rfl (by decide +kernel) dX5_command_220 (fun H locs G => ?_)
                  have G : mH dC dI h ad cI cJ (si (sa σ 10 ((σ.1 11) - 1).toNatClampNeg (i0 + 1)) 18 1) (mA h ad cI cJ σ sz) s.heap H locs := G
                  refine lv_iconst (v := 1) hx hb dX5_command_223 (by decide) ?_
                  exact m_zret X G hr hlocks rfl (by simp only [F_command, eq_true c_35, eq_false c_41, eq_false c_47, eq_false c_59, eq_true c_80, eq_true c_95, eq_false c_202, eq_true c_215, ↓reduceIte, si_self, sm_self, si_snd, sm_fst, si20_16, not_false_eq_true, not_true_eq_false, eq_self, scp_2, scp_3, scp_4]) dX5_command_224
              · have c_202 : (F_charAt σ ((σ.1 11) - 1) i0) = 120 := c_202
                refine lv_aload_n hx hb dX5_command_205 rfl (lv_at hl 5 rfl) ?_
                refine lv_iload hx hb dX5_command_206 (lv_at hl 0 rfl) ?_
                refine m_calli (As := [.int (i0 + 1)]) (rest := []) X hml G hA (c_M_runs l dC dI cI cJ h ad _ (sa σ 10 ((σ.1 11) - 1).toNatClampNeg (i0 + 1)) (i0 + 1) hd htx (ge0 (i_addE (rfl : i0.toInt = _) (show (1 : Int32).toInt = 1 from rfl) (by omega) (by omega)) (by omega)) hl0 hl1 hs) (cwV 1 hts gX5_command_X5_runs rfl rfl rfl (by decide +kernel) ⟨Nat.le_of_ble_eq_true rfl, Nat.le_of_ble_eq_true rfl⟩) rfl hl.1 rfl (Nat.le_of_ble_eq_true rfl) dX5_command_208 ⟨Nat.zero_le _, Nat.zero_le _⟩ (fun r_208 u_208 H locs hw_208 G => ?_)
                exact m_zret X G hr hlocks (nb (b_runs hw_208)) (by simp only [F_command, eq_true c_35, eq_false c_41, eq_false c_47, eq_false c_59, eq_true c_80, eq_true c_95, eq_true c_202, hw_208, ↓reduceIte, si_self, sm_self, si_snd, sm_fst, si20_16, not_false_eq_true, not_true_eq_false, eq_self, scp_2, scp_3, scp_4]) dX5_command_211
            · have c_95 : ¬ ((f_isOne (F_charAt σ ((σ.1 11) - 1) i0) 60 62 61 60) = 0) := c_95
              refine lv_iconst (v := 1) hx hb dX5_command_98 (by decide) ?_
              refine lv_goto (tgt := 103) hx hb dX5_command_99 (by decide) ?_
              refine lv_istore (lv' := [(5, .int 1), (4, .int (F_charAt σ ((σ.1 11) - 1) (i0 + 1))), (3, .int (F_charAt σ ((σ.1 11) - 1) i0)), (2, .int ((σ.1 11) - 1)), (0, .ref h), (1, .int i0)]) hx hb dX5_command_103 hl (by decide) rfl (fun ls hl => ?_)
              refine lv_iload hx hb dX5_command_105 (lv_at hl 0 rfl) ?_
              refine lv_if_eq (tgt := 131) hx hb dX5_command_107 (by decide) (fun c9 => absurd c9 (show ¬ ((1 : Int32) = 0) from by decide)) (fun c9 => ?_)
              refine lv_iload hx hb dX5_command_110 (lv_at hl 1 rfl) ?_
              refine lv_i2l hx hb dX5_command_112 rfl ?_
              refine lv_ldc2 (v := 97) hx hb hown (hts (.constantLong RX5 185 (97)) (by decide +kernel)) dX5_command_113 ?_
              refine lv_ldc2 (v := 100) hx hb hown (hts (.constantLong RX5 187 (100)) (by decide +kernel)) dX5_command_116 ?_
              refine W.callR (W.runS (As := [.long ((F_charAt σ ((σ.1 11) - 1) (i0 + 1)).toInt64), .long 97, .long 100]) (rest := []) ⟨hx, hb, hml, hown, hts⟩ (c_M_within l ((F_charAt σ ((σ.1 11) - 1) (i0 + 1)).toInt64) 97 100) (va_cwS 3 hts gX5_command_X5_within rfl rfl rfl (by decide +kernel) ⟨Nat.le_of_ble_eq_true rfl, Nat.le_of_ble_eq_true rfl⟩) ⟨fun a U g mk q => q, fun U _ _ => ⟨rfl, trivial⟩⟩ rfl rfl hl.1 rfl (lv_room (Nat.le_of_ble_eq_true rfl)) dX5_command_119 ⟨Nat.zero_le _, Nat.zero_le _⟩) ?_
              refine W.eq (g2 := F0 m 122 ls [.int (f_within ((F_charAt σ ((σ.1 11) - 1) (i0 + 1)).toInt64) 97 100)]) rfl ?_
              refine lv_if_ne (tgt := 131) hx hb dX5_command_122 (by decide) (fun c_122 => ?_) (fun c_122 => ?_)
              · have c_122 : ¬ ((f_within ((F_charAt σ ((σ.1 11) - 1) (i0 + 1)).toInt64) 97 100) = 0) := c_122
                have hreg := reg_ok c_122
                refine lv_iload hx hb dX5_command_131 (lv_at hl 0 rfl) ?_
                refine lv_if_eq (tgt := 142) hx hb dX5_command_133 (by decide) (fun c9 => absurd c9 (show ¬ ((1 : Int32) = 0) from by decide)) (fun c9 => ?_)
                refine lv_iload_n hx hb dX5_command_136 rfl (lv_at hl 5 rfl) ?_
                refine lv_iconst (v := 2) hx hb dX5_command_137 (by decide) ?_
                refine lv_iadd hx hb dX5_command_138 ?_
                refine lv_goto (tgt := 145) hx hb dX5_command_139 (by decide) ?_
                refine lv_istore (lv' := [(6, .int (i0 + 2)), (5, .int 1), (4, .int (F_charAt σ ((σ.1 11) - 1) (i0 + 1))), (3, .int (F_charAt σ ((σ.1 11) - 1) i0)), (2, .int ((σ.1 11) - 1)), (0, .ref h), (1, .int i0)]) hx hb dX5_command_145 hl (by decide) rfl (fun ls hl => ?_)
                refine lv_aload_n hx hb dX5_command_147 rfl (lv_at hl 5 rfl) ?_
                refine m_get_10 X G (by decide +kernel) dX5_command_148 ?_
                refine lv_iload_n hx hb dX5_command_151 rfl (lv_at hl 4 rfl) ?_
                refine lv_iload hx hb dX5_command_152 (lv_at hl 0 rfl) ?_
                refine m_st_10 X G (vin (i_subE (rfl : (σ.1 11).toInt = _) (show (1 : Int32).toInt = 1 from rfl) (by omega) (by omega)) (by omega) (by omega)) dX5_command_154 (fun H locs G => ?_)
                have G : mH dC dI h ad cI cJ (sa σ 10 ((σ.1 11) - 1).toNatClampNeg (i0 + 2)) (mA h ad cI cJ σ sz) s.heap H locs := G
                refine lv_iload_n hx hb dX5_command_155 rfl (lv_at hl 3 rfl) ?_
                refine lv_bipush (v := 115) hx hb dX5_command_156 (by decide) ?_
                refine lv_bipush (v := 108) hx hb dX5_command_158 (by decide) ?_
                refine lv_bipush (v := 83) hx hb dX5_command_160 (by decide) ?_
                refine lv_bipush (v := 76) hx hb dX5_command_162 (by decide) ?_
                refine W.callR (W.runS (As := [.int (F_charAt σ ((σ.1 11) - 1) i0), .int 115, .int 108, .int 83, .int 76]) (rest := []) ⟨hx, hb, hml, hown, hts⟩ (c_M_isOne l (F_charAt σ ((σ.1 11) - 1) i0) 115 108 83 76) (va_cwS 5 hts gX5_command_X5_isOne rfl rfl rfl (by decide +kernel) ⟨Nat.le_of_ble_eq_true rfl, Nat.le_of_ble_eq_true rfl⟩) ⟨fun a U g mk q => q, fun U _ _ => ⟨rfl, trivial⟩⟩ rfl rfl hl.1 rfl (lv_room (Nat.le_of_ble_eq_true rfl)) dX5_command_164 ⟨Nat.zero_le _, Nat.zero_le _⟩) ?_
                refine W.eq (g2 := F0 m 167 ls [.int (f_isOne (F_charAt σ ((σ.1 11) - 1) i0) 115 108 83 76)]) rfl ?_
                refine lv_if_eq (tgt := 181) hx hb dX5_command_167 (by decide) (fun c9 => ?_) (fun c9 => absurd (show (f_isOne (F_charAt σ ((σ.1 11) - 1) i0) 115 108 83 76) = 0 from by rw [c_80] <;> decide) c9)
                refine lv_iload hx hb dX5_command_181 (lv_at hl 1 rfl) ?_
                refine lv_if_eq (tgt := 199) hx hb dX5_command_183 (by decide) (fun c9 => absurd c9 (show ¬ ((1 : Int32) = 0) from by decide)) (fun c9 => ?_)
                refine lv_aload_n hx hb dX5_command_186 rfl (lv_at hl 5 rfl) ?_
                refine lv_iload_n hx hb dX5_command_187 rfl (lv_at hl 3 rfl) ?_
                refine lv_iload hx hb dX5_command_188 (lv_at hl 2 rfl) ?_
                refine W.callR (W.runS (As := [.int (F_charAt σ ((σ.1 11) - 1) (i0 + 1))]) (rest := [.int (F_charAt σ ((σ.1 11) - 1) i0), .ref h]) ⟨hx, hb, hml, hown, hts⟩ (c_M_register l (F_charAt σ ((σ.1 11) - 1) (i0 + 1))) (va_cwS 1 hts gX5_command_X5_register rfl rfl rfl (by decide +kernel) ⟨Nat.le_of_ble_eq_true rfl, Nat.le_of_ble_eq_true rfl⟩) ⟨fun a U g mk q => q, fun U _ _ => ⟨rfl, trivial⟩⟩ rfl rfl hl.1 rfl (lv_room (Nat.le_of_ble_eq_true rfl)) dX5_command_190 ⟨Nat.zero_le _, Nat.zero_le _⟩) ?_
                refine W.eq (g2 := F0 m 193 ls [.int (f_register (F_charAt σ ((σ.1 11) - 1) (i0 + 1))), .int (F_charAt σ ((σ.1 11) - 1) i0), .ref h]) rfl ?_
                refine lv_iload hx hb dX5_command_193 (lv_at hl 0 rfl) ?_
                refine m_calli (As := [.int (F_charAt σ ((σ.1 11) - 1) i0), .int (f_register (F_charAt σ ((σ.1 11) - 1) (i0 + 1))), .int (i0 + 2)]) (rest := []) X hml G hA (c_M_tests l dC dI cI cJ h ad _ (sa σ 10 ((σ.1 11) - 1).toNatClampNeg (i0 + 2)) (F_charAt σ ((σ.1 11) - 1) i0) (f_register (F_charAt σ ((σ.1 11) - 1) (i0 + 1))) (i0 + 2) hd0 hd htx hreg.1 hreg.2 (hhel _ (cl_lt hreg.1 hreg.2)).1 (hhel _ (cl_lt hreg.1 hreg.2)).2 (ge0 (i_addE (rfl : i0.toInt = _) (show (2 : Int32).toInt = 2 from rfl) (by omega) (by omega)) (by omega)) hl0 hl1 hs) (cwV 3 hts gX5_command_X5_tests rfl rfl rfl (by decide +kernel) ⟨Nat.le_of_ble_eq_true rfl, Nat.le_of_ble_eq_true rfl⟩) rfl hl.1 rfl (Nat.le_of_ble_eq_true rfl) dX5_command_195 ⟨Nat.zero_le _, Nat.zero_le _⟩ (fun r_195 u_195 H locs hw_195 G => ?_)
                exact m_zret X G hr hlocks (nb (b_tests hw_195)) (by simp only [F_command, eq_true c_35, eq_false c_41, eq_false c_47, eq_false c_59, eq_true c_80, eq_false c_95, eq_false c_122, hw_195, ↓reduceIte, si_self, sm_self, si_snd, sm_fst, si20_16, not_false_eq_true, not_true_eq_false, eq_self, scp_2, scp_3, scp_4]) dX5_command_198
              · have c_122 : (f_within ((F_charAt σ ((σ.1 11) - 1) (i0 + 1)).toInt64) 97 100) = 0 := c_122
                refine lv_aload_n hx hb dX5_command_125 rfl (lv_at hl 4 rfl) ?_
                refine lv_iconst (v := 1) hx hb dX5_command_126 (by decide) ?_
                refine m_calli (As := [.int 1]) (rest := []) X hml G hA (c_M_fail l dC dI cI cJ h ad _ σ 1) (cwV 1 hts gX5_command_X5_fail rfl rfl rfl (by decide +kernel) ⟨Nat.le_of_ble_eq_true rfl, Nat.le_of_ble_eq_true rfl⟩) rfl hl.1 rfl (Nat.le_of_ble_eq_true rfl) dX5_command_127 ⟨Nat.zero_le _, Nat.zero_le _⟩ (fun r_127 u_127 H locs hw_127 G => ?_)
                obtain ⟨rfl, rfl⟩ := hw_127
                exact m_zret X G hr hlocks rfl (by simp only [F_command, eq_true c_35, eq_false c_41, eq_false c_47, eq_false c_59, eq_true c_80, eq_false c_95, eq_true c_122, ↓reduceIte, si_self, sm_self, si_snd, sm_fst, si20_16, not_false_eq_true, not_true_eq_false, eq_self, scp_2, scp_3, scp_4]) dX5_command_130
        · have c_59 : (F_charAt σ ((σ.1 11) - 1) i0) = 91 := c_59
          refine lv_aload_n hx hb dX5_command_62 rfl (lv_at hl 3 rfl) ?_
          refine lv_iload_n hx hb dX5_command_63 rfl (lv_at hl 4 rfl) ?_
          refine m_calli (As := [.int i0]) (rest := []) X hml G hA (c_M_brackets l dC dI cI cJ h ad _ σ i0 hi0 (by omega) hl0 hl1 hs hd0 hd) (cwV 1 hts gX5_command_X5_brackets rfl rfl rfl (by decide +kernel) ⟨Nat.le_of_ble_eq_true rfl, Nat.le_of_ble_eq_true rfl⟩) rfl hl.1 rfl (Nat.le_of_ble_eq_true rfl) dX5_command_64 ⟨Nat.zero_le _, Nat.zero_le _⟩ (fun r_64 u_64 H locs hw_64 G => ?_)
          exact m_zret X G hr hlocks (nb (b_brackets hw_64)) (by simp only [F_command, eq_true c_35, eq_false c_41, eq_false c_47, eq_true c_59, hw_64, ↓reduceIte, si_self, sm_self, si_snd, sm_fst, si20_16, not_false_eq_true, not_true_eq_false, eq_self, scp_2, scp_3, scp_4]) dX5_command_67
      · have c_47 : (F_charAt σ ((σ.1 11) - 1) i0) = 46 := c_47
        refine lv_aload_n hx hb dX5_command_50 rfl (lv_at hl 3 rfl) ?_
        refine lv_iload_n hx hb dX5_command_51 rfl (lv_at hl 4 rfl) ?_
        refine m_calli (As := [.int i0]) (rest := []) X hml G hA (c_M_digits l dC dI cI cJ h ad _ σ i0 hi0 (by omega) hl0 hl1 hs hd0 hd) (cwV 1 hts gX5_command_X5_digits rfl rfl rfl (by decide +kernel) ⟨Nat.le_of_ble_eq_true rfl, Nat.le_of_ble_eq_true rfl⟩) rfl hl.1 rfl (Nat.le_of_ble_eq_true rfl) dX5_command_52 ⟨Nat.zero_le _, Nat.zero_le _⟩ (fun r_52 u_52 H locs hw_52 G => ?_)
        exact m_zret X G hr hlocks (nb (b_digits hw_52)) (by simp only [F_command, eq_true c_35, eq_false c_41, eq_true c_47, hw_52, ↓reduceIte, si_self, sm_self, si_snd, sm_fst, si20_16, not_false_eq_true, not_true_eq_false, eq_self, scp_2, scp_3, scp_4]) dX5_command_55
set_option maxHeartbeats 4000000 in
set_option maxRecDepth 100000 in
theorem c_M_printed (l : Launch) (dC : Nat → ClassId) (dI : Nat → Nat → Nat) (cI cJ : ClassId) (h : Nat) (ad : Nat → Nat) (sz : Nat) (σ : MS) (i0 : Int32) (hp0 : 0 ≤ (σ.1 14).toInt) (hp1 : (σ.1 14).toInt ≤ 40) : Met l yX5_printed wsX5_printed ({ frames := 1, cells := 0, slots := 0, locals := 25 } : Room) (va_Pc [.ref h, .int i0] (mPre dC dI cI cJ h ad sz σ)) (va_Ql (fun r u => F_printed σ i0 = (r, u)) (mAt dC dI cI cJ h ad (mA h ad cI cJ σ sz)) (mA h ad cI cJ σ sz)) 0 0 (mA h ad cI cJ σ sz) := by
  refine m_ofW (cc := cX5_printed) (maxL := 2) (ret := (some .long)) (by decide) rfl (by decide +kernel) rfl (Nat.le_of_ble_eq_true rfl) ?_
  intro p e s m below meth c X G hA hr hlocks hml ls hl
  have hl : lv_has ls 2 [(0, .ref h), (1, .int i0)] := hl
  have hx := X.1
  have hb := X.2.1
  have hts := X.2.2.1
  have hown := X.2.2.2.2.1
  refine lv_aload_n hx hb dX5_printed_0 rfl (lv_at hl 0 rfl) ?_
  refine lv_iconst (v := 0) hx hb dX5_printed_1 (by decide) ?_
  refine m_put_17 X G (by decide +kernel) dX5_printed_2 (fun H locs G => ?_)
  have G : mH dC dI h ad cI cJ (si σ 17 0) (mA h ad cI cJ σ sz) s.heap H locs := G
  refine lv_iload_n hx hb dX5_printed_5 rfl (lv_at hl 1 rfl) ?_
  refine lv_i2l hx hb dX5_printed_6 rfl ?_
  refine lv_lconst (v := 0) hx hb dX5_printed_7 (by decide) ?_
  refine lv_aload_n hx hb dX5_printed_8 rfl (lv_at hl 0 rfl) ?_
  refine m_get_14 X G (by decide +kernel) dX5_printed_9 ?_
  refine lv_iconst (v := 1) hx hb dX5_printed_12 (by decide) ?_
  refine lv_isub hx hb dX5_printed_13 ?_
  refine lv_i2l hx hb dX5_printed_14 rfl ?_
  refine W.callR (W.runS (As := [.long i0.toInt64, .long 0, .long (((σ.1 14) - 1).toInt64)]) (rest := []) ⟨hx, hb, hml, hown, hts⟩ (c_M_within l i0.toInt64 0 (((σ.1 14) - 1).toInt64)) (va_cwS 3 hts gX5_printed_X5_within rfl rfl rfl (by decide +kernel) ⟨Nat.le_of_ble_eq_true rfl, Nat.le_of_ble_eq_true rfl⟩) ⟨fun a U g mk q => q, fun U _ _ => ⟨rfl, trivial⟩⟩ rfl rfl hl.1 rfl (lv_room (Nat.le_of_ble_eq_true rfl)) dX5_printed_15 ⟨Nat.zero_le _, Nat.zero_le _⟩) ?_
  refine W.eq (g2 := F0 m 18 ls [.int (f_within i0.toInt64 0 (((σ.1 14) - 1).toInt64))]) rfl ?_
  refine lv_if_eq (tgt := 30) hx hb dX5_printed_18 (by decide) (fun c_18 => ?_) (fun c_18 => ?_)
  · have c_18 : (f_within i0.toInt64 0 (((σ.1 14) - 1).toInt64)) = 0 := c_18
    refine lv_lconst (v := 0) hx hb dX5_printed_30 (by decide) ?_
    exact m_lret (v := 0) X G hr hlocks (by simp only [F_printed, eq_true c_18, ↓reduceIte, si_self, sm_self, si_snd, sm_fst, si20_16, not_false_eq_true, not_true_eq_false, eq_self, scp_2, scp_3, scp_4]) dX5_printed_31
  · have c_18 : ¬ ((f_within i0.toInt64 0 (((σ.1 14) - 1).toInt64)) = 0) := c_18
    have h18 := win_ok c_18
    rw [i_subE (x := (σ.1 14).toInt) rfl (show (1 : Int32).toInt = 1 from rfl) (by omega) (by omega)] at h18
    refine lv_aload_n hx hb dX5_printed_21 rfl (lv_at hl 0 rfl) ?_
    refine m_get_12 X G (by decide +kernel) dX5_printed_22 ?_
    refine lv_iload_n hx hb dX5_printed_25 rfl (lv_at hl 1 rfl) ?_
    refine m_ld_12 X G (vin (rfl : i0.toInt = _) (by omega) (by omega)) dX5_printed_26 ?_
    refine lv_goto (tgt := 31) hx hb dX5_printed_27 (by decide) ?_
    exact m_lret (v := (σ.2.2.2 12 i0.toNatClampNeg)) X G hr hlocks (by simp only [F_printed, eq_false c_18, ↓reduceIte, si_self, sm_self, si_snd, sm_fst, si20_16, not_false_eq_true, not_true_eq_false, eq_self, scp_2, scp_3, scp_4]) dX5_printed_31
set_option maxHeartbeats 4000000 in
set_option maxRecDepth 100000 in
theorem c_M_places (l : Launch) (dC : Nat → ClassId) (dI : Nat → Nat → Nat) (cI cJ : ClassId) (h : Nat) (ad : Nat → Nat) (sz : Nat) (σ : MS) (i0 : Int32) (hp0 : 0 ≤ (σ.1 14).toInt) (hp1 : (σ.1 14).toInt ≤ 40) : Met l yX5_places wsX5_places ({ frames := 1, cells := 0, slots := 0, locals := 25 } : Room) (va_Pc [.ref h, .int i0] (mPre dC dI cI cJ h ad sz σ)) (va_Qi (fun r u => F_places σ i0 = (r, u)) (mAt dC dI cI cJ h ad (mA h ad cI cJ σ sz)) (mA h ad cI cJ σ sz)) 0 0 (mA h ad cI cJ σ sz) := by
  refine m_ofW (cc := cX5_places) (maxL := 2) (ret := (some .int)) (by decide) rfl (by decide +kernel) rfl (Nat.le_of_ble_eq_true rfl) ?_
  intro p e s m below meth c X G hA hr hlocks hml ls hl
  have hl : lv_has ls 2 [(0, .ref h), (1, .int i0)] := hl
  have hx := X.1
  have hb := X.2.1
  have hts := X.2.2.1
  have hown := X.2.2.2.2.1
  refine lv_aload_n hx hb dX5_places_0 rfl (lv_at hl 0 rfl) ?_
  refine lv_iconst (v := 0) hx hb dX5_places_1 (by decide) ?_
  refine m_put_17 X G (by decide +kernel) dX5_places_2 (fun H locs G => ?_)
  have G : mH dC dI h ad cI cJ (si σ 17 0) (mA h ad cI cJ σ sz) s.heap H locs := G
  refine lv_iload_n hx hb dX5_places_5 rfl (lv_at hl 1 rfl) ?_
  refine lv_i2l hx hb dX5_places_6 rfl ?_
  refine lv_lconst (v := 0) hx hb dX5_places_7 (by decide) ?_
  refine lv_aload_n hx hb dX5_places_8 rfl (lv_at hl 0 rfl) ?_
  refine m_get_14 X G (by decide +kernel) dX5_places_9 ?_
  refine lv_iconst (v := 1) hx hb dX5_places_12 (by decide) ?_
  refine lv_isub hx hb dX5_places_13 ?_
  refine lv_i2l hx hb dX5_places_14 rfl ?_
  refine W.callR (W.runS (As := [.long i0.toInt64, .long 0, .long (((σ.1 14) - 1).toInt64)]) (rest := []) ⟨hx, hb, hml, hown, hts⟩ (c_M_within l i0.toInt64 0 (((σ.1 14) - 1).toInt64)) (va_cwS 3 hts gX5_places_X5_within rfl rfl rfl (by decide +kernel) ⟨Nat.le_of_ble_eq_true rfl, Nat.le_of_ble_eq_true rfl⟩) ⟨fun a U g mk q => q, fun U _ _ => ⟨rfl, trivial⟩⟩ rfl rfl hl.1 rfl (lv_room (Nat.le_of_ble_eq_true rfl)) dX5_places_15 ⟨Nat.zero_le _, Nat.zero_le _⟩) ?_
  refine W.eq (g2 := F0 m 18 ls [.int (f_within i0.toInt64 0 (((σ.1 14) - 1).toInt64))]) rfl ?_
  refine lv_if_eq (tgt := 30) hx hb dX5_places_18 (by decide) (fun c_18 => ?_) (fun c_18 => ?_)
  · have c_18 : (f_within i0.toInt64 0 (((σ.1 14) - 1).toInt64)) = 0 := c_18
    refine lv_bipush (v := -2) hx hb dX5_places_30 (by decide) ?_
    exact m_iret (v := (-2)) X G hr hlocks (by simp only [F_places, eq_true c_18, ↓reduceIte, si_self, sm_self, si_snd, sm_fst, si20_16, not_false_eq_true, not_true_eq_false, eq_self, scp_2, scp_3, scp_4]) dX5_places_32
  · have c_18 : ¬ ((f_within i0.toInt64 0 (((σ.1 14) - 1).toInt64)) = 0) := c_18
    have h18 := win_ok c_18
    rw [i_subE (x := (σ.1 14).toInt) rfl (show (1 : Int32).toInt = 1 from rfl) (by omega) (by omega)] at h18
    refine lv_aload_n hx hb dX5_places_21 rfl (lv_at hl 0 rfl) ?_
    refine m_get_13 X G (by decide +kernel) dX5_places_22 ?_
    refine lv_iload_n hx hb dX5_places_25 rfl (lv_at hl 1 rfl) ?_
    refine m_ld_13 X G (vin (rfl : i0.toInt = _) (by omega) (by omega)) dX5_places_26 ?_
    refine lv_goto (tgt := 32) hx hb dX5_places_27 (by decide) ?_
    exact m_iret (v := (σ.2.2.1 13 i0.toNatClampNeg)) X G hr hlocks (by simp only [F_places, eq_false c_18, ↓reduceIte, si_self, sm_self, si_snd, sm_fst, si20_16, not_false_eq_true, not_true_eq_false, eq_self, scp_2, scp_3, scp_4]) dX5_places_32
set_option maxHeartbeats 4000000 in
set_option maxRecDepth 100000 in
theorem c_M_item (l : Launch) (dC : Nat → ClassId) (dI : Nat → Nat → Nat) (cI cJ : ClassId) (h : Nat) (ad : Nat → Nat) (sz : Nat) (σ : MS) (i0 : Int32) (hd0 : 0 ≤ (σ.1 5).toInt) (hd1 : (σ.1 5).toInt ≤ 40) : Met l yX5_item wsX5_item ({ frames := 1, cells := 0, slots := 0, locals := 25 } : Room) (va_Pc [.ref h, .int i0] (mPre dC dI cI cJ h ad sz σ)) (va_Ql (fun r u => F_item σ i0 = (r, u)) (mAt dC dI cI cJ h ad (mA h ad cI cJ σ sz)) (mA h ad cI cJ σ sz)) 0 0 (mA h ad cI cJ σ sz) := by
  refine m_ofW (cc := cX5_item) (maxL := 2) (ret := (some .long)) (by decide) rfl (by decide +kernel) rfl (Nat.le_of_ble_eq_true rfl) ?_
  intro p e s m below meth c X G hA hr hlocks hml ls hl
  have hl : lv_has ls 2 [(0, .ref h), (1, .int i0)] := hl
  have hx := X.1
  have hb := X.2.1
  have hts := X.2.2.1
  have hown := X.2.2.2.2.1
  refine lv_aload_n hx hb dX5_item_0 rfl (lv_at hl 0 rfl) ?_
  refine lv_iconst (v := 0) hx hb dX5_item_1 (by decide) ?_
  refine m_put_17 X G (by decide +kernel) dX5_item_2 (fun H locs G => ?_)
  have G : mH dC dI h ad cI cJ (si σ 17 0) (mA h ad cI cJ σ sz) s.heap H locs := G
  refine lv_iload_n hx hb dX5_item_5 rfl (lv_at hl 1 rfl) ?_
  refine lv_i2l hx hb dX5_item_6 rfl ?_
  refine lv_lconst (v := 0) hx hb dX5_item_7 (by decide) ?_
  refine lv_aload_n hx hb dX5_item_8 rfl (lv_at hl 0 rfl) ?_
  refine m_get_5 X G (by decide +kernel) dX5_item_9 ?_
  refine lv_iconst (v := 1) hx hb dX5_item_12 (by decide) ?_
  refine lv_isub hx hb dX5_item_13 ?_
  refine lv_i2l hx hb dX5_item_14 rfl ?_
  refine W.callR (W.runS (As := [.long i0.toInt64, .long 0, .long (((σ.1 5) - 1).toInt64)]) (rest := []) ⟨hx, hb, hml, hown, hts⟩ (c_M_within l i0.toInt64 0 (((σ.1 5) - 1).toInt64)) (va_cwS 3 hts gX5_item_X5_within rfl rfl rfl (by decide +kernel) ⟨Nat.le_of_ble_eq_true rfl, Nat.le_of_ble_eq_true rfl⟩) ⟨fun a U g mk q => q, fun U _ _ => ⟨rfl, trivial⟩⟩ rfl rfl hl.1 rfl (lv_room (Nat.le_of_ble_eq_true rfl)) dX5_item_15 ⟨Nat.zero_le _, Nat.zero_le _⟩) ?_
  refine W.eq (g2 := F0 m 18 ls [.int (f_within i0.toInt64 0 (((σ.1 5) - 1).toInt64))]) rfl ?_
  refine lv_if_eq (tgt := 37) hx hb dX5_item_18 (by decide) (fun c_18 => ?_) (fun c_18 => ?_)
  · have c_18 : (f_within i0.toInt64 0 (((σ.1 5) - 1).toInt64)) = 0 := c_18
    refine lv_lconst (v := 0) hx hb dX5_item_37 (by decide) ?_
    exact m_lret (v := 0) X G hr hlocks (by simp only [F_item, eq_true c_18, ↓reduceIte, si_self, sm_self, si_snd, sm_fst, si20_16, not_false_eq_true, not_true_eq_false, eq_self, scp_2, scp_3, scp_4]) dX5_item_38
  · have c_18 : ¬ ((f_within i0.toInt64 0 (((σ.1 5) - 1).toInt64)) = 0) := c_18
    have h18 := win_ok c_18
    rw [i_subE (x := (σ.1 5).toInt) rfl (show (1 : Int32).toInt = 1 from rfl) (by omega) (by omega)] at h18
    refine lv_aload_n hx hb dX5_item_21 rfl (lv_at hl 0 rfl) ?_
    refine m_get_2 X G (by decide +kernel) dX5_item_22 ?_
    refine lv_aload_n hx hb dX5_item_25 rfl (lv_at hl 0 rfl) ?_
    refine m_get_5 X G (by decide +kernel) dX5_item_26 ?_
    refine lv_iconst (v := 1) hx hb dX5_item_29 (by decide) ?_
    refine lv_isub hx hb dX5_item_30 ?_
    refine lv_iload_n hx hb dX5_item_31 rfl (lv_at hl 1 rfl) ?_
    refine lv_isub hx hb dX5_item_32 ?_
    refine m_ld_2 X G (vin (i_subE (i_subE (rfl : (σ.1 5).toInt = _) (show (1 : Int32).toInt = 1 from rfl) (by omega) (by omega)) (rfl : i0.toInt = _) (by omega) (by omega)) (by omega) (by omega)) dX5_item_33 ?_
    refine lv_goto (tgt := 38) hx hb dX5_item_34 (by decide) ?_
    exact m_lret (v := (σ.2.2.2 2 (((σ.1 5) - 1) - i0).toNatClampNeg)) X G hr hlocks (by simp only [F_item, eq_false c_18, ↓reduceIte, si_self, sm_self, si_snd, sm_fst, si20_16, not_false_eq_true, not_true_eq_false, eq_self, scp_2, scp_3, scp_4]) dX5_item_38
set_option maxHeartbeats 4000000 in
set_option maxRecDepth 100000 in
theorem c_M_scale (l : Launch) (dC : Nat → ClassId) (dI : Nat → Nat → Nat) (cI cJ : ClassId) (h : Nat) (ad : Nat → Nat) (sz : Nat) (σ : MS) (i0 : Int32) (hd0 : 0 ≤ (σ.1 5).toInt) (hd1 : (σ.1 5).toInt ≤ 40) : Met l yX5_scale wsX5_scale ({ frames := 1, cells := 0, slots := 0, locals := 25 } : Room) (va_Pc [.ref h, .int i0] (mPre dC dI cI cJ h ad sz σ)) (va_Qi (fun r u => F_scale σ i0 = (r, u)) (mAt dC dI cI cJ h ad (mA h ad cI cJ σ sz)) (mA h ad cI cJ σ sz)) 0 0 (mA h ad cI cJ σ sz) := by
  refine m_ofW (cc := cX5_scale) (maxL := 2) (ret := (some .int)) (by decide) rfl (by decide +kernel) rfl (Nat.le_of_ble_eq_true rfl) ?_
  intro p e s m below meth c X G hA hr hlocks hml ls hl
  have hl : lv_has ls 2 [(0, .ref h), (1, .int i0)] := hl
  have hx := X.1
  have hb := X.2.1
  have hts := X.2.2.1
  have hown := X.2.2.2.2.1
  refine lv_aload_n hx hb dX5_scale_0 rfl (lv_at hl 0 rfl) ?_
  refine lv_iconst (v := 0) hx hb dX5_scale_1 (by decide) ?_
  refine m_put_17 X G (by decide +kernel) dX5_scale_2 (fun H locs G => ?_)
  have G : mH dC dI h ad cI cJ (si σ 17 0) (mA h ad cI cJ σ sz) s.heap H locs := G
  refine lv_iload_n hx hb dX5_scale_5 rfl (lv_at hl 1 rfl) ?_
  refine lv_i2l hx hb dX5_scale_6 rfl ?_
  refine lv_lconst (v := 0) hx hb dX5_scale_7 (by decide) ?_
  refine lv_aload_n hx hb dX5_scale_8 rfl (lv_at hl 0 rfl) ?_
  refine m_get_5 X G (by decide +kernel) dX5_scale_9 ?_
  refine lv_iconst (v := 1) hx hb dX5_scale_12 (by decide) ?_
  refine lv_isub hx hb dX5_scale_13 ?_
  refine lv_i2l hx hb dX5_scale_14 rfl ?_
  refine W.callR (W.runS (As := [.long i0.toInt64, .long 0, .long (((σ.1 5) - 1).toInt64)]) (rest := []) ⟨hx, hb, hml, hown, hts⟩ (c_M_within l i0.toInt64 0 (((σ.1 5) - 1).toInt64)) (va_cwS 3 hts gX5_scale_X5_within rfl rfl rfl (by decide +kernel) ⟨Nat.le_of_ble_eq_true rfl, Nat.le_of_ble_eq_true rfl⟩) ⟨fun a U g mk q => q, fun U _ _ => ⟨rfl, trivial⟩⟩ rfl rfl hl.1 rfl (lv_room (Nat.le_of_ble_eq_true rfl)) dX5_scale_15 ⟨Nat.zero_le _, Nat.zero_le _⟩) ?_
  refine W.eq (g2 := F0 m 18 ls [.int (f_within i0.toInt64 0 (((σ.1 5) - 1).toInt64))]) rfl ?_
  refine lv_if_eq (tgt := 37) hx hb dX5_scale_18 (by decide) (fun c_18 => ?_) (fun c_18 => ?_)
  · have c_18 : (f_within i0.toInt64 0 (((σ.1 5) - 1).toInt64)) = 0 := c_18
    refine lv_bipush (v := -2) hx hb dX5_scale_37 (by decide) ?_
    exact m_iret (v := (-2)) X G hr hlocks (by simp only [F_scale, eq_true c_18, ↓reduceIte, si_self, sm_self, si_snd, sm_fst, si20_16, not_false_eq_true, not_true_eq_false, eq_self, scp_2, scp_3, scp_4]) dX5_scale_39
  · have c_18 : ¬ ((f_within i0.toInt64 0 (((σ.1 5) - 1).toInt64)) = 0) := c_18
    have h18 := win_ok c_18
    rw [i_subE (x := (σ.1 5).toInt) rfl (show (1 : Int32).toInt = 1 from rfl) (by omega) (by omega)] at h18
    refine lv_aload_n hx hb dX5_scale_21 rfl (lv_at hl 0 rfl) ?_
    refine m_get_3 X G (by decide +kernel) dX5_scale_22 ?_
    refine lv_aload_n hx hb dX5_scale_25 rfl (lv_at hl 0 rfl) ?_
    refine m_get_5 X G (by decide +kernel) dX5_scale_26 ?_
    refine lv_iconst (v := 1) hx hb dX5_scale_29 (by decide) ?_
    refine lv_isub hx hb dX5_scale_30 ?_
    refine lv_iload_n hx hb dX5_scale_31 rfl (lv_at hl 1 rfl) ?_
    refine lv_isub hx hb dX5_scale_32 ?_
    refine m_ld_3 X G (vin (i_subE (i_subE (rfl : (σ.1 5).toInt = _) (show (1 : Int32).toInt = 1 from rfl) (by omega) (by omega)) (rfl : i0.toInt = _) (by omega) (by omega)) (by omega) (by omega)) dX5_scale_33 ?_
    refine lv_goto (tgt := 39) hx hb dX5_scale_34 (by decide) ?_
    exact m_iret (v := (σ.2.2.1 3 (((σ.1 5) - 1) - i0).toNatClampNeg)) X G hr hlocks (by simp only [F_scale, eq_false c_18, ↓reduceIte, si_self, sm_self, si_snd, sm_fst, si20_16, not_false_eq_true, not_true_eq_false, eq_self, scp_2, scp_3, scp_4]) dX5_scale_39
set_option maxHeartbeats 4000000 in
set_option maxRecDepth 100000 in
theorem c_M_held (l : Launch) (dC : Nat → ClassId) (dI : Nat → Nat → Nat) (cI cJ : ClassId) (h : Nat) (ad : Nat → Nat) (sz : Nat) (σ : MS) (r0 : Int32) : Met l yX5_held wsX5_held ({ frames := 1, cells := 0, slots := 0, locals := 25 } : Room) (va_Pc [.ref h, .int r0] (mPre dC dI cI cJ h ad sz σ)) (va_Qi (fun r u => F_held σ r0 = (r, u)) (mAt dC dI cI cJ h ad (mA h ad cI cJ σ sz)) (mA h ad cI cJ σ sz)) 0 0 (mA h ad cI cJ σ sz) := by
  refine m_ofW (cc := cX5_held) (maxL := 2) (ret := (some .int)) (by decide) rfl (by decide +kernel) rfl (Nat.le_of_ble_eq_true rfl) ?_
  intro p e s m below meth c X G hA hr hlocks hml ls hl
  have hl : lv_has ls 2 [(0, .ref h), (1, .int r0)] := hl
  have hx := X.1
  have hb := X.2.1
  have hts := X.2.2.1
  have hown := X.2.2.2.2.1
  refine lv_aload_n hx hb dX5_held_0 rfl (lv_at hl 0 rfl) ?_
  refine lv_iconst (v := 0) hx hb dX5_held_1 (by decide) ?_
  refine m_put_17 X G (by decide +kernel) dX5_held_2 (fun H locs G => ?_)
  have G : mH dC dI h ad cI cJ (si σ 17 0) (mA h ad cI cJ σ sz) s.heap H locs := G
  refine lv_iload_n hx hb dX5_held_5 rfl (lv_at hl 1 rfl) ?_
  refine lv_i2l hx hb dX5_held_6 rfl ?_
  refine lv_lconst (v := 0) hx hb dX5_held_7 (by decide) ?_
  refine lv_ldc2 (v := 3) hx hb hown (hts (.constantLong RX5 222 (3)) (by decide +kernel)) dX5_held_8 ?_
  refine W.callR (W.runS (As := [.long r0.toInt64, .long 0, .long 3]) (rest := []) ⟨hx, hb, hml, hown, hts⟩ (c_M_within l r0.toInt64 0 3) (va_cwS 3 hts gX5_held_X5_within rfl rfl rfl (by decide +kernel) ⟨Nat.le_of_ble_eq_true rfl, Nat.le_of_ble_eq_true rfl⟩) ⟨fun a U g mk q => q, fun U _ _ => ⟨rfl, trivial⟩⟩ rfl rfl hl.1 rfl (lv_room (Nat.le_of_ble_eq_true rfl)) dX5_held_11 ⟨Nat.zero_le _, Nat.zero_le _⟩) ?_
  refine W.eq (g2 := F0 m 14 ls [.int (f_within r0.toInt64 0 3)]) rfl ?_
  refine lv_if_eq (tgt := 26) hx hb dX5_held_14 (by decide) (fun c_14 => ?_) (fun c_14 => ?_)
  · have c_14 : (f_within r0.toInt64 0 3) = 0 := c_14
    refine lv_iconst (v := -1) hx hb dX5_held_26 (by decide) ?_
    exact m_iret (v := (-1)) X G hr hlocks (by simp only [F_held, eq_true c_14, ↓reduceIte, si_self, sm_self, si_snd, sm_fst, si20_16, not_false_eq_true, not_true_eq_false, eq_self, scp_2, scp_3, scp_4]) dX5_held_27
  · have c_14 : ¬ ((f_within r0.toInt64 0 3) = 0) := c_14
    have h14 := win_ok3 c_14
    refine lv_aload_n hx hb dX5_held_17 rfl (lv_at hl 0 rfl) ?_
    refine m_get_7 X G (by decide +kernel) dX5_held_18 ?_
    refine lv_iload_n hx hb dX5_held_21 rfl (lv_at hl 1 rfl) ?_
    refine m_ld_7 X G (vin (rfl : r0.toInt = _) (by omega) (by omega)) dX5_held_22 ?_
    refine lv_goto (tgt := 27) hx hb dX5_held_23 (by decide) ?_
    exact m_iret (v := (σ.2.2.1 7 r0.toNatClampNeg)) X G hr hlocks (by simp only [F_held, eq_false c_14, ↓reduceIte, si_self, sm_self, si_snd, sm_fst, si20_16, not_false_eq_true, not_true_eq_false, eq_self, scp_2, scp_3, scp_4]) dX5_held_27
set_option maxHeartbeats 4000000 in
set_option maxRecDepth 100000 in
theorem c_M_reset_L22 {p : Program} (l : Launch) {e : Env} {s : State} {m : MethodId} {below : List Frame} {meth : Method} {c : Code} {dC : Nat → ClassId} {dI : Nat → Nat → Nat} {cI cJ : ClassId} {h : Nat} {ad : Nat → Nat} {sz : Nat} (σ : MS) (X : mX p s m ([.ref h] : List Value).toArray c cX5_reset wsX5_reset dC dI cI cJ) (hA : ∀ q : Nat, s.heap.size ≤ q → mA h ad cI cJ σ sz q) (hr : meth.sig.returnType = none) (hlocks : meth.locks = false) (hml : c.maxLocals = 2) :
    ∀ (fu : Nat) (k1 : Int32) (τ : MS), F_reset σ = F_reset_L22 fu k1 τ → (0 ≤ k1.toInt) → (((4 : Int32).toInt - k1.toInt).toNat < fu) → ∀ (H : Heap) (locs : List Loc), mH dC dI h ad cI cJ τ (mA h ad cI cJ σ sz) s.heap H locs → ∀ ls : Array Slot, lv_has ls 2 [(0, .ref h), (1, .int k1)] → W p l e ({ frames := 0, cells := 0, slots := 0, locals := 0 } : Room) s m ([.ref h] : List Value).toArray below meth c H locs 0 0 (MQ below (va_Qv (fun u => F_reset σ = u) (mAt dC dI cI cJ h ad (mA h ad cI cJ σ sz)) (mA h ad cI cJ σ sz)) ([.ref h] : List Value).toArray s 0 0 (mA h ad cI cJ σ sz)) (F0 m 22 ls []) := by
  have hx := X.1
  have hb := X.2.1
  have hts := X.2.2.1
  have hown := X.2.2.2.2.1
  intro fu
  induction fu with
  | zero =>
    intro k1 τ hI hk hm
    exact absurd hm (Nat.not_lt_zero _)
  | succ fu ih =>
    intro k1 τ hI hk hm H locs G ls hl
    have z4 : (4 : Int32).toInt = 4 := rfl
    refine lv_iload_n hx hb dX5_reset_22 rfl (lv_at hl 1 rfl) ?_
    refine lv_iconst (v := 4) hx hb dX5_reset_23 (by decide) ?_
    refine lv_icmp_ge (tgt := 40) hx hb dX5_reset_24 (by decide) (fun c_24 => ?_) (fun c_24 => ?_)
    · have c_24 : 4 ≤ k1 := c_24
      exact m_vret X G hr hlocks (by rw [hI]; simp only [F_reset_L22, eq_true c_24, ↓reduceIte, si_self, sm_self, si_snd, sm_fst, si20_16, not_false_eq_true, not_true_eq_false, eq_self, scp_2, scp_3, scp_4]) dX5_reset_40
    · have c_24 : ¬ (4 ≤ k1) := c_24
      have h24 := i_nle c_24
      refine lv_aload_n hx hb dX5_reset_27 rfl (lv_at hl 0 rfl) ?_
      refine m_get_7 X G (by decide +kernel) dX5_reset_28 ?_
      refine lv_iload_n hx hb dX5_reset_31 rfl (lv_at hl 1 rfl) ?_
      refine lv_iconst (v := 0) hx hb dX5_reset_32 (by decide) ?_
      refine m_st_7 X G (vin (rfl : k1.toInt = _) (by omega) (by omega)) dX5_reset_33 (fun H locs G => ?_)
      have G : mH dC dI h ad cI cJ (sa τ 7 k1.toNatClampNeg 0) (mA h ad cI cJ σ sz) s.heap H locs := G
      refine lv_iinc (v := (k1 + 1)) (lv' := [(1, .int (k1 + 1)), (0, .ref h)]) hx hb dX5_reset_34 hl (k := 1) rfl rfl (by decide) rfl (fun ls hl => ?_)
      refine lv_goto (tgt := 22) hx hb dX5_reset_37 (by decide) ?_
      exact ih (k1 + 1) (sa τ 7 k1.toNatClampNeg 0) (by rw [hI]; simp only [F_reset_L22, eq_false c_24, ↓reduceIte, si_self, sm_self, si_snd, sm_fst, si20_16, not_false_eq_true, not_true_eq_false, eq_self, scp_2, scp_3, scp_4]) (by rw [i_inc c_24]; omega) (mu_inc hm c_24) H locs G ls (lv_sub hl [1, 0] rfl)
set_option maxHeartbeats 4000000 in
set_option maxRecDepth 100000 in
theorem c_M_reset (l : Launch) (dC : Nat → ClassId) (dI : Nat → Nat → Nat) (cI cJ : ClassId) (h : Nat) (ad : Nat → Nat) (sz : Nat) (σ : MS) : Met l yX5_reset wsX5_reset ({ frames := 0, cells := 0, slots := 0, locals := 0 } : Room) (va_Pc [.ref h] (mPre dC dI cI cJ h ad sz σ)) (va_Qv (fun u => F_reset σ = u) (mAt dC dI cI cJ h ad (mA h ad cI cJ σ sz)) (mA h ad cI cJ σ sz)) 0 0 (mA h ad cI cJ σ sz) := by
  refine m_ofW (cc := cX5_reset) (maxL := 2) (ret := none) (by decide) rfl (by decide +kernel) rfl (Nat.le_of_ble_eq_true rfl) ?_
  intro p e s m below meth c X G hA hr hlocks hml ls hl
  have hl : lv_has ls 2 [(0, .ref h)] := hl
  have hx := X.1
  have hb := X.2.1
  have hts := X.2.2.1
  have hown := X.2.2.2.2.1
  refine lv_aload_n hx hb dX5_reset_0 rfl (lv_at hl 0 rfl) ?_
  refine lv_iconst (v := 0) hx hb dX5_reset_1 (by decide) ?_
  refine m_put_17 X G (by decide +kernel) dX5_reset_2 (fun H locs G => ?_)
  have G : mH dC dI h ad cI cJ (si σ 17 0) (mA h ad cI cJ σ sz) s.heap H locs := G
  refine lv_aload_n hx hb dX5_reset_5 rfl (lv_at hl 0 rfl) ?_
  refine lv_iconst (v := 0) hx hb dX5_reset_6 (by decide) ?_
  refine m_put_5 X G (by decide +kernel) dX5_reset_7 (fun H locs G => ?_)
  have G : mH dC dI h ad cI cJ (si (si σ 17 0) 5 0) (mA h ad cI cJ σ sz) s.heap H locs := G
  refine lv_aload_n hx hb dX5_reset_10 rfl (lv_at hl 0 rfl) ?_
  refine lv_iconst (v := 0) hx hb dX5_reset_11 (by decide) ?_
  refine m_put_6 X G (by decide +kernel) dX5_reset_12 (fun H locs G => ?_)
  have G : mH dC dI h ad cI cJ (si (si (si σ 17 0) 5 0) 6 0) (mA h ad cI cJ σ sz) s.heap H locs := G
  refine lv_aload_n hx hb dX5_reset_15 rfl (lv_at hl 0 rfl) ?_
  refine lv_iconst (v := 0) hx hb dX5_reset_16 (by decide) ?_
  refine m_put_14 X G (by decide +kernel) dX5_reset_17 (fun H locs G => ?_)
  have G : mH dC dI h ad cI cJ (si (si (si (si σ 17 0) 5 0) 6 0) 14 0) (mA h ad cI cJ σ sz) s.heap H locs := G
  refine lv_iconst (v := 0) hx hb dX5_reset_20 (by decide) ?_
  refine lv_istore_n (lv' := [(1, .int 0), (0, .ref h)]) hx hb dX5_reset_21 rfl hl (by decide) rfl (fun ls hl => ?_)
  exact c_M_reset_L22 l σ X hA hr hlocks hml 5 0 (si (si (si (si σ 17 0) 5 0) 6 0) 14 0) (by simp only [F_reset, ↓reduceIte, si_self, sm_self, si_snd, sm_fst, si20_16, not_false_eq_true, not_true_eq_false, eq_self, scp_2, scp_3, scp_4]) (by decide) (by decide) _ _ G ls (lv_sub hl [1, 0] rfl)
set_option maxHeartbeats 4000000 in
set_option maxRecDepth 100000 in
theorem c_M_write_L74 {p : Program} (l : Launch) {e : Env} {s : State} {m : MethodId} {below : List Frame} {meth : Method} {c : Code} {dC : Nat → ClassId} {dI : Nat → Nat → Nat} {cI cJ : ClassId} {h : Nat} {ad : Nat → Nat} {sz : Nat} (σ : MS) (x0 : Int64) (hq0 : 0 ≤ (σ.1 1).toInt) (hq1 : (σ.1 1).toInt ≤ 160) (X : mX p s m ([.ref h, .long x0] : List Value).toArray c cX5_write wsX5_write dC dI cI cJ) (hA : ∀ q : Nat, s.heap.size ≤ q → mA h ad cI cJ σ sz q) (hr : meth.sig.returnType = (some .int)) (hlocks : meth.locks = false) (hml : c.maxLocals = 6) :
    ∀ (fu : Nat) (n1 : Int32) (k1 : Int32) (τ : MS), F_write σ x0 = F_write_L74 x0 fu n1 k1 τ → (0 ≤ k1.toInt) → (n1.toInt ≤ 8) → (0 ≤ (τ.1 1).toInt) → ((τ.1 1).toInt + n1.toInt ≤ 160) → ((n1.toInt - k1.toInt).toNat < fu) → ∀ (H : Heap) (locs : List Loc), mH dC dI h ad cI cJ τ (mA h ad cI cJ σ sz) s.heap H locs → ∀ ls : Array Slot, lv_has ls 6 [(0, .ref h), (1, .long x0), (3, .int n1), (4, .int k1)] → W p l e ({ frames := 0, cells := 0, slots := 0, locals := 0 } : Room) s m ([.ref h, .long x0] : List Value).toArray below meth c H locs 0 0 (MQ below (va_Qi (fun r u => F_write σ x0 = (r, u)) (mAt dC dI cI cJ h ad (mA h ad cI cJ σ sz)) (mA h ad cI cJ σ sz)) ([.ref h, .long x0] : List Value).toArray s 0 0 (mA h ad cI cJ σ sz)) (F0 m 74 ls []) := by
  have hx := X.1
  have hb := X.2.1
  have hts := X.2.2.1
  have hown := X.2.2.2.2.1
  intro fu
  induction fu with
  | zero =>
    intro n1 k1 τ hI hk hn1 hq2 hq3 hm
    exact absurd hm (Nat.not_lt_zero _)
  | succ fu ih =>
    intro n1 k1 τ hI hk hn1 hq2 hq3 hm H locs G ls hl
    have z160 : (160 : Int32).toInt = 160 := rfl
    refine lv_iload hx hb dX5_write_74 (lv_at hl 3 rfl) ?_
    refine lv_iload_n hx hb dX5_write_76 rfl (lv_at hl 2 rfl) ?_
    refine lv_icmp_ge (tgt := 109) hx hb dX5_write_77 (by decide) (fun c_77 => ?_) (fun c_77 => ?_)
    · have c_77 : n1 ≤ k1 := c_77
      refine lv_aload_n hx hb dX5_write_109 rfl (lv_at hl 0 rfl) ?_
      refine lv_dup hx hb dX5_write_110 rfl ?_
      refine m_get_1 X G (by decide +kernel) dX5_write_111 ?_
      refine lv_iload_n hx hb dX5_write_114 rfl (lv_at hl 2 rfl) ?_
      refine lv_iadd hx hb dX5_write_115 ?_
      refine m_put_1 X G (by decide +kernel) dX5_write_116 (fun H locs G => ?_)
      have G : mH dC dI h ad cI cJ (si τ 1 ((τ.1 1) + n1)) (mA h ad cI cJ σ sz) s.heap H locs := G
      refine lv_iload_n hx hb dX5_write_119 rfl (lv_at hl 2 rfl) ?_
      exact m_iret (v := n1) X G hr hlocks (by rw [hI]; simp only [F_write_L74, eq_true c_77, ↓reduceIte, si_self, sm_self, si_snd, sm_fst, si20_16, not_false_eq_true, not_true_eq_false, eq_self, scp_2, scp_3, scp_4]) dX5_write_120
    · have c_77 : ¬ (n1 ≤ k1) := c_77
      have h77 := i_nle c_77
      refine lv_aload_n hx hb dX5_write_80 rfl (lv_at hl 0 rfl) ?_
      refine m_get_0 X G (by decide +kernel) dX5_write_81 ?_
      refine lv_aload_n hx hb dX5_write_84 rfl (lv_at hl 0 rfl) ?_
      refine m_get_1 X G (by decide +kernel) dX5_write_85 ?_
      refine lv_iload hx hb dX5_write_88 (lv_at hl 3 rfl) ?_
      refine lv_iadd hx hb dX5_write_90 ?_
      refine lv_lload_n hx hb dX5_write_91 rfl (lv_at hl 1 rfl) ?_
      refine lv_bipush (v := 8) hx hb dX5_write_92 (by decide) ?_
      refine lv_iload hx hb dX5_write_94 (lv_at hl 3 rfl) ?_
      refine lv_imul hx hb dX5_write_96 ?_
      refine lv_lshr hx hb dX5_write_97 rfl ?_
      refine lv_l2i hx hb dX5_write_98 rfl ?_
      refine lv_bipush (v := 127) hx hb dX5_write_99 (by decide) ?_
      refine lv_iand hx hb dX5_write_101 ?_
      refine m_st_0 X G (vin (i_addE (rfl : (τ.1 1).toInt = _) (rfl : k1.toInt = _) (by omega) (by omega)) (by omega) (by omega)) dX5_write_102 (fun H locs G => ?_)
      have G : mH dC dI h ad cI cJ (sa τ 0 ((τ.1 1) + k1).toNatClampNeg (((x0 >>> ((8 * k1).toInt64 &&& 63)).toInt32) &&& 127)) (mA h ad cI cJ σ sz) s.heap H locs := G
      refine lv_iinc (v := (k1 + 1)) (lv' := [(4, .int (k1 + 1)), (0, .ref h), (1, .long x0), (3, .int n1)]) hx hb dX5_write_103 hl (k := 3) rfl rfl (by decide) rfl (fun ls hl => ?_)
      refine lv_goto (tgt := 74) hx hb dX5_write_106 (by decide) ?_
      exact ih n1 (k1 + 1) (sa τ 0 ((τ.1 1) + k1).toNatClampNeg (((x0 >>> ((8 * k1).toInt64 &&& 63)).toInt32) &&& 127)) (by rw [hI]; simp only [F_write_L74, eq_false c_77, ↓reduceIte, si_self, sm_self, si_snd, sm_fst, si20_16, not_false_eq_true, not_true_eq_false, eq_self, scp_2, scp_3, scp_4]) (by rw [i_inc c_77]; omega) hn1 hq2 hq3 (mu_inc hm c_77) H locs G ls (lv_sub hl [1, 2, 3, 0] rfl)
set_option maxHeartbeats 4000000 in
set_option maxRecDepth 100000 in
theorem c_M_write_L10 {p : Program} (l : Launch) {e : Env} {s : State} {m : MethodId} {below : List Frame} {meth : Method} {c : Code} {dC : Nat → ClassId} {dI : Nat → Nat → Nat} {cI cJ : ClassId} {h : Nat} {ad : Nat → Nat} {sz : Nat} (σ : MS) (x0 : Int64) (hq0 : 0 ≤ (σ.1 1).toInt) (hq1 : (σ.1 1).toInt ≤ 160) (X : mX p s m ([.ref h, .long x0] : List Value).toArray c cX5_write wsX5_write dC dI cI cJ) (hA : ∀ q : Nat, s.heap.size ≤ q → mA h ad cI cJ σ sz q) (hr : meth.sig.returnType = (some .int)) (hlocks : meth.locks = false) (hml : c.maxLocals = 6) :
    ∀ (fu : Nat) (n1 : Int32) (k1 : Int32) (τ : MS), F_write σ x0 = F_write_L10 x0 fu n1 k1 τ → (0 ≤ k1.toInt) → (k1.toInt ≤ 8) → (n1.toInt = k1.toInt) → (0 ≤ (τ.1 1).toInt) → ((τ.1 1).toInt ≤ 160) → (((8 : Int32).toInt - k1.toInt).toNat < fu) → ∀ (H : Heap) (locs : List Loc), mH dC dI h ad cI cJ τ (mA h ad cI cJ σ sz) s.heap H locs → ∀ ls : Array Slot, lv_has ls 6 [(0, .ref h), (1, .long x0), (3, .int n1), (4, .int k1)] → W p l e ({ frames := 0, cells := 0, slots := 0, locals := 0 } : Room) s m ([.ref h, .long x0] : List Value).toArray below meth c H locs 0 0 (MQ below (va_Qi (fun r u => F_write σ x0 = (r, u)) (mAt dC dI cI cJ h ad (mA h ad cI cJ σ sz)) (mA h ad cI cJ σ sz)) ([.ref h, .long x0] : List Value).toArray s 0 0 (mA h ad cI cJ σ sz)) (F0 m 10 ls []) := by
  have hx := X.1
  have hb := X.2.1
  have hts := X.2.2.1
  have hown := X.2.2.2.2.1
  intro fu
  induction fu with
  | zero =>
    intro n1 k1 τ hI hk hk1 hn hq2 hq3 hm
    exact absurd hm (Nat.not_lt_zero _)
  | succ fu ih =>
    intro n1 k1 τ hI hk hk1 hn hq2 hq3 hm H locs G ls hl
    have z8 : (8 : Int32).toInt = 8 := rfl
    have z160 : (160 : Int32).toInt = 160 := rfl
    refine lv_iload hx hb dX5_write_10 (lv_at hl 3 rfl) ?_
    refine lv_bipush (v := 8) hx hb dX5_write_12 (by decide) ?_
    refine lv_icmp_ge (tgt := 57) hx hb dX5_write_14 (by decide) (fun c_14 => ?_) (fun c_14 => ?_)
    · have c_14 : 8 ≤ k1 := c_14
      refine lv_aload_n hx hb dX5_write_57 rfl (lv_at hl 0 rfl) ?_
      refine m_get_1 X G (by decide +kernel) dX5_write_58 ?_
      refine lv_iload_n hx hb dX5_write_61 rfl (lv_at hl 2 rfl) ?_
      refine lv_iadd hx hb dX5_write_62 ?_
      refine lv_sipush (v := 160) hx hb dX5_write_63 (by decide) ?_
      refine lv_icmp_le (tgt := 71) hx hb dX5_write_66 (by decide) (fun c_66 => ?_) (fun c_66 => ?_)
      · have c_66 : ((τ.1 1) + n1) ≤ 160 := c_66
        have h66 := i_le c_66
        rw [i_addE (x := (τ.1 1).toInt) (y := n1.toInt) rfl rfl (by omega) (by omega)] at h66
        refine lv_iconst (v := 0) hx hb dX5_write_71 (by decide) ?_
        refine lv_istore (lv' := [(4, .int 0), (0, .ref h), (1, .long x0), (3, .int n1)]) hx hb dX5_write_72 hl (by decide) rfl (fun ls hl => ?_)
        exact c_M_write_L74 l σ x0 hq0 hq1 X hA hr hlocks hml 9 n1 0 τ (by rw [hI]; simp only [F_write_L10, eq_true c_14, eq_true c_66, ↓reduceIte, si_self, sm_self, si_snd, sm_fst, si20_16, not_false_eq_true, not_true_eq_false, eq_self, scp_2, scp_3, scp_4]) (by decide) (by omega) hq2 (by omega) (by have z0 : (0 : Int32).toInt = 0 := rfl; omega) _ _ G ls (lv_sub hl [1, 2, 3, 0] rfl)
      · have c_66 : ¬ (((τ.1 1) + n1) ≤ 160) := c_66
        refine lv_iconst (v := -1) hx hb dX5_write_69 (by decide) ?_
        exact m_iret (v := (-1)) X G hr hlocks (by rw [hI]; simp only [F_write_L10, eq_true c_14, eq_false c_66, ↓reduceIte, si_self, sm_self, si_snd, sm_fst, si20_16, not_false_eq_true, not_true_eq_false, eq_self, scp_2, scp_3, scp_4]) dX5_write_70
    · have c_14 : ¬ (8 ≤ k1) := c_14
      have h14 := i_nle c_14
      refine lv_lload_n hx hb dX5_write_17 rfl (lv_at hl 1 rfl) ?_
      refine lv_bipush (v := 8) hx hb dX5_write_18 (by decide) ?_
      refine lv_iload hx hb dX5_write_20 (lv_at hl 3 rfl) ?_
      refine lv_imul hx hb dX5_write_22 ?_
      refine lv_lshr hx hb dX5_write_23 rfl ?_
      refine lv_l2i hx hb dX5_write_24 rfl ?_
      refine lv_sipush (v := 255) hx hb dX5_write_25 (by decide) ?_
      refine lv_iand hx hb dX5_write_28 ?_
      refine lv_istore (lv' := [(5, .int (((x0 >>> ((8 * k1).toInt64 &&& 63)).toInt32) &&& 255)), (0, .ref h), (1, .long x0), (3, .int n1), (4, .int k1)]) hx hb dX5_write_29 hl (by decide) rfl (fun ls hl => ?_)
      refine lv_iload hx hb dX5_write_31 (lv_at hl 0 rfl) ?_
      refine lv_if_ne (tgt := 39) hx hb dX5_write_33 (by decide) (fun c_33 => ?_) (fun c_33 => ?_)
      · have c_33 : ¬ ((((x0 >>> ((8 * k1).toInt64 &&& 63)).toInt32) &&& 255) = 0) := c_33
        refine lv_iload hx hb dX5_write_39 (lv_at hl 0 rfl) ?_
        refine lv_bipush (v := 127) hx hb dX5_write_41 (by decide) ?_
        refine lv_icmp_le (tgt := 48) hx hb dX5_write_43 (by decide) (fun c_43 => ?_) (fun c_43 => ?_)
        · have c_43 : (((x0 >>> ((8 * k1).toInt64 &&& 63)).toInt32) &&& 255) ≤ 127 := c_43
          refine lv_iinc (v := (n1 + 1)) (lv' := [(3, .int (n1 + 1)), (5, .int (((x0 >>> ((8 * k1).toInt64 &&& 63)).toInt32) &&& 255)), (0, .ref h), (1, .long x0), (4, .int k1)]) hx hb dX5_write_48 hl (k := 3) rfl rfl (by decide) rfl (fun ls hl => ?_)
          refine lv_iinc (v := (k1 + 1)) (lv' := [(4, .int (k1 + 1)), (3, .int (n1 + 1)), (5, .int (((x0 >>> ((8 * k1).toInt64 &&& 63)).toInt32) &&& 255)), (0, .ref h), (1, .long x0)]) hx hb dX5_write_51 hl (k := 4) rfl rfl (by decide) rfl (fun ls hl => ?_)
          refine lv_goto (tgt := 10) hx hb dX5_write_54 (by decide) ?_
          exact ih (n1 + 1) (k1 + 1) τ (by rw [hI]; simp only [F_write_L10, eq_false c_14, eq_false c_33, eq_true c_43, ↓reduceIte, si_self, sm_self, si_snd, sm_fst, si20_16, not_false_eq_true, not_true_eq_false, eq_self, scp_2, scp_3, scp_4]) (by rw [i_inc c_14]; omega) (by rw [i_inc c_14]; omega) (by rw [i_inc c_14, i_addE (x := n1.toInt) (y := 1) rfl rfl (by omega) (by omega)]; omega) hq2 hq3 (mu_inc hm c_14) H locs G ls (lv_sub hl [3, 4, 1, 0] rfl)
        · have c_43 : ¬ ((((x0 >>> ((8 * k1).toInt64 &&& 63)).toInt32) &&& 255) ≤ 127) := c_43
          refine lv_iconst (v := -1) hx hb dX5_write_46 (by decide) ?_
          exact m_iret (v := (-1)) X G hr hlocks (by rw [hI]; simp only [F_write_L10, eq_false c_14, eq_false c_33, eq_false c_43, ↓reduceIte, si_self, sm_self, si_snd, sm_fst, si20_16, not_false_eq_true, not_true_eq_false, eq_self, scp_2, scp_3, scp_4]) dX5_write_47
      · have c_33 : (((x0 >>> ((8 * k1).toInt64 &&& 63)).toInt32) &&& 255) = 0 := c_33
        refine lv_goto (tgt := 57) hx hb dX5_write_36 (by decide) ?_
        refine lv_aload_n hx hb dX5_write_57 rfl (lv_at hl 1 rfl) ?_
        refine m_get_1 X G (by decide +kernel) dX5_write_58 ?_
        refine lv_iload_n hx hb dX5_write_61 rfl (lv_at hl 3 rfl) ?_
        refine lv_iadd hx hb dX5_write_62 ?_
        refine lv_sipush (v := 160) hx hb dX5_write_63 (by decide) ?_
        refine lv_icmp_le (tgt := 71) hx hb dX5_write_66 (by decide) (fun c_66 => ?_) (fun c_66 => ?_)
        · have c_66 : ((τ.1 1) + n1) ≤ 160 := c_66
          have h66 := i_le c_66
          rw [i_addE (x := (τ.1 1).toInt) (y := n1.toInt) rfl rfl (by omega) (by omega)] at h66
          refine lv_iconst (v := 0) hx hb dX5_write_71 (by decide) ?_
          refine lv_istore (lv' := [(4, .int 0), (5, .int (((x0 >>> ((8 * k1).toInt64 &&& 63)).toInt32) &&& 255)), (0, .ref h), (1, .long x0), (3, .int n1)]) hx hb dX5_write_72 hl (by decide) rfl (fun ls hl => ?_)
          exact c_M_write_L74 l σ x0 hq0 hq1 X hA hr hlocks hml 9 n1 0 τ (by rw [hI]; simp only [F_write_L10, eq_false c_14, eq_true c_33, eq_true c_66, ↓reduceIte, si_self, sm_self, si_snd, sm_fst, si20_16, not_false_eq_true, not_true_eq_false, eq_self, scp_2, scp_3, scp_4]) (by decide) (by omega) hq2 (by omega) (by have z0 : (0 : Int32).toInt = 0 := rfl; omega) _ _ G ls (lv_sub hl [2, 3, 4, 0] rfl)
        · have c_66 : ¬ (((τ.1 1) + n1) ≤ 160) := c_66
          refine lv_iconst (v := -1) hx hb dX5_write_69 (by decide) ?_
          exact m_iret (v := (-1)) X G hr hlocks (by rw [hI]; simp only [F_write_L10, eq_false c_14, eq_true c_33, eq_false c_66, ↓reduceIte, si_self, sm_self, si_snd, sm_fst, si20_16, not_false_eq_true, not_true_eq_false, eq_self, scp_2, scp_3, scp_4]) dX5_write_70
set_option maxHeartbeats 4000000 in
set_option maxRecDepth 100000 in
theorem c_M_write (l : Launch) (dC : Nat → ClassId) (dI : Nat → Nat → Nat) (cI cJ : ClassId) (h : Nat) (ad : Nat → Nat) (sz : Nat) (σ : MS) (x0 : Int64) (hq0 : 0 ≤ (σ.1 1).toInt) (hq1 : (σ.1 1).toInt ≤ 160) : Met l yX5_write wsX5_write ({ frames := 0, cells := 0, slots := 0, locals := 0 } : Room) (va_Pc [.ref h, .long x0] (mPre dC dI cI cJ h ad sz σ)) (va_Qi (fun r u => F_write σ x0 = (r, u)) (mAt dC dI cI cJ h ad (mA h ad cI cJ σ sz)) (mA h ad cI cJ σ sz)) 0 0 (mA h ad cI cJ σ sz) := by
  refine m_ofW (cc := cX5_write) (maxL := 6) (ret := (some .int)) (by decide) rfl (by decide +kernel) rfl (Nat.le_of_ble_eq_true rfl) ?_
  intro p e s m below meth c X G hA hr hlocks hml ls hl
  have hl : lv_has ls 6 [(0, .ref h), (1, .long x0)] := hl
  have hx := X.1
  have hb := X.2.1
  have hts := X.2.2.1
  have hown := X.2.2.2.2.1
  refine lv_aload_n hx hb dX5_write_0 rfl (lv_at hl 0 rfl) ?_
  refine lv_iconst (v := 0) hx hb dX5_write_1 (by decide) ?_
  refine m_put_17 X G (by decide +kernel) dX5_write_2 (fun H locs G => ?_)
  have G : mH dC dI h ad cI cJ (si σ 17 0) (mA h ad cI cJ σ sz) s.heap H locs := G
  refine lv_iconst (v := 0) hx hb dX5_write_5 (by decide) ?_
  refine lv_istore_n (lv' := [(3, .int 0), (0, .ref h), (1, .long x0)]) hx hb dX5_write_6 rfl hl (by decide) rfl (fun ls hl => ?_)
  refine lv_iconst (v := 0) hx hb dX5_write_7 (by decide) ?_
  refine lv_istore (lv' := [(4, .int 0), (3, .int 0), (0, .ref h), (1, .long x0)]) hx hb dX5_write_8 hl (by decide) rfl (fun ls hl => ?_)
  exact c_M_write_L10 l σ x0 hq0 hq1 X hA hr hlocks hml 9 0 0 (si σ 17 0) (by simp only [F_write, ↓reduceIte, si_self, sm_self, si_snd, sm_fst, si20_16, not_false_eq_true, not_true_eq_false, eq_self, scp_2, scp_3, scp_4]) (by decide) (by decide) rfl hq0 hq1 (by decide) _ _ G ls (lv_sub hl [2, 3, 1, 0] rfl)
