set_option maxHeartbeats 4000000 in
set_option maxRecDepth 100000 in
theorem c_M_moves (l : Launch) (dC : Nat → ClassId) (dI : Nat → Nat → Nat) (cI cJ : ClassId) (h : Nat) (ad : Nat → Nat) (sz : Nat) (σ : MS) (c0 : Int32) (hd0 : 0 ≤ (σ.1 5).toInt) (hd : (σ.1 5).toInt ≤ 40) (hp0 : 0 ≤ (σ.1 14).toInt) (htx : tx (σ.2.2.1 3) (σ.2.2.2 2)) : Met l yX5_moves wsX5_moves ({ frames := 2, cells := 0, slots := 0, locals := 42 } : Room) (va_Pc [.ref h, .int c0] (mPre dC dI cI cJ h ad sz σ)) (va_Qi (fun r u => F_moves σ c0 = (r, u)) (mAt dC dI cI cJ h ad (mA h ad cI cJ σ sz)) (mA h ad cI cJ σ sz)) 0 0 (mA h ad cI cJ σ sz) := by
  refine m_ofW (cc := cX5_moves) (maxL := 2) (ret := (some .boolean)) (by decide) rfl (by decide +kernel) rfl (Nat.le_of_ble_eq_true rfl) ?_
  intro p e s m below meth c X G hA hr hlocks hml ls hl
  have hl : lv_has ls 2 [(0, .ref h), (1, .int c0)] := hl
  have hx := X.1
  have hb := X.2.1
  have hts := X.2.2.1
  have hown := X.2.2.2.2.1
  have z0 : (0 : Int32).toInt = 0 := rfl
  have z1 : (1 : Int32).toInt = 1 := rfl
  have z2 : (2 : Int32).toInt = 2 := rfl
  have z8 : (80 : Int32).toInt = 80 := rfl
  refine lv_iload_n hx hb dX5_moves_0 rfl (lv_at hl 1 rfl) ?_
  refine lv_bipush (v := 99) hx hb dX5_moves_1 (by decide) ?_
  refine lv_icmp_ne (tgt := 13) hx hb dX5_moves_3 (by decide) (fun c_3 => ?_) (fun c_3 => ?_)
  · have c_3 : ¬ (c0 = 99) := c_3
    refine lv_iload_n hx hb dX5_moves_13 rfl (lv_at hl 1 rfl) ?_
    refine lv_bipush (v := 122) hx hb dX5_moves_14 (by decide) ?_
    refine lv_icmp_eq (tgt := 25) hx hb dX5_moves_16 (by decide) (fun c_16 => ?_) (fun c_16 => ?_)
    · have c_16 : c0 = 122 := c_16
      refine lv_aload_n hx hb dX5_moves_25 rfl (lv_at hl 0 rfl) ?_
      refine m_calli (As := []) (rest := []) X hml G hA (c_M_room l dC dI cI cJ h ad _ σ) (cwV 0 hts gX5_moves_X5_room rfl rfl rfl (by decide +kernel) ⟨Nat.le_of_ble_eq_true rfl, Nat.le_of_ble_eq_true rfl⟩) rfl hl.1 rfl (Nat.le_of_ble_eq_true rfl) dX5_moves_26 ⟨Nat.zero_le _, Nat.zero_le _⟩ (fun r_26 u_26 H locs hw_26 G => ?_)
      refine lv_if_ne (tgt := 34) hx hb dX5_moves_29 (by decide) (fun c_29 => ?_) (fun c_29 => ?_)
      · have c_29 : ¬ (r_26 = 0) := c_29
        obtain ⟨rfl, hroom⟩ := room_ok hw_26 c_29
        refine lv_aload_n hx hb dX5_moves_34 rfl (lv_at hl 0 rfl) ?_
        refine lv_iconst (v := 0) hx hb dX5_moves_35 (by decide) ?_
        refine lv_iload_n hx hb dX5_moves_36 rfl (lv_at hl 1 rfl) ?_
        refine lv_bipush (v := 122) hx hb dX5_moves_37 (by decide) ?_
        refine lv_icmp_ne (tgt := 50) hx hb dX5_moves_39 (by decide) (fun c9 => absurd (show c0 = 122 from by rw [c_16] <;> decide) c9) (fun c9 => ?_)
        refine lv_aload_n hx hb dX5_moves_42 rfl (lv_at hl 0 rfl) ?_
        refine m_get_5 X G (by decide +kernel) dX5_moves_43 ?_
        refine lv_i2l hx hb dX5_moves_46 rfl ?_
        refine lv_goto (tgt := 55) hx hb dX5_moves_47 (by decide) ?_
        refine lv_iconst (v := 0) hx hb dX5_moves_55 (by decide) ?_
        refine m_callv (As := [.int 0, .long ((σ.1 5).toInt64), .int 0]) (rest := []) X hml G hA (c_M_put l dC dI cI cJ h ad _ σ 0 ((σ.1 5).toInt64) 0 (show 0 ≤ (σ.1 5).toInt - (0 : Int32).toInt from by omega) (show (σ.1 5).toInt - (0 : Int32).toInt < 82 from by omega)) (cwV 3 hts gX5_moves_X5_put rfl rfl rfl (by decide +kernel) ⟨Nat.le_of_ble_eq_true rfl, Nat.le_of_ble_eq_true rfl⟩) rfl hl.1 rfl (Nat.le_of_ble_eq_true rfl) dX5_moves_56 ⟨Nat.zero_le _, Nat.zero_le _⟩ (fun u_56 H locs hw_56 G => ?_)
        subst hw_56
        have G : mH dC dI h ad cI cJ (si (sa (sb (si σ 5 ((σ.1 5) - 0)) 2 ((σ.1 5) - 0).toNatClampNeg ((σ.1 5).toInt64)) 3 ((σ.1 5) - 0).toNatClampNeg 0) 5 (((σ.1 5) - 0) + 1)) (mA h ad cI cJ σ sz) s.heap H locs := G
        refine lv_iconst (v := 1) hx hb dX5_moves_59 (by decide) ?_
        exact m_zret X G hr hlocks rfl (by simp only [F_moves, eq_false c_3, eq_true c_16, hw_26, eq_false c_29, ↓reduceIte, si_self, sm_self, si_snd, sm_fst, si20_16, not_false_eq_true, not_true_eq_false, eq_self, scp_2, scp_3, scp_4]) dX5_moves_60
      · have c_29 : r_26 = 0 := c_29
        refine lv_iconst (v := 0) hx hb dX5_moves_32 (by decide) ?_
        exact m_zret X G hr hlocks rfl (by simp only [F_moves, eq_false c_3, eq_true c_16, hw_26, eq_true c_29, ↓reduceIte, si_self, sm_self, si_snd, sm_fst, si20_16, not_false_eq_true, not_true_eq_false, eq_self, scp_2, scp_3, scp_4]) dX5_moves_33
    · have c_16 : ¬ (c0 = 122) := c_16
      refine lv_iload_n hx hb dX5_moves_19 rfl (lv_at hl 1 rfl) ?_
      refine lv_bipush (v := 75) hx hb dX5_moves_20 (by decide) ?_
      refine lv_icmp_ne (tgt := 61) hx hb dX5_moves_22 (by decide) (fun c_22 => ?_) (fun c_22 => ?_)
      · have c_22 : ¬ (c0 = 75) := c_22
        refine lv_aload_n hx hb dX5_moves_61 rfl (lv_at hl 0 rfl) ?_
        refine lv_iload_n hx hb dX5_moves_62 rfl (lv_at hl 1 rfl) ?_
        refine lv_bipush (v := 114) hx hb dX5_moves_63 (by decide) ?_
        refine lv_icmp_ne (tgt := 72) hx hb dX5_moves_65 (by decide) (fun c_65 => ?_) (fun c_65 => ?_)
        · have c_65 : ¬ (c0 = 114) := c_65
          refine lv_iconst (v := 1) hx hb dX5_moves_72 (by decide) ?_
          refine m_calli (As := [.int 1]) (rest := []) X hml G hA (c_M_have l dC dI cI cJ h ad _ σ 1) (cwV 1 hts gX5_moves_X5_have rfl rfl rfl (by decide +kernel) ⟨Nat.le_of_ble_eq_true rfl, Nat.le_of_ble_eq_true rfl⟩) rfl hl.1 rfl (Nat.le_of_ble_eq_true rfl) dX5_moves_73 ⟨Nat.zero_le _, Nat.zero_le _⟩ (fun r_73 u_73 H locs hw_73 G => ?_)
          refine lv_if_ne (tgt := 81) hx hb dX5_moves_76 (by decide) (fun c_76 => ?_) (fun c_76 => ?_)
          · have c_76 : ¬ (r_73 = 0) := c_76
            obtain ⟨rfl, hn⟩ := have_ok hw_73 c_76
            refine lv_iload_n hx hb dX5_moves_81 rfl (lv_at hl 1 rfl) ?_
            refine lv_bipush (v := 100) hx hb dX5_moves_82 (by decide) ?_
            refine lv_icmp_ne (tgt := 123) hx hb dX5_moves_84 (by decide) (fun c_84 => ?_) (fun c_84 => ?_)
            · have c_84 : ¬ (c0 = 100) := c_84
              refine lv_iload_n hx hb dX5_moves_123 rfl (lv_at hl 1 rfl) ?_
              refine lv_bipush (v := 114) hx hb dX5_moves_124 (by decide) ?_
              refine lv_icmp_ne (tgt := 172) hx hb dX5_moves_126 (by decide) (fun c9 => ?_) (fun c9 => absurd c9 c_65)
              refine lv_iload_n hx hb dX5_moves_172 rfl (lv_at hl 1 rfl) ?_
              refine lv_bipush (v := 68) hx hb dX5_moves_173 (by decide) ?_
              refine lv_icmp_ne (tgt := 191) hx hb dX5_moves_175 (by decide) (fun c_175 => ?_) (fun c_175 => ?_)
              · have c_175 : ¬ (c0 = 68) := c_175
                refine lv_aload_n hx hb dX5_moves_191 rfl (lv_at hl 0 rfl) ?_
                refine m_get_14 X G (by decide +kernel) dX5_moves_192 ?_
                refine lv_bipush (v := 40) hx hb dX5_moves_195 (by decide) ?_
                refine lv_icmp_ge (tgt := 250) hx hb dX5_moves_197 (by decide) (fun c_197 => ?_) (fun c_197 => ?_)
                · have c_197 : 40 ≤ (σ.1 14) := c_197
                  refine lv_iconst (v := 1) hx hb dX5_moves_250 (by decide) ?_
                  exact m_zret X G hr hlocks rfl (by simp only [F_moves, eq_false c_3, eq_false c_16, eq_false c_22, eq_false c_65, hw_73, eq_false c_76, eq_false c_84, eq_false c_175, eq_true c_197, ↓reduceIte, si_self, sm_self, si_snd, sm_fst, si20_16, not_false_eq_true, not_true_eq_false, eq_self, scp_2, scp_3, scp_4]) dX5_moves_251
                · have c_197 : ¬ (40 ≤ (σ.1 14)) := c_197
                  have h197 := i_nle c_197
                  have z4 : (40 : Int32).toInt = 40 := rfl
                  refine lv_aload_n hx hb dX5_moves_200 rfl (lv_at hl 0 rfl) ?_
                  refine m_get_12 X G (by decide +kernel) dX5_moves_201 ?_
                  refine lv_aload_n hx hb dX5_moves_204 rfl (lv_at hl 0 rfl) ?_
                  refine m_get_14 X G (by decide +kernel) dX5_moves_205 ?_
                  refine lv_aload_n hx hb dX5_moves_208 rfl (lv_at hl 0 rfl) ?_
                  refine m_get_2 X G (by decide +kernel) dX5_moves_209 ?_
                  refine lv_aload_n hx hb dX5_moves_212 rfl (lv_at hl 0 rfl) ?_
                  refine m_get_5 X G (by decide +kernel) dX5_moves_213 ?_
                  refine lv_iconst (v := 1) hx hb dX5_moves_216 (by decide) ?_
                  refine lv_isub hx hb dX5_moves_217 ?_
                  refine m_ld_2 X G (vin (i_subE (rfl : (σ.1 5).toInt = _) (show (1 : Int32).toInt = 1 from rfl) (by omega) (by omega)) (by omega) (by omega)) dX5_moves_218 ?_
                  refine m_st_12 X G (vin (rfl : (σ.1 14).toInt = _) (by omega) (by omega)) dX5_moves_219 (fun H locs G => ?_)
                  have G : mH dC dI h ad cI cJ (sb σ 12 (σ.1 14).toNatClampNeg (σ.2.2.2 2 ((σ.1 5) - 1).toNatClampNeg)) (mA h ad cI cJ σ sz) s.heap H locs := G
                  refine lv_aload_n hx hb dX5_moves_220 rfl (lv_at hl 0 rfl) ?_
                  refine m_get_13 X G (by decide +kernel) dX5_moves_221 ?_
                  refine lv_aload_n hx hb dX5_moves_224 rfl (lv_at hl 0 rfl) ?_
                  refine m_get_14 X G (by decide +kernel) dX5_moves_225 ?_
                  refine lv_aload_n hx hb dX5_moves_228 rfl (lv_at hl 0 rfl) ?_
                  refine m_get_3 X G (by decide +kernel) dX5_moves_229 ?_
                  refine lv_aload_n hx hb dX5_moves_232 rfl (lv_at hl 0 rfl) ?_
                  refine m_get_5 X G (by decide +kernel) dX5_moves_233 ?_
                  refine lv_iconst (v := 1) hx hb dX5_moves_236 (by decide) ?_
                  refine lv_isub hx hb dX5_moves_237 ?_
                  refine m_ld_3 X G (vin (i_subE (rfl : (σ.1 5).toInt = _) (show (1 : Int32).toInt = 1 from rfl) (by omega) (by omega)) (by omega) (by omega)) dX5_moves_238 ?_
                  refine m_st_13 X G (vin (rfl : (σ.1 14).toInt = _) (by omega) (by omega)) dX5_moves_239 (fun H locs G => ?_)
                  have G : mH dC dI h ad cI cJ (sa (sb σ 12 (σ.1 14).toNatClampNeg (σ.2.2.2 2 ((σ.1 5) - 1).toNatClampNeg)) 13 (σ.1 14).toNatClampNeg (σ.2.2.1 3 ((σ.1 5) - 1).toNatClampNeg)) (mA h ad cI cJ σ sz) s.heap H locs := G
                  refine lv_aload_n hx hb dX5_moves_240 rfl (lv_at hl 0 rfl) ?_
                  refine lv_dup hx hb dX5_moves_241 rfl ?_
                  refine m_get_14 X G (by decide +kernel) dX5_moves_242 ?_
                  refine lv_iconst (v := 1) hx hb dX5_moves_245 (by decide) ?_
                  refine lv_iadd hx hb dX5_moves_246 ?_
                  refine m_put_14 X G (by decide +kernel) dX5_moves_247 (fun H locs G => ?_)
                  have G : mH dC dI h ad cI cJ (si (sa (sb σ 12 (σ.1 14).toNatClampNeg (σ.2.2.2 2 ((σ.1 5) - 1).toNatClampNeg)) 13 (σ.1 14).toNatClampNeg (σ.2.2.1 3 ((σ.1 5) - 1).toNatClampNeg)) 14 ((σ.1 14) + 1)) (mA h ad cI cJ σ sz) s.heap H locs := G
                  refine lv_iconst (v := 1) hx hb dX5_moves_250 (by decide) ?_
                  exact m_zret X G hr hlocks rfl (by simp only [F_moves, eq_false c_3, eq_false c_16, eq_false c_22, eq_false c_65, hw_73, eq_false c_76, eq_false c_84, eq_false c_175, eq_false c_197, ↓reduceIte, si_self, sm_self, si_snd, sm_fst, si20_16, not_false_eq_true, not_true_eq_false, eq_self, scp_2, scp_3, scp_4]) dX5_moves_251
              · have c_175 : c0 = 68 := c_175
                refine lv_aload_n hx hb dX5_moves_178 rfl (lv_at hl 0 rfl) ?_
                refine lv_dup hx hb dX5_moves_179 rfl ?_
                refine m_get_5 X G (by decide +kernel) dX5_moves_180 ?_
                refine lv_iconst (v := 1) hx hb dX5_moves_183 (by decide) ?_
                refine lv_isub hx hb dX5_moves_184 ?_
                refine m_put_5 X G (by decide +kernel) dX5_moves_185 (fun H locs G => ?_)
                have G : mH dC dI h ad cI cJ (si σ 5 ((σ.1 5) - 1)) (mA h ad cI cJ σ sz) s.heap H locs := G
                refine lv_goto (tgt := 250) hx hb dX5_moves_188 (by decide) ?_
                refine lv_iconst (v := 1) hx hb dX5_moves_250 (by decide) ?_
                exact m_zret X G hr hlocks rfl (by simp only [F_moves, eq_false c_3, eq_false c_16, eq_false c_22, eq_false c_65, hw_73, eq_false c_76, eq_false c_84, eq_true c_175, ↓reduceIte, si_self, sm_self, si_snd, sm_fst, si20_16, not_false_eq_true, not_true_eq_false, eq_self, scp_2, scp_3, scp_4]) dX5_moves_251
            · have c_84 : c0 = 100 := c_84
              refine lv_aload_n hx hb dX5_moves_87 rfl (lv_at hl 0 rfl) ?_
              refine m_calli (As := []) (rest := []) X hml G hA (c_M_room l dC dI cI cJ h ad _ σ) (cwV 0 hts gX5_moves_X5_room rfl rfl rfl (by decide +kernel) ⟨Nat.le_of_ble_eq_true rfl, Nat.le_of_ble_eq_true rfl⟩) rfl hl.1 rfl (Nat.le_of_ble_eq_true rfl) dX5_moves_88 ⟨Nat.zero_le _, Nat.zero_le _⟩ (fun r_88 u_88 H locs hw_88 G => ?_)
              refine lv_if_ne (tgt := 96) hx hb dX5_moves_91 (by decide) (fun c_91 => ?_) (fun c_91 => ?_)
              · have c_91 : ¬ (r_88 = 0) := c_91
                obtain ⟨rfl, hroom⟩ := room_ok hw_88 c_91
                refine lv_aload_n hx hb dX5_moves_96 rfl (lv_at hl 0 rfl) ?_
                refine lv_aload_n hx hb dX5_moves_97 rfl (lv_at hl 0 rfl) ?_
                refine m_get_5 X G (by decide +kernel) dX5_moves_98 ?_
                refine lv_iconst (v := 1) hx hb dX5_moves_101 (by decide) ?_
                refine lv_isub hx hb dX5_moves_102 ?_
                refine lv_aload_n hx hb dX5_moves_103 rfl (lv_at hl 0 rfl) ?_
                refine m_get_5 X G (by decide +kernel) dX5_moves_104 ?_
                refine m_callv (As := [.int ((σ.1 5) - 1), .int (σ.1 5)]) (rest := []) X hml G hA (c_M_copy l dC dI cI cJ h ad _ σ ((σ.1 5) - 1) (σ.1 5) (ge0 (i_subE (rfl : (σ.1 5).toInt = _) (show (1 : Int32).toInt = 1 from rfl) (by omega) (by omega)) (by omega)) (ltn (i_subE (rfl : (σ.1 5).toInt = _) (show (1 : Int32).toInt = 1 from rfl) (by omega) (by omega)) (by omega)) (ge0 (rfl : (σ.1 5).toInt = _) (by omega)) (ltn (rfl : (σ.1 5).toInt = _) (by omega)) (fun h9 => (htx _ (cl_lt (ge0 (i_subE (rfl : (σ.1 5).toInt = _) (show (1 : Int32).toInt = 1 from rfl) (by omega) (by omega)) (by omega)) (ltn (i_subE (rfl : (σ.1 5).toInt = _) (show (1 : Int32).toInt = 1 from rfl) (by omega) (by omega)) (by omega))) h9).2)) (cwV 2 hts gX5_moves_X5_copy rfl rfl rfl (by decide +kernel) ⟨Nat.le_of_ble_eq_true rfl, Nat.le_of_ble_eq_true rfl⟩) rfl hl.1 rfl (Nat.le_of_ble_eq_true rfl) dX5_moves_107 ⟨Nat.zero_le _, Nat.zero_le _⟩ (fun u_107 H locs hw_107 G => ?_)
                obtain ⟨b2_107, a3_107, a4_107, rfl⟩ := copy_st hw_107
                have htx_107 := copy_tx (σ := σ) htx hw_107 (ge0 (i_subE (rfl : (σ.1 5).toInt = _) (show (1 : Int32).toInt = 1 from rfl) (by omega) (by omega)) (by omega)) (ltn (i_subE (rfl : (σ.1 5).toInt = _) (show (1 : Int32).toInt = 1 from rfl) (by omega) (by omega)) (by omega))
                refine lv_aload_n hx hb dX5_moves_110 rfl (lv_at hl 0 rfl) ?_
                refine lv_dup hx hb dX5_moves_111 rfl ?_
                refine m_get_5 X G (by decide +kernel) dX5_moves_112 ?_
                refine lv_iconst (v := 1) hx hb dX5_moves_115 (by decide) ?_
                refine lv_iadd hx hb dX5_moves_116 ?_
                refine m_put_5 X G (by decide +kernel) dX5_moves_117 (fun H locs G => ?_)
                have G : mH dC dI h ad cI cJ (si (scp σ b2_107 a3_107 a4_107) 5 ((σ.1 5) + 1)) (mA h ad cI cJ σ sz) s.heap H locs := G
                refine lv_goto (tgt := 250) hx hb dX5_moves_120 (by decide) ?_
                refine lv_iconst (v := 1) hx hb dX5_moves_250 (by decide) ?_
                exact m_zret X G hr hlocks rfl (by simp only [F_moves, eq_false c_3, eq_false c_16, eq_false c_22, eq_false c_65, hw_73, eq_false c_76, eq_true c_84, hw_88, eq_false c_91, hw_107, ↓reduceIte, si_self, sm_self, si_snd, sm_fst, si20_16, not_false_eq_true, not_true_eq_false, eq_self, scp_2, scp_3, scp_4]) dX5_moves_251
              · have c_91 : r_88 = 0 := c_91
                refine lv_iconst (v := 0) hx hb dX5_moves_94 (by decide) ?_
                exact m_zret X G hr hlocks rfl (by simp only [F_moves, eq_false c_3, eq_false c_16, eq_false c_22, eq_false c_65, hw_73, eq_false c_76, eq_true c_84, hw_88, eq_true c_91, ↓reduceIte, si_self, sm_self, si_snd, sm_fst, si20_16, not_false_eq_true, not_true_eq_false, eq_self, scp_2, scp_3, scp_4]) dX5_moves_95
          · have c_76 : r_73 = 0 := c_76
            refine lv_iconst (v := 0) hx hb dX5_moves_79 (by decide) ?_
            exact m_zret X G hr hlocks rfl (by simp only [F_moves, eq_false c_3, eq_false c_16, eq_false c_22, eq_false c_65, hw_73, eq_true c_76, ↓reduceIte, si_self, sm_self, si_snd, sm_fst, si20_16, not_false_eq_true, not_true_eq_false, eq_self, scp_2, scp_3, scp_4]) dX5_moves_80
        · have c_65 : c0 = 114 := c_65
          refine lv_iconst (v := 2) hx hb dX5_moves_68 (by decide) ?_
          refine lv_goto (tgt := 73) hx hb dX5_moves_69 (by decide) ?_
          refine m_calli (As := [.int 2]) (rest := []) X hml G hA (c_M_have l dC dI cI cJ h ad _ σ 2) (cwV 1 hts gX5_moves_X5_have rfl rfl rfl (by decide +kernel) ⟨Nat.le_of_ble_eq_true rfl, Nat.le_of_ble_eq_true rfl⟩) rfl hl.1 rfl (Nat.le_of_ble_eq_true rfl) dX5_moves_73 ⟨Nat.zero_le _, Nat.zero_le _⟩ (fun r_73 u_73 H locs hw_73 G => ?_)
          refine lv_if_ne (tgt := 81) hx hb dX5_moves_76 (by decide) (fun c_76 => ?_) (fun c_76 => ?_)
          · have c_76 : ¬ (r_73 = 0) := c_76
            obtain ⟨rfl, hn⟩ := have_ok hw_73 c_76
            refine lv_iload_n hx hb dX5_moves_81 rfl (lv_at hl 1 rfl) ?_
            refine lv_bipush (v := 100) hx hb dX5_moves_82 (by decide) ?_
            refine lv_icmp_ne (tgt := 123) hx hb dX5_moves_84 (by decide) (fun c9 => ?_) (fun c9 => absurd c9 (show ¬ (c0 = 100) from by rw [c_65] <;> decide))
            refine lv_iload_n hx hb dX5_moves_123 rfl (lv_at hl 1 rfl) ?_
            refine lv_bipush (v := 114) hx hb dX5_moves_124 (by decide) ?_
            refine lv_icmp_ne (tgt := 172) hx hb dX5_moves_126 (by decide) (fun c9 => absurd (show c0 = 114 from by rw [c_65] <;> decide) c9) (fun c9 => ?_)
            refine lv_aload_n hx hb dX5_moves_129 rfl (lv_at hl 0 rfl) ?_
            refine lv_aload_n hx hb dX5_moves_130 rfl (lv_at hl 0 rfl) ?_
            refine m_get_5 X G (by decide +kernel) dX5_moves_131 ?_
            refine lv_iconst (v := 1) hx hb dX5_moves_134 (by decide) ?_
            refine lv_isub hx hb dX5_moves_135 ?_
            refine lv_bipush (v := 80) hx hb dX5_moves_136 (by decide) ?_
            refine m_callv (As := [.int ((σ.1 5) - 1), .int 80]) (rest := []) X hml G hA (c_M_copy l dC dI cI cJ h ad _ σ ((σ.1 5) - 1) 80 (ge0 (i_subE (rfl : (σ.1 5).toInt = _) (show (1 : Int32).toInt = 1 from rfl) (by omega) (by omega)) (by omega)) (ltn (i_subE (rfl : (σ.1 5).toInt = _) (show (1 : Int32).toInt = 1 from rfl) (by omega) (by omega)) (by omega)) (ge0 (show (80 : Int32).toInt = 80 from rfl) (by omega)) (ltn (show (80 : Int32).toInt = 80 from rfl) (by omega)) (fun h9 => (htx _ (cl_lt (ge0 (i_subE (rfl : (σ.1 5).toInt = _) (show (1 : Int32).toInt = 1 from rfl) (by omega) (by omega)) (by omega)) (ltn (i_subE (rfl : (σ.1 5).toInt = _) (show (1 : Int32).toInt = 1 from rfl) (by omega) (by omega)) (by omega))) h9).2)) (cwV 2 hts gX5_moves_X5_copy rfl rfl rfl (by decide +kernel) ⟨Nat.le_of_ble_eq_true rfl, Nat.le_of_ble_eq_true rfl⟩) rfl hl.1 rfl (Nat.le_of_ble_eq_true rfl) dX5_moves_138 ⟨Nat.zero_le _, Nat.zero_le _⟩ (fun u_138 H locs hw_138 G => ?_)
            obtain ⟨b2_138, a3_138, a4_138, rfl⟩ := copy_st hw_138
            have htx_138 := copy_tx (σ := σ) htx hw_138 (ge0 (i_subE (rfl : (σ.1 5).toInt = _) (show (1 : Int32).toInt = 1 from rfl) (by omega) (by omega)) (by omega)) (ltn (i_subE (rfl : (σ.1 5).toInt = _) (show (1 : Int32).toInt = 1 from rfl) (by omega) (by omega)) (by omega))
            refine lv_aload_n hx hb dX5_moves_141 rfl (lv_at hl 0 rfl) ?_
            refine lv_aload_n hx hb dX5_moves_142 rfl (lv_at hl 0 rfl) ?_
            refine m_get_5 X G (by decide +kernel) dX5_moves_143 ?_
            refine lv_iconst (v := 2) hx hb dX5_moves_146 (by decide) ?_
            refine lv_isub hx hb dX5_moves_147 ?_
            refine lv_aload_n hx hb dX5_moves_148 rfl (lv_at hl 0 rfl) ?_
            refine m_get_5 X G (by decide +kernel) dX5_moves_149 ?_
            refine lv_iconst (v := 1) hx hb dX5_moves_152 (by decide) ?_
            refine lv_isub hx hb dX5_moves_153 ?_
            refine m_callv (As := [.int ((σ.1 5) - 2), .int ((σ.1 5) - 1)]) (rest := []) X hml G hA (c_M_copy l dC dI cI cJ h ad _ (scp σ b2_138 a3_138 a4_138) ((σ.1 5) - 2) ((σ.1 5) - 1) (ge0 (i_subE (rfl : (σ.1 5).toInt = _) (show (2 : Int32).toInt = 2 from rfl) (by omega) (by omega)) (by omega)) (ltn (i_subE (rfl : (σ.1 5).toInt = _) (show (2 : Int32).toInt = 2 from rfl) (by omega) (by omega)) (by omega)) (ge0 (i_subE (rfl : (σ.1 5).toInt = _) (show (1 : Int32).toInt = 1 from rfl) (by omega) (by omega)) (by omega)) (ltn (i_subE (rfl : (σ.1 5).toInt = _) (show (1 : Int32).toInt = 1 from rfl) (by omega) (by omega)) (by omega)) (fun h9 => (htx_138 _ (cl_lt (ge0 (i_subE (rfl : (σ.1 5).toInt = _) (show (2 : Int32).toInt = 2 from rfl) (by omega) (by omega)) (by omega)) (ltn (i_subE (rfl : (σ.1 5).toInt = _) (show (2 : Int32).toInt = 2 from rfl) (by omega) (by omega)) (by omega))) h9).2)) (cwV 2 hts gX5_moves_X5_copy rfl rfl rfl (by decide +kernel) ⟨Nat.le_of_ble_eq_true rfl, Nat.le_of_ble_eq_true rfl⟩) rfl hl.1 rfl (Nat.le_of_ble_eq_true rfl) dX5_moves_154 ⟨Nat.zero_le _, Nat.zero_le _⟩ (fun u_154 H locs hw_154 G => ?_)
            obtain ⟨b2_154, a3_154, a4_154, rfl⟩ := copy_st hw_154
            have htx_154 := copy_tx (σ := (scp σ b2_138 a3_138 a4_138)) htx_138 hw_154 (ge0 (i_subE (rfl : (σ.1 5).toInt = _) (show (2 : Int32).toInt = 2 from rfl) (by omega) (by omega)) (by omega)) (ltn (i_subE (rfl : (σ.1 5).toInt = _) (show (2 : Int32).toInt = 2 from rfl) (by omega) (by omega)) (by omega))
            refine lv_aload_n hx hb dX5_moves_157 rfl (lv_at hl 0 rfl) ?_
            refine lv_bipush (v := 80) hx hb dX5_moves_158 (by decide) ?_
            refine lv_aload_n hx hb dX5_moves_160 rfl (lv_at hl 0 rfl) ?_
            refine m_get_5 X G (by decide +kernel) dX5_moves_161 ?_
            refine lv_iconst (v := 2) hx hb dX5_moves_164 (by decide) ?_
            refine lv_isub hx hb dX5_moves_165 ?_
            refine m_callv (As := [.int 80, .int ((σ.1 5) - 2)]) (rest := []) X hml G hA (c_M_copy l dC dI cI cJ h ad _ (scp (scp σ b2_138 a3_138 a4_138) b2_154 a3_154 a4_154) 80 ((σ.1 5) - 2) (ge0 (show (80 : Int32).toInt = 80 from rfl) (by omega)) (ltn (show (80 : Int32).toInt = 80 from rfl) (by omega)) (ge0 (i_subE (rfl : (σ.1 5).toInt = _) (show (2 : Int32).toInt = 2 from rfl) (by omega) (by omega)) (by omega)) (ltn (i_subE (rfl : (σ.1 5).toInt = _) (show (2 : Int32).toInt = 2 from rfl) (by omega) (by omega)) (by omega)) (fun h9 => (htx_154 _ (cl_lt (ge0 (show (80 : Int32).toInt = 80 from rfl) (by omega)) (ltn (show (80 : Int32).toInt = 80 from rfl) (by omega))) h9).2)) (cwV 2 hts gX5_moves_X5_copy rfl rfl rfl (by decide +kernel) ⟨Nat.le_of_ble_eq_true rfl, Nat.le_of_ble_eq_true rfl⟩) rfl hl.1 rfl (Nat.le_of_ble_eq_true rfl) dX5_moves_166 ⟨Nat.zero_le _, Nat.zero_le _⟩ (fun u_166 H locs hw_166 G => ?_)
            obtain ⟨b2_166, a3_166, a4_166, rfl⟩ := copy_st hw_166
            have htx_166 := copy_tx (σ := (scp (scp σ b2_138 a3_138 a4_138) b2_154 a3_154 a4_154)) htx_154 hw_166 (ge0 (show (80 : Int32).toInt = 80 from rfl) (by omega)) (ltn (show (80 : Int32).toInt = 80 from rfl) (by omega))
            refine lv_goto (tgt := 250) hx hb dX5_moves_169 (by decide) ?_
            refine lv_iconst (v := 1) hx hb dX5_moves_250 (by decide) ?_
            exact m_zret X G hr hlocks rfl (by simp only [F_moves, eq_false c_3, eq_false c_16, eq_false c_22, eq_true c_65, hw_73, eq_false c_76, hw_138, hw_154, hw_166, ↓reduceIte, si_self, sm_self, si_snd, sm_fst, si20_16, not_false_eq_true, not_true_eq_false, eq_self, scp_2, scp_3, scp_4]) dX5_moves_251
          · have c_76 : r_73 = 0 := c_76
            refine lv_iconst (v := 0) hx hb dX5_moves_79 (by decide) ?_
            exact m_zret X G hr hlocks rfl (by simp only [F_moves, eq_false c_3, eq_false c_16, eq_false c_22, eq_true c_65, hw_73, eq_true c_76, ↓reduceIte, si_self, sm_self, si_snd, sm_fst, si20_16, not_false_eq_true, not_true_eq_false, eq_self, scp_2, scp_3, scp_4]) dX5_moves_80
      · have c_22 : c0 = 75 := c_22
        refine lv_aload_n hx hb dX5_moves_25 rfl (lv_at hl 0 rfl) ?_
        refine m_calli (As := []) (rest := []) X hml G hA (c_M_room l dC dI cI cJ h ad _ σ) (cwV 0 hts gX5_moves_X5_room rfl rfl rfl (by decide +kernel) ⟨Nat.le_of_ble_eq_true rfl, Nat.le_of_ble_eq_true rfl⟩) rfl hl.1 rfl (Nat.le_of_ble_eq_true rfl) dX5_moves_26 ⟨Nat.zero_le _, Nat.zero_le _⟩ (fun r_26 u_26 H locs hw_26 G => ?_)
        refine lv_if_ne (tgt := 34) hx hb dX5_moves_29 (by decide) (fun c_29 => ?_) (fun c_29 => ?_)
        · have c_29 : ¬ (r_26 = 0) := c_29
          obtain ⟨rfl, hroom⟩ := room_ok hw_26 c_29
          refine lv_aload_n hx hb dX5_moves_34 rfl (lv_at hl 0 rfl) ?_
          refine lv_iconst (v := 0) hx hb dX5_moves_35 (by decide) ?_
          refine lv_iload_n hx hb dX5_moves_36 rfl (lv_at hl 1 rfl) ?_
          refine lv_bipush (v := 122) hx hb dX5_moves_37 (by decide) ?_
          refine lv_icmp_ne (tgt := 50) hx hb dX5_moves_39 (by decide) (fun c9 => ?_) (fun c9 => absurd c9 (show ¬ (c0 = 122) from by rw [c_22] <;> decide))
          refine lv_aload_n hx hb dX5_moves_50 rfl (lv_at hl 0 rfl) ?_
          refine m_get_6 X G (by decide +kernel) dX5_moves_51 ?_
          refine lv_i2l hx hb dX5_moves_54 rfl ?_
          refine lv_iconst (v := 0) hx hb dX5_moves_55 (by decide) ?_
          refine m_callv (As := [.int 0, .long ((σ.1 6).toInt64), .int 0]) (rest := []) X hml G hA (c_M_put l dC dI cI cJ h ad _ σ 0 ((σ.1 6).toInt64) 0 (show 0 ≤ (σ.1 5).toInt - (0 : Int32).toInt from by omega) (show (σ.1 5).toInt - (0 : Int32).toInt < 82 from by omega)) (cwV 3 hts gX5_moves_X5_put rfl rfl rfl (by decide +kernel) ⟨Nat.le_of_ble_eq_true rfl, Nat.le_of_ble_eq_true rfl⟩) rfl hl.1 rfl (Nat.le_of_ble_eq_true rfl) dX5_moves_56 ⟨Nat.zero_le _, Nat.zero_le _⟩ (fun u_56 H locs hw_56 G => ?_)
          subst hw_56
          have G : mH dC dI h ad cI cJ (si (sa (sb (si σ 5 ((σ.1 5) - 0)) 2 ((σ.1 5) - 0).toNatClampNeg ((σ.1 6).toInt64)) 3 ((σ.1 5) - 0).toNatClampNeg 0) 5 (((σ.1 5) - 0) + 1)) (mA h ad cI cJ σ sz) s.heap H locs := G
          refine lv_iconst (v := 1) hx hb dX5_moves_59 (by decide) ?_
          exact m_zret X G hr hlocks rfl (by simp only [F_moves, eq_false c_3, eq_false c_16, eq_true c_22, hw_26, eq_false c_29, ↓reduceIte, si_self, sm_self, si_snd, sm_fst, si20_16, not_false_eq_true, not_true_eq_false, eq_self, scp_2, scp_3, scp_4]) dX5_moves_60
        · have c_29 : r_26 = 0 := c_29
          refine lv_iconst (v := 0) hx hb dX5_moves_32 (by decide) ?_
          exact m_zret X G hr hlocks rfl (by simp only [F_moves, eq_false c_3, eq_false c_16, eq_true c_22, hw_26, eq_true c_29, ↓reduceIte, si_self, sm_self, si_snd, sm_fst, si20_16, not_false_eq_true, not_true_eq_false, eq_self, scp_2, scp_3, scp_4]) dX5_moves_33
  · have c_3 : c0 = 99 := c_3
    refine lv_aload_n hx hb dX5_moves_6 rfl (lv_at hl 0 rfl) ?_
    refine lv_iconst (v := 0) hx hb dX5_moves_7 (by decide) ?_
    refine m_put_5 X G (by decide +kernel) dX5_moves_8 (fun H locs G => ?_)
    have G : mH dC dI h ad cI cJ (si σ 5 0) (mA h ad cI cJ σ sz) s.heap H locs := G
    refine lv_iconst (v := 1) hx hb dX5_moves_11 (by decide) ?_
    exact m_zret X G hr hlocks rfl (by simp only [F_moves, eq_true c_3, ↓reduceIte, si_self, sm_self, si_snd, sm_fst, si20_16, not_false_eq_true, not_true_eq_false, eq_self, scp_2, scp_3, scp_4]) dX5_moves_12
