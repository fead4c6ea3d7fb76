set_option maxHeartbeats 4000000 in
set_option maxRecDepth 100000 in
theorem c_M_run_L91 {p : Program} (l : Launch) {e : Env} {s : State} {m : MethodId} {below : List Frame} {meth : Method} {c : Code} {dC : Nat → ClassId} {dI : Nat → Nat → Nat} {cI cJ : ClassId} {h : Nat} {ad : Nat → Nat} {sz : Nat} (σ : MS) (y0 : Int32) (hR0 : RI σ) (X : mX p s m ([.ref h, .int y0] : List Value).toArray c cX5_run wsX5_run dC dI cI cJ) (hA : ∀ q : Nat, s.heap.size ≤ q → mA h ad cI cJ σ sz q) (hr : meth.sig.returnType = (some .int)) (hlocks : meth.locks = false) (hml : c.maxLocals = 5) :
    ∀ (fu : Nat) (k1 : Int32) (τ : MS), F_run σ y0 = F_run_L91 y0 fu k1 τ → (RIs y0 fu k1 τ) → (((200000 : Int32).toInt - k1.toInt).toNat < fu) → ∀ (H : Heap) (locs : List Loc), mH dC dI h ad cI cJ τ (mA h ad cI cJ σ sz) s.heap H locs → ∀ ls : Array Slot, lv_has ls 5 [(0, .ref h), (1, .int y0), (2, .int k1)] → W p l e ({ frames := 7, cells := 0, slots := 0, locals := 168 } : Room) s m ([.ref h, .int y0] : List Value).toArray below meth c H locs 0 0 (MQ below (va_Qi (fun r u => F_run σ y0 = (r, u)) (mAt dC dI cI cJ h ad (mA h ad cI cJ σ sz)) (mA h ad cI cJ σ sz)) ([.ref h, .int y0] : List Value).toArray s 0 0 (mA h ad cI cJ σ sz)) (F0 m 91 ls []) := by
  have hx := X.1
  have hb := X.2.1
  have hts := X.2.2.1
  have hown := X.2.2.2.2.1
  intro fu
  induction fu with
  | zero =>
    intro k1 τ hI hR hm
    exact absurd hm (Nat.not_lt_zero _)
  | succ fu ih =>
    intro k1 τ hI hR hm H locs G ls hl
    have z1 : (1 : Int32).toInt = 1 := rfl
    have z0 : (0 : Int32).toInt = 0 := rfl
    have hRI : RI τ := hR.1
    obtain ⟨⟨hd0, hd⟩, ⟨hp0, hp1⟩, htx, hhel, ⟨hv0, hv1⟩, hsz, hat, hpl, hpr, hln⟩ := id hRI
    refine lv_iload_n hx hb dX5_run_91 rfl (lv_at hl 2 rfl) ?_
    refine lv_ldc (v := 200000) hx hb hown (hts (.constant RX5 218 (200000)) (by decide +kernel)) dX5_run_92 ?_
    refine lv_icmp_ge (tgt := 231) hx hb dX5_run_94 (by decide) (fun c_94 => ?_) (fun c_94 => ?_)
    · have c_94 : 200000 ≤ k1 := c_94
      refine lv_aload_n hx hb dX5_run_231 rfl (lv_at hl 0 rfl) ?_
      refine lv_aload_n hx hb dX5_run_232 rfl (lv_at hl 0 rfl) ?_
      refine m_get_16 X G (by decide +kernel) dX5_run_233 ?_
      refine m_put_17 X G (by decide +kernel) dX5_run_236 (fun H locs G => ?_)
      have G : mH dC dI h ad cI cJ (si τ 17 (τ.1 16)) (mA h ad cI cJ σ sz) s.heap H locs := G
      refine lv_aload_n hx hb dX5_run_239 rfl (lv_at hl 0 rfl) ?_
      refine m_get_16 X G (by decide +kernel) dX5_run_240 ?_
      refine lv_if_le (tgt := 250) hx hb dX5_run_243 (by decide) (fun c_243 => ?_) (fun c_243 => ?_)
      · have c_243 : (τ.1 16) ≤ 0 := c_243
        refine lv_aload_n hx hb dX5_run_250 rfl (lv_at hl 0 rfl) ?_
        refine m_get_15 X G (by decide +kernel) dX5_run_251 ?_
        exact m_iret (v := (τ.1 15)) X G hr hlocks (by rw [hI]; simp only [F_run_L91, eq_true c_94, eq_true c_243, ↓reduceIte, si_self, sm_self, si_snd, sm_fst, si20_16, not_false_eq_true, not_true_eq_false, eq_self, scp_2, scp_3, scp_4]) dX5_run_254
      · have c_243 : ¬ ((τ.1 16) ≤ 0) := c_243
        refine lv_iconst (v := 0) hx hb dX5_run_246 (by decide) ?_
        refine lv_goto (tgt := 254) hx hb dX5_run_247 (by decide) ?_
        exact m_iret (v := 0) X G hr hlocks (by rw [hI]; simp only [F_run_L91, eq_true c_94, eq_false c_243, ↓reduceIte, si_self, sm_self, si_snd, sm_fst, si20_16, not_false_eq_true, not_true_eq_false, eq_self, scp_2, scp_3, scp_4]) dX5_run_254
    · have c_94 : ¬ (200000 ≤ k1) := c_94
      refine lv_aload_n hx hb dX5_run_97 rfl (lv_at hl 0 rfl) ?_
      refine m_get_11 X G (by decide +kernel) dX5_run_98 ?_
      refine lv_if_le (tgt := 231) hx hb dX5_run_101 (by decide) (fun c_101 => ?_) (fun c_101 => ?_)
      · have c_101 : (τ.1 11) ≤ 0 := c_101
        refine lv_aload_n hx hb dX5_run_231 rfl (lv_at hl 0 rfl) ?_
        refine lv_aload_n hx hb dX5_run_232 rfl (lv_at hl 0 rfl) ?_
        refine m_get_16 X G (by decide +kernel) dX5_run_233 ?_
        refine m_put_17 X G (by decide +kernel) dX5_run_236 (fun H locs G => ?_)
        have G : mH dC dI h ad cI cJ (si τ 17 (τ.1 16)) (mA h ad cI cJ σ sz) s.heap H locs := G
        refine lv_aload_n hx hb dX5_run_239 rfl (lv_at hl 0 rfl) ?_
        refine m_get_16 X G (by decide +kernel) dX5_run_240 ?_
        refine lv_if_le (tgt := 250) hx hb dX5_run_243 (by decide) (fun c_243 => ?_) (fun c_243 => ?_)
        · have c_243 : (τ.1 16) ≤ 0 := c_243
          refine lv_aload_n hx hb dX5_run_250 rfl (lv_at hl 0 rfl) ?_
          refine m_get_15 X G (by decide +kernel) dX5_run_251 ?_
          exact m_iret (v := (τ.1 15)) X G hr hlocks (by rw [hI]; simp only [F_run_L91, eq_false c_94, eq_true c_101, eq_true c_243, ↓reduceIte, si_self, sm_self, si_snd, sm_fst, si20_16, not_false_eq_true, not_true_eq_false, eq_self, scp_2, scp_3, scp_4]) dX5_run_254
        · have c_243 : ¬ ((τ.1 16) ≤ 0) := c_243
          refine lv_iconst (v := 0) hx hb dX5_run_246 (by decide) ?_
          refine lv_goto (tgt := 254) hx hb dX5_run_247 (by decide) ?_
          exact m_iret (v := 0) X G hr hlocks (by rw [hI]; simp only [F_run_L91, eq_false c_94, eq_true c_101, eq_false c_243, ↓reduceIte, si_self, sm_self, si_snd, sm_fst, si20_16, not_false_eq_true, not_true_eq_false, eq_self, scp_2, scp_3, scp_4]) dX5_run_254
      · have c_101 : ¬ ((τ.1 11) ≤ 0) := c_101
        have h101 := i_nle c_101
        have hv : (τ.1 11 - 1).toInt = (τ.1 11).toInt - 1 := i_subE rfl (show (1 : Int32).toInt = 1 from rfl) (by omega) (by omega)
        have hq : (τ.1 11 - 1).toNatClampNeg < 12 := cl_lt (ge0 hv (by omega)) (ltn hv (by omega))
        have hs := hsz _ hq
        have ha := hat _ hq
        refine lv_aload_n hx hb dX5_run_104 rfl (lv_at hl 0 rfl) ?_
        refine m_get_18 X G (by decide +kernel) dX5_run_105 ?_
        refine lv_if_ne (tgt := 231) hx hb dX5_run_108 (by decide) (fun c_108 => ?_) (fun c_108 => ?_)
        · have c_108 : ¬ ((τ.1 18) = 0) := c_108
          refine lv_aload_n hx hb dX5_run_231 rfl (lv_at hl 0 rfl) ?_
          refine lv_aload_n hx hb dX5_run_232 rfl (lv_at hl 0 rfl) ?_
          refine m_get_16 X G (by decide +kernel) dX5_run_233 ?_
          refine m_put_17 X G (by decide +kernel) dX5_run_236 (fun H locs G => ?_)
          have G : mH dC dI h ad cI cJ (si τ 17 (τ.1 16)) (mA h ad cI cJ σ sz) s.heap H locs := G
          refine lv_aload_n hx hb dX5_run_239 rfl (lv_at hl 0 rfl) ?_
          refine m_get_16 X G (by decide +kernel) dX5_run_240 ?_
          refine lv_if_le (tgt := 250) hx hb dX5_run_243 (by decide) (fun c_243 => ?_) (fun c_243 => ?_)
          · have c_243 : (τ.1 16) ≤ 0 := c_243
            refine lv_aload_n hx hb dX5_run_250 rfl (lv_at hl 0 rfl) ?_
            refine m_get_15 X G (by decide +kernel) dX5_run_251 ?_
            exact m_iret (v := (τ.1 15)) X G hr hlocks (by rw [hI]; simp only [F_run_L91, eq_false c_94, eq_false c_101, eq_false c_108, eq_true c_243, ↓reduceIte, si_self, sm_self, si_snd, sm_fst, si20_16, not_false_eq_true, not_true_eq_false, eq_self, scp_2, scp_3, scp_4]) dX5_run_254
          · have c_243 : ¬ ((τ.1 16) ≤ 0) := c_243
            refine lv_iconst (v := 0) hx hb dX5_run_246 (by decide) ?_
            refine lv_goto (tgt := 254) hx hb dX5_run_247 (by decide) ?_
            exact m_iret (v := 0) X G hr hlocks (by rw [hI]; simp only [F_run_L91, eq_false c_94, eq_false c_101, eq_false c_108, eq_false c_243, ↓reduceIte, si_self, sm_self, si_snd, sm_fst, si20_16, not_false_eq_true, not_true_eq_false, eq_self, scp_2, scp_3, scp_4]) dX5_run_254
        · have c_108 : (τ.1 18) = 0 := c_108
          refine lv_aload_n hx hb dX5_run_111 rfl (lv_at hl 0 rfl) ?_
          refine m_get_16 X G (by decide +kernel) dX5_run_112 ?_
          refine lv_if_ne (tgt := 231) hx hb dX5_run_115 (by decide) (fun c_115 => ?_) (fun c_115 => ?_)
          · have c_115 : ¬ ((τ.1 16) = 0) := c_115
            refine lv_aload_n hx hb dX5_run_231 rfl (lv_at hl 0 rfl) ?_
            refine lv_aload_n hx hb dX5_run_232 rfl (lv_at hl 0 rfl) ?_
            refine m_get_16 X G (by decide +kernel) dX5_run_233 ?_
            refine m_put_17 X G (by decide +kernel) dX5_run_236 (fun H locs G => ?_)
            have G : mH dC dI h ad cI cJ (si τ 17 (τ.1 16)) (mA h ad cI cJ σ sz) s.heap H locs := G
            refine lv_aload_n hx hb dX5_run_239 rfl (lv_at hl 0 rfl) ?_
            refine m_get_16 X G (by decide +kernel) dX5_run_240 ?_
            refine lv_if_le (tgt := 250) hx hb dX5_run_243 (by decide) (fun c_243 => ?_) (fun c_243 => ?_)
            · have c_243 : (τ.1 16) ≤ 0 := c_243
              refine lv_aload_n hx hb dX5_run_250 rfl (lv_at hl 0 rfl) ?_
              refine m_get_15 X G (by decide +kernel) dX5_run_251 ?_
              exact m_iret (v := (τ.1 15)) X G hr hlocks (by rw [hI]; simp only [F_run_L91, eq_false c_94, eq_false c_101, eq_true c_108, eq_false c_115, eq_true c_243, ↓reduceIte, si_self, sm_self, si_snd, sm_fst, si20_16, not_false_eq_true, not_true_eq_false, eq_self, scp_2, scp_3, scp_4]) dX5_run_254
            · have c_243 : ¬ ((τ.1 16) ≤ 0) := c_243
              refine lv_iconst (v := 0) hx hb dX5_run_246 (by decide) ?_
              refine lv_goto (tgt := 254) hx hb dX5_run_247 (by decide) ?_
              exact m_iret (v := 0) X G hr hlocks (by rw [hI]; simp only [F_run_L91, eq_false c_94, eq_false c_101, eq_true c_108, eq_false c_115, eq_false c_243, ↓reduceIte, si_self, sm_self, si_snd, sm_fst, si20_16, not_false_eq_true, not_true_eq_false, eq_self, scp_2, scp_3, scp_4]) dX5_run_254
          · have c_115 : (τ.1 16) = 0 := c_115
            refine lv_aload_n hx hb dX5_run_118 rfl (lv_at hl 0 rfl) ?_
            refine m_get_11 X G (by decide +kernel) dX5_run_119 ?_
            refine lv_iconst (v := 1) hx hb dX5_run_122 (by decide) ?_
            refine lv_isub hx hb dX5_run_123 ?_
            refine lv_istore_n (lv' := [(3, .int ((τ.1 11) - 1)), (0, .ref h), (1, .int y0), (2, .int k1)]) hx hb dX5_run_124 rfl hl (by decide) rfl (fun ls hl => ?_)
            refine lv_aload_n hx hb dX5_run_125 rfl (lv_at hl 1 rfl) ?_
            refine m_get_10 X G (by decide +kernel) dX5_run_126 ?_
            refine lv_iload_n hx hb dX5_run_129 rfl (lv_at hl 0 rfl) ?_
            refine m_ld_10 X G (vin hv (by omega) (by omega)) dX5_run_130 ?_
            refine lv_istore (lv' := [(4, .int (τ.2.2.1 10 ((τ.1 11) - 1).toNatClampNeg)), (3, .int ((τ.1 11) - 1)), (0, .ref h), (1, .int y0), (2, .int k1)]) hx hb dX5_run_131 hl (by decide) rfl (fun ls hl => ?_)
            refine lv_iload hx hb dX5_run_133 (lv_at hl 0 rfl) ?_
            refine lv_aload_n hx hb dX5_run_135 rfl (lv_at hl 2 rfl) ?_
            refine m_get_9 X G (by decide +kernel) dX5_run_136 ?_
            refine lv_iload_n hx hb dX5_run_139 rfl (lv_at hl 1 rfl) ?_
            refine m_ld_9 X G (vin hv (by omega) (by omega)) dX5_run_140 ?_
            refine lv_icmp_lt (tgt := 157) hx hb dX5_run_141 (by decide) (fun c_141 => ?_) (fun c_141 => ?_)
            · have c_141 : (τ.2.2.1 10 ((τ.1 11) - 1).toNatClampNeg) < (τ.2.2.1 9 ((τ.1 11) - 1).toNatClampNeg) := c_141
              have h141 := i_lt c_141
              refine lv_aload_n hx hb dX5_run_157 rfl (lv_at hl 2 rfl) ?_
              refine lv_aload_n hx hb dX5_run_158 rfl (lv_at hl 2 rfl) ?_
              refine m_get_8 X G (by decide +kernel) dX5_run_159 ?_
              refine lv_sipush (v := 160) hx hb dX5_run_162 (by decide) ?_
              refine lv_iload_n hx hb dX5_run_165 rfl (lv_at hl 1 rfl) ?_
              refine lv_imul hx hb dX5_run_166 ?_
              refine lv_iload hx hb dX5_run_167 (lv_at hl 0 rfl) ?_
              refine lv_iadd hx hb dX5_run_169 ?_
              refine m_ld_8 X G (vin (i_addE (i_mulE (show (160 : Int32).toInt = 160 from rfl) (i_subE (rfl : (τ.1 11).toInt = _) (show (1 : Int32).toInt = 1 from rfl) (by omega) (by omega)) (by omega) (by omega)) (rfl : (τ.2.2.1 10 ((τ.1 11) - 1).toNatClampNeg).toInt = _) (by omega) (by omega)) (by omega) (by omega)) dX5_run_170 ?_
              refine W.callR (W.runV (C := RX5) (As := [.int (τ.2.2.1 8 ((160 * ((τ.1 11) - 1)) + (τ.2.2.1 10 ((τ.1 11) - 1).toNatClampNeg)).toNatClampNeg)]) (rest := []) ⟨hx, hb, hml, hown, hts⟩ (c_M_isNothing l h (τ.2.2.1 8 ((160 * ((τ.1 11) - 1)) + (τ.2.2.1 10 ((τ.1 11) - 1).toNatClampNeg)).toNatClampNeg)) (cwV 1 hts gX5_run_X5_isNothing rfl rfl rfl (by decide +kernel) ⟨Nat.le_of_ble_eq_true rfl, Nat.le_of_ble_eq_true rfl⟩) ⟨fun a U g mk q => q, va_recv X.2.2.2.2.2 G.1 (ci := 4) (q0 := 0) rfl rfl, fun U _ _ => ⟨rfl, trivial⟩⟩ rfl rfl hl.1 rfl (lv_room (Nat.le_of_ble_eq_true rfl)) dX5_run_171 ⟨Nat.zero_le _, Nat.zero_le _⟩) ?_
              refine W.eq (g2 := F0 m 174 ls [.int (f_isNothing (τ.2.2.1 8 ((160 * ((τ.1 11) - 1)) + (τ.2.2.1 10 ((τ.1 11) - 1).toNatClampNeg)).toNatClampNeg))]) rfl ?_
              refine lv_if_eq (tgt := 190) hx hb dX5_run_174 (by decide) (fun c_174 => ?_) (fun c_174 => ?_)
              · have c_174 : (f_isNothing (τ.2.2.1 8 ((160 * ((τ.1 11) - 1)) + (τ.2.2.1 10 ((τ.1 11) - 1).toNatClampNeg)).toNatClampNeg)) = 0 := c_174
                refine lv_aload_n hx hb dX5_run_190 rfl (lv_at hl 2 rfl) ?_
                refine m_get_15 X G (by decide +kernel) dX5_run_191 ?_
                refine lv_iload_n hx hb dX5_run_194 rfl (lv_at hl 3 rfl) ?_
                refine lv_icmp_ne (tgt := 206) hx hb dX5_run_195 (by decide) (fun c_195 => ?_) (fun c_195 => ?_)
                · have c_195 : ¬ ((τ.1 15) = y0) := c_195
                  refine lv_aload_n hx hb dX5_run_206 rfl (lv_at hl 2 rfl) ?_
                  refine lv_iload hx hb dX5_run_207 (lv_at hl 0 rfl) ?_
                  refine m_calli (As := [.int (τ.2.2.1 10 ((τ.1 11) - 1).toNatClampNeg)]) (rest := []) X hml G hA (c_M_command l dC dI cI cJ h ad _ τ (τ.2.2.1 10 ((τ.1 11) - 1).toNatClampNeg) hd0 hd hp0 htx hhel (by omega) hv1 ha (by omega) hs.2) (cwV 1 hts gX5_run_X5_command rfl rfl rfl (by decide +kernel) ⟨Nat.le_of_ble_eq_true rfl, Nat.le_of_ble_eq_true rfl⟩) rfl hl.1 rfl (Nat.le_of_ble_eq_true rfl) dX5_run_209 ⟨Nat.zero_le _, Nat.zero_le _⟩ (fun r_209 u_209 H locs hw_209 G => ?_)
                  refine lv_if_eq (tgt := 225) hx hb dX5_run_212 (by decide) (fun c_212 => ?_) (fun c_212 => ?_)
                  · have c_212 : r_209 = 0 := c_212
                    have hR9 : RIs y0 fu (k1 + 1) u_209 := hR.2 _ (by simp only [rnext, eq_false c_94, eq_false c_101, eq_true c_108, eq_true c_115, eq_true c_141, eq_true c_174, eq_false c_195, hw_209, eq_true c_212, ↓reduceIte])
                    refine lv_iinc (v := (k1 + 1)) (lv' := [(2, .int (k1 + 1)), (4, .int (τ.2.2.1 10 ((τ.1 11) - 1).toNatClampNeg)), (3, .int ((τ.1 11) - 1)), (0, .ref h), (1, .int y0)]) hx hb dX5_run_225 hl (k := 4) rfl rfl (by decide) rfl (fun ls hl => ?_)
                    refine lv_goto (tgt := 91) hx hb dX5_run_228 (by decide) ?_
                    exact ih (k1 + 1) u_209 (by rw [hI]; simp only [F_run_L91, eq_false c_94, eq_false c_101, eq_true c_108, eq_true c_115, eq_true c_141, eq_true c_174, eq_false c_195, hw_209, eq_true c_212, ↓reduceIte, si_self, sm_self, si_snd, sm_fst, si20_16, not_false_eq_true, not_true_eq_false, eq_self, scp_2, scp_3, scp_4]) hR9 (mu_inc hm c_94) H locs G ls (lv_sub hl [3, 4, 0] rfl)
                  · have c_212 : ¬ (r_209 = 0) := c_212
                    refine lv_aload_n hx hb dX5_run_215 rfl (lv_at hl 2 rfl) ?_
                    refine lv_dup hx hb dX5_run_216 rfl ?_
                    refine m_get_15 X G (by decide +kernel) dX5_run_217 ?_
                    refine lv_iconst (v := 1) hx hb dX5_run_220 (by decide) ?_
                    refine lv_iadd hx hb dX5_run_221 ?_
                    refine m_put_15 X G (by decide +kernel) dX5_run_222 (fun H locs G => ?_)
                    have G : mH dC dI h ad cI cJ (si u_209 15 ((u_209.1 15) + 1)) (mA h ad cI cJ σ sz) s.heap H locs := G
                    have hR9 : RIs y0 fu (k1 + 1) (si u_209 15 ((u_209.1 15) + 1)) := hR.2 _ (by simp only [rnext, eq_false c_94, eq_false c_101, eq_true c_108, eq_true c_115, eq_true c_141, eq_true c_174, eq_false c_195, hw_209, eq_false c_212, ↓reduceIte])
                    refine lv_iinc (v := (k1 + 1)) (lv' := [(2, .int (k1 + 1)), (4, .int (τ.2.2.1 10 ((τ.1 11) - 1).toNatClampNeg)), (3, .int ((τ.1 11) - 1)), (0, .ref h), (1, .int y0)]) hx hb dX5_run_225 hl (k := 4) rfl rfl (by decide) rfl (fun ls hl => ?_)
                    refine lv_goto (tgt := 91) hx hb dX5_run_228 (by decide) ?_
                    exact ih (k1 + 1) (si u_209 15 ((u_209.1 15) + 1)) (by rw [hI]; simp only [F_run_L91, eq_false c_94, eq_false c_101, eq_true c_108, eq_true c_115, eq_true c_141, eq_true c_174, eq_false c_195, hw_209, eq_false c_212, ↓reduceIte, si_self, sm_self, si_snd, sm_fst, si20_16, not_false_eq_true, not_true_eq_false, eq_self, scp_2, scp_3, scp_4]) hR9 (mu_inc hm c_94) H locs G ls (lv_sub hl [3, 4, 0] rfl)
                · have c_195 : (τ.1 15) = y0 := c_195
                  refine lv_aload_n hx hb dX5_run_198 rfl (lv_at hl 2 rfl) ?_
                  refine lv_iconst (v := 5) hx hb dX5_run_199 (by decide) ?_
                  refine m_put_16 X G (by decide +kernel) dX5_run_200 (fun H locs G => ?_)
                  have G : mH dC dI h ad cI cJ (si τ 16 5) (mA h ad cI cJ σ sz) s.heap H locs := G
                  refine lv_goto (tgt := 225) hx hb dX5_run_203 (by decide) ?_
                  have hR9 : RIs y0 fu (k1 + 1) (si τ 16 5) := hR.2 _ (by simp only [rnext, eq_false c_94, eq_false c_101, eq_true c_108, eq_true c_115, eq_true c_141, eq_true c_174, eq_true c_195, ↓reduceIte])
                  refine lv_iinc (v := (k1 + 1)) (lv' := [(2, .int (k1 + 1)), (4, .int (τ.2.2.1 10 ((τ.1 11) - 1).toNatClampNeg)), (3, .int ((τ.1 11) - 1)), (0, .ref h), (1, .int y0)]) hx hb dX5_run_225 hl (k := 4) rfl rfl (by decide) rfl (fun ls hl => ?_)
                  refine lv_goto (tgt := 91) hx hb dX5_run_228 (by decide) ?_
                  exact ih (k1 + 1) (si τ 16 5) (by rw [hI]; simp only [F_run_L91, eq_false c_94, eq_false c_101, eq_true c_108, eq_true c_115, eq_true c_141, eq_true c_174, eq_true c_195, ↓reduceIte, si_self, sm_self, si_snd, sm_fst, si20_16, not_false_eq_true, not_true_eq_false, eq_self, scp_2, scp_3, scp_4]) hR9 (mu_inc hm c_94) H locs G ls (lv_sub hl [3, 4, 0] rfl)
              · have c_174 : ¬ ((f_isNothing (τ.2.2.1 8 ((160 * ((τ.1 11) - 1)) + (τ.2.2.1 10 ((τ.1 11) - 1).toNatClampNeg)).toNatClampNeg)) = 0) := c_174
                refine lv_aload_n hx hb dX5_run_177 rfl (lv_at hl 2 rfl) ?_
                refine m_get_10 X G (by decide +kernel) dX5_run_178 ?_
                refine lv_iload_n hx hb dX5_run_181 rfl (lv_at hl 1 rfl) ?_
                refine lv_iload hx hb dX5_run_182 (lv_at hl 0 rfl) ?_
                refine lv_iconst (v := 1) hx hb dX5_run_184 (by decide) ?_
                refine lv_iadd hx hb dX5_run_185 ?_
                refine m_st_10 X G (vin hv (by omega) (by omega)) dX5_run_186 (fun H locs G => ?_)
                have G : mH dC dI h ad cI cJ (sa τ 10 ((τ.1 11) - 1).toNatClampNeg ((τ.2.2.1 10 ((τ.1 11) - 1).toNatClampNeg) + 1)) (mA h ad cI cJ σ sz) s.heap H locs := G
                refine lv_goto (tgt := 225) hx hb dX5_run_187 (by decide) ?_
                have hR9 : RIs y0 fu (k1 + 1) (sa τ 10 ((τ.1 11) - 1).toNatClampNeg ((τ.2.2.1 10 ((τ.1 11) - 1).toNatClampNeg) + 1)) := hR.2 _ (by simp only [rnext, eq_false c_94, eq_false c_101, eq_true c_108, eq_true c_115, eq_true c_141, eq_false c_174, ↓reduceIte])
                refine lv_iinc (v := (k1 + 1)) (lv' := [(2, .int (k1 + 1)), (4, .int (τ.2.2.1 10 ((τ.1 11) - 1).toNatClampNeg)), (3, .int ((τ.1 11) - 1)), (0, .ref h), (1, .int y0)]) hx hb dX5_run_225 hl (k := 4) rfl rfl (by decide) rfl (fun ls hl => ?_)
                refine lv_goto (tgt := 91) hx hb dX5_run_228 (by decide) ?_
                exact ih (k1 + 1) (sa τ 10 ((τ.1 11) - 1).toNatClampNeg ((τ.2.2.1 10 ((τ.1 11) - 1).toNatClampNeg) + 1)) (by rw [hI]; simp only [F_run_L91, eq_false c_94, eq_false c_101, eq_true c_108, eq_true c_115, eq_true c_141, eq_false c_174, ↓reduceIte, si_self, sm_self, si_snd, sm_fst, si20_16, not_false_eq_true, not_true_eq_false, eq_self, scp_2, scp_3, scp_4]) hR9 (mu_inc hm c_94) H locs G ls (lv_sub hl [3, 4, 0] rfl)
            · have c_141 : ¬ ((τ.2.2.1 10 ((τ.1 11) - 1).toNatClampNeg) < (τ.2.2.1 9 ((τ.1 11) - 1).toNatClampNeg)) := c_141
              refine lv_aload_n hx hb dX5_run_144 rfl (lv_at hl 2 rfl) ?_
              refine lv_dup hx hb dX5_run_145 rfl ?_
              refine m_get_11 X G (by decide +kernel) dX5_run_146 ?_
              refine lv_iconst (v := 1) hx hb dX5_run_149 (by decide) ?_
              refine lv_isub hx hb dX5_run_150 ?_
              refine m_put_11 X G (by decide +kernel) dX5_run_151 (fun H locs G => ?_)
              have G : mH dC dI h ad cI cJ (si τ 11 ((τ.1 11) - 1)) (mA h ad cI cJ σ sz) s.heap H locs := G
              refine lv_goto (tgt := 225) hx hb dX5_run_154 (by decide) ?_
              have hR9 : RIs y0 fu (k1 + 1) (si τ 11 ((τ.1 11) - 1)) := hR.2 _ (by simp only [rnext, eq_false c_94, eq_false c_101, eq_true c_108, eq_true c_115, eq_false c_141, ↓reduceIte])
              refine lv_iinc (v := (k1 + 1)) (lv' := [(2, .int (k1 + 1)), (4, .int (τ.2.2.1 10 ((τ.1 11) - 1).toNatClampNeg)), (3, .int ((τ.1 11) - 1)), (0, .ref h), (1, .int y0)]) hx hb dX5_run_225 hl (k := 4) rfl rfl (by decide) rfl (fun ls hl => ?_)
              refine lv_goto (tgt := 91) hx hb dX5_run_228 (by decide) ?_
              exact ih (k1 + 1) (si τ 11 ((τ.1 11) - 1)) (by rw [hI]; simp only [F_run_L91, eq_false c_94, eq_false c_101, eq_true c_108, eq_true c_115, eq_false c_141, ↓reduceIte, si_self, sm_self, si_snd, sm_fst, si20_16, not_false_eq_true, not_true_eq_false, eq_self, scp_2, scp_3, scp_4]) hR9 (mu_inc hm c_94) H locs G ls (lv_sub hl [3, 4, 0] rfl)
set_option maxHeartbeats 4000000 in
set_option maxRecDepth 100000 in
theorem c_M_run_L63 {p : Program} (l : Launch) {e : Env} {s : State} {m : MethodId} {below : List Frame} {meth : Method} {c : Code} {dC : Nat → ClassId} {dI : Nat → Nat → Nat} {cI cJ : ClassId} {h : Nat} {ad : Nat → Nat} {sz : Nat} (σ : MS) (y0 : Int32) (hR0 : RI σ) (X : mX p s m ([.ref h, .int y0] : List Value).toArray c cX5_run wsX5_run dC dI cI cJ) (hA : ∀ q : Nat, s.heap.size ≤ q → mA h ad cI cJ σ sz q) (hr : meth.sig.returnType = (some .int)) (hlocks : meth.locks = false) (hml : c.maxLocals = 5) :
    ∀ (fu : Nat) (k1 : Int32) (τ : MS), F_run σ y0 = F_run_L63 y0 fu k1 τ → (RI τ) → (RIt y0 fu k1 τ) → (0 ≤ k1.toInt) → (((τ.1 1).toInt - k1.toInt).toNat < fu) → ∀ (H : Heap) (locs : List Loc), mH dC dI h ad cI cJ τ (mA h ad cI cJ σ sz) s.heap H locs → ∀ ls : Array Slot, lv_has ls 5 [(0, .ref h), (1, .int y0), (2, .int k1)] → W p l e ({ frames := 7, cells := 0, slots := 0, locals := 168 } : Room) s m ([.ref h, .int y0] : List Value).toArray below meth c H locs 0 0 (MQ below (va_Qi (fun r u => F_run σ y0 = (r, u)) (mAt dC dI cI cJ h ad (mA h ad cI cJ σ sz)) (mA h ad cI cJ σ sz)) ([.ref h, .int y0] : List Value).toArray s 0 0 (mA h ad cI cJ σ sz)) (F0 m 63 ls []) := by
  have hx := X.1
  have hb := X.2.1
  have hts := X.2.2.1
  have hown := X.2.2.2.2.1
  intro fu
  induction fu with
  | zero =>
    intro k1 τ hI hR hT hk hm
    exact absurd hm (Nat.not_lt_zero _)
  | succ fu ih =>
    intro k1 τ hI hR hT hk hm H locs G ls hl
    have z1 : (1 : Int32).toInt = 1 := rfl
    have z0 : (0 : Int32).toInt = 0 := rfl
    obtain ⟨⟨hd0, hd⟩, ⟨hp0, hp1⟩, htx, hhel, ⟨hv0, hv1⟩, hsz, hat, hpl, hpr, hln⟩ := id hR
    refine lv_iload_n hx hb dX5_run_63 rfl (lv_at hl 2 rfl) ?_
    refine lv_aload_n hx hb dX5_run_64 rfl (lv_at hl 0 rfl) ?_
    refine m_get_1 X G (by decide +kernel) dX5_run_65 ?_
    refine lv_icmp_ge (tgt := 89) hx hb dX5_run_68 (by decide) (fun c_68 => ?_) (fun c_68 => ?_)
    · have c_68 : (τ.1 1) ≤ k1 := c_68
      refine lv_iconst (v := 0) hx hb dX5_run_89 (by decide) ?_
      refine lv_istore_n (lv' := [(2, .int 0), (0, .ref h), (1, .int y0)]) hx hb dX5_run_90 rfl hl (by decide) rfl (fun ls hl => ?_)
      exact c_M_run_L91 l σ y0 hR0 X hA hr hlocks hml 200001 0 τ (by rw [hI]; simp only [F_run_L63, eq_true c_68, ↓reduceIte, si_self, sm_self, si_snd, sm_fst, si20_16, not_false_eq_true, not_true_eq_false, eq_self, scp_2, scp_3, scp_4]) (by rw [RIt, if_pos c_68] at hT; exact hT) (by decide) _ _ G ls (lv_sub hl [1, 2, 0] rfl)
    · have c_68 : ¬ ((τ.1 1) ≤ k1) := c_68
      have h68 := i_nle c_68
      refine lv_aload_n hx hb dX5_run_71 rfl (lv_at hl 0 rfl) ?_
      refine m_get_8 X G (by decide +kernel) dX5_run_72 ?_
      refine lv_iload_n hx hb dX5_run_75 rfl (lv_at hl 2 rfl) ?_
      refine lv_aload_n hx hb dX5_run_76 rfl (lv_at hl 0 rfl) ?_
      refine m_get_0 X G (by decide +kernel) dX5_run_77 ?_
      refine lv_iload_n hx hb dX5_run_80 rfl (lv_at hl 2 rfl) ?_
      refine m_ld_0 X G (vin (rfl : k1.toInt = _) (by omega) (by omega)) dX5_run_81 ?_
      refine m_st_8 X G (vin (rfl : k1.toInt = _) (by omega) (by omega)) dX5_run_82 (fun H locs G => ?_)
      have G : mH dC dI h ad cI cJ (sa τ 8 k1.toNatClampNeg (τ.2.2.1 0 k1.toNatClampNeg)) (mA h ad cI cJ σ sz) s.heap H locs := G
      refine lv_iinc (v := (k1 + 1)) (lv' := [(2, .int (k1 + 1)), (0, .ref h), (1, .int y0)]) hx hb dX5_run_83 hl (k := 2) rfl rfl (by decide) rfl (fun ls hl => ?_)
      refine lv_goto (tgt := 63) hx hb dX5_run_86 (by decide) ?_
      exact ih (k1 + 1) (sa τ 8 k1.toNatClampNeg (τ.2.2.1 0 k1.toNatClampNeg)) (by rw [hI]; simp only [F_run_L63, eq_false c_68, ↓reduceIte, si_self, sm_self, si_snd, sm_fst, si20_16, not_false_eq_true, not_true_eq_false, eq_self, scp_2, scp_3, scp_4]) (ri_text hR) (by rw [RIt, if_neg c_68] at hT; exact hT) (by rw [i_inc c_68]; omega) (mu_inc hm c_68) H locs G ls (lv_sub hl [1, 2, 0] rfl)
set_option maxHeartbeats 4000000 in
set_option maxRecDepth 100000 in
theorem c_M_run (l : Launch) (dC : Nat → ClassId) (dI : Nat → Nat → Nat) (cI cJ : ClassId) (h : Nat) (ad : Nat → Nat) (sz : Nat) (σ : MS) (y0 : Int32) (hR0 : RI σ) (hRt : ¬ f_within y0.toInt64 0 500 = 0 → RIt y0 161 0 (stM σ)) : Met l yX5_run wsX5_run ({ frames := 7, cells := 0, slots := 0, locals := 168 } : Room) (va_Pc [.ref h, .int y0] (mPre dC dI cI cJ h ad sz σ)) (va_Qi (fun r u => F_run σ y0 = (r, u)) (mAt dC dI cI cJ h ad (mA h ad cI cJ σ sz)) (mA h ad cI cJ σ sz)) 0 0 (mA h ad cI cJ σ sz) := by
  refine m_ofW (cc := cX5_run) (maxL := 5) (ret := (some .int)) (by decide) rfl (by decide +kernel) rfl (Nat.le_of_ble_eq_true rfl) ?_
  intro p e s m below meth c X G hA hr hlocks hml ls hl
  have hl : lv_has ls 5 [(0, .ref h), (1, .int y0)] := hl
  have hx := X.1
  have hb := X.2.1
  have hts := X.2.2.1
  have hown := X.2.2.2.2.1
  refine lv_aload_n hx hb dX5_run_0 rfl (lv_at hl 0 rfl) ?_
  refine lv_iconst (v := 1) hx hb dX5_run_1 (by decide) ?_
  refine m_put_17 X G (by decide +kernel) dX5_run_2 (fun H locs G => ?_)
  have G : mH dC dI h ad cI cJ (si σ 17 1) (mA h ad cI cJ σ sz) s.heap H locs := G
  refine lv_iload_n hx hb dX5_run_5 rfl (lv_at hl 1 rfl) ?_
  refine lv_i2l hx hb dX5_run_6 rfl ?_
  refine lv_lconst (v := 0) hx hb dX5_run_7 (by decide) ?_
  refine lv_ldc2 (v := 500) hx hb hown (hts (.constantLong RX5 213 (500)) (by decide +kernel)) dX5_run_8 ?_
  refine W.callR (W.runS (As := [.long y0.toInt64, .long 0, .long 500]) (rest := []) ⟨hx, hb, hml, hown, hts⟩ (c_M_within l y0.toInt64 0 500) (va_cwS 3 hts gX5_run_X5_within rfl rfl rfl (by decide +kernel) ⟨Nat.le_of_ble_eq_true rfl, Nat.le_of_ble_eq_true rfl⟩) ⟨fun a U g mk q => q, fun U _ _ => ⟨rfl, trivial⟩⟩ rfl rfl hl.1 rfl (lv_room (Nat.le_of_ble_eq_true rfl)) dX5_run_11 ⟨Nat.zero_le _, Nat.zero_le _⟩) ?_
  refine W.eq (g2 := F0 m 14 ls [.int (f_within y0.toInt64 0 500)]) rfl ?_
  refine lv_if_ne (tgt := 19) hx hb dX5_run_14 (by decide) (fun c_14 => ?_) (fun c_14 => ?_)
  · have c_14 : ¬ ((f_within y0.toInt64 0 500) = 0) := c_14
    refine lv_aload_n hx hb dX5_run_19 rfl (lv_at hl 0 rfl) ?_
    refine lv_iconst (v := 0) hx hb dX5_run_20 (by decide) ?_
    refine m_put_14 X G (by decide +kernel) dX5_run_21 (fun H locs G => ?_)
    have G : mH dC dI h ad cI cJ (si (si σ 17 1) 14 0) (mA h ad cI cJ σ sz) s.heap H locs := G
    refine lv_aload_n hx hb dX5_run_24 rfl (lv_at hl 0 rfl) ?_
    refine lv_iconst (v := 0) hx hb dX5_run_25 (by decide) ?_
    refine m_put_15 X G (by decide +kernel) dX5_run_26 (fun H locs G => ?_)
    have G : mH dC dI h ad cI cJ (si (si (si σ 17 1) 14 0) 15 0) (mA h ad cI cJ σ sz) s.heap H locs := G
    refine lv_aload_n hx hb dX5_run_29 rfl (lv_at hl 0 rfl) ?_
    refine lv_iconst (v := 0) hx hb dX5_run_30 (by decide) ?_
    refine m_put_16 X G (by decide +kernel) dX5_run_31 (fun H locs G => ?_)
    have G : mH dC dI h ad cI cJ (si (si (si (si σ 17 1) 14 0) 15 0) 16 0) (mA h ad cI cJ σ sz) s.heap H locs := G
    refine lv_aload_n hx hb dX5_run_34 rfl (lv_at hl 0 rfl) ?_
    refine lv_iconst (v := 0) hx hb dX5_run_35 (by decide) ?_
    refine m_put_18 X G rfl rfl (by decide +kernel) dX5_run_36 (fun H locs G => ?_)
    have G : mH dC dI h ad cI cJ (si (si (si (si (si σ 17 1) 14 0) 15 0) 16 0) 18 0) (mA h ad cI cJ σ sz) s.heap H locs := G
    refine lv_aload_n hx hb dX5_run_39 rfl (lv_at hl 0 rfl) ?_
    refine lv_iconst (v := 1) hx hb dX5_run_40 (by decide) ?_
    refine m_put_11 X G (by decide +kernel) dX5_run_41 (fun H locs G => ?_)
    have G : mH dC dI h ad cI cJ (si (si (si (si (si (si σ 17 1) 14 0) 15 0) 16 0) 18 0) 11 1) (mA h ad cI cJ σ sz) s.heap H locs := G
    refine lv_aload_n hx hb dX5_run_44 rfl (lv_at hl 0 rfl) ?_
    refine m_get_9 X G (by decide +kernel) dX5_run_45 ?_
    refine lv_iconst (v := 0) hx hb dX5_run_48 (by decide) ?_
    refine lv_aload_n hx hb dX5_run_49 rfl (lv_at hl 0 rfl) ?_
    refine m_get_1 X G (by decide +kernel) dX5_run_50 ?_
    refine m_st_9 X G (vin (show (0 : Int32).toInt = 0 from rfl) (by omega) (by omega)) dX5_run_53 (fun H locs G => ?_)
    have G : mH dC dI h ad cI cJ (sa (si (si (si (si (si (si σ 17 1) 14 0) 15 0) 16 0) 18 0) 11 1) 9 (0 : Int32).toNatClampNeg (σ.1 1)) (mA h ad cI cJ σ sz) s.heap H locs := G
    refine lv_aload_n hx hb dX5_run_54 rfl (lv_at hl 0 rfl) ?_
    refine m_get_10 X G (by decide +kernel) dX5_run_55 ?_
    refine lv_iconst (v := 0) hx hb dX5_run_58 (by decide) ?_
    refine lv_iconst (v := 0) hx hb dX5_run_59 (by decide) ?_
    refine m_st_10 X G (vin (show (0 : Int32).toInt = 0 from rfl) (by omega) (by omega)) dX5_run_60 (fun H locs G => ?_)
    have G : mH dC dI h ad cI cJ (sa (sa (si (si (si (si (si (si σ 17 1) 14 0) 15 0) 16 0) 18 0) 11 1) 9 (0 : Int32).toNatClampNeg (σ.1 1)) 10 (0 : Int32).toNatClampNeg 0) (mA h ad cI cJ σ sz) s.heap H locs := G
    refine lv_iconst (v := 0) hx hb dX5_run_61 (by decide) ?_
    refine lv_istore_n (lv' := [(2, .int 0), (0, .ref h), (1, .int y0)]) hx hb dX5_run_62 rfl hl (by decide) rfl (fun ls hl => ?_)
    exact c_M_run_L63 l σ y0 hR0 X hA hr hlocks hml 161 0 (sa (sa (si (si (si (si (si (si σ 17 1) 14 0) 15 0) 16 0) 18 0) 11 1) 9 (0 : Int32).toNatClampNeg (σ.1 1)) 10 (0 : Int32).toNatClampNeg 0) (by simp only [F_run, eq_false c_14, ↓reduceIte, si_self, sm_self, si_snd, sm_fst, si20_16, not_false_eq_true, not_true_eq_false, eq_self, scp_2, scp_3, scp_4]) (ri_at (by decide) (ri_size (by obtain ⟨-, -, -, -, -, -, -, -, -, h9⟩ := hR0; exact h9.1) (by obtain ⟨-, -, -, -, -, -, -, -, -, h9⟩ := hR0; exact h9.2) (ri_lev (by decide) (by decide) (ri_si (by decide) (ri_si (by decide) (ri_si (by decide) (ri_pri (by decide) (by decide) (ri_si (by decide) hR0)))))))) (hRt c_14) (by decide) (show ((σ.1 1).toInt - (0 : Int32).toInt).toNat < 161 from by obtain ⟨-, -, -, -, -, -, -, -, -, h9⟩ := hR0; have z0 : (0 : Int32).toInt = 0 := rfl; omega) _ _ G ls (lv_sub hl [1, 2, 0] rfl)
  · have c_14 : (f_within y0.toInt64 0 500) = 0 := c_14
    refine lv_iconst (v := 0) hx hb dX5_run_17 (by decide) ?_
    exact m_iret (v := 0) X G hr hlocks (by simp only [F_run, eq_true c_14, ↓reduceIte, si_self, sm_self, si_snd, sm_fst, si20_16, not_false_eq_true, not_true_eq_false, eq_self, scp_2, scp_3, scp_4]) dX5_run_18
