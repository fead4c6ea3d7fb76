set_option maxHeartbeats 4000000 in
set_option maxRecDepth 100000 in
theorem c_M_digits_L47 {p : Program} (l : Launch) {e : Env} {s : State} {m : MethodId} {below : List Frame} {meth : Method} {c : Code} {dC : Nat → ClassId} {dI : Nat → Nat → Nat} {cI cJ : ClassId} {h : Nat} {ad : Nat → Nat} {sz : Nat} (σ : MS) (f0 : Int32) (hf0 : 0 ≤ f0.toInt) (hf1 : f0.toInt ≤ 160) (hl0 : 1 ≤ (σ.1 11).toInt) (hl1 : (σ.1 11).toInt ≤ 12) (hs : (σ.2.2.1 9 (σ.1 11 - 1).toNatClampNeg).toInt ≤ 160) (hd0 : 0 ≤ (σ.1 5).toInt) (hd1 : (σ.1 5).toInt ≤ 40) (X : mX p s m ([.ref h, .int f0] : List Value).toArray c cX5_digits wsX5_digits dC dI cI cJ) (hA : ∀ q : Nat, s.heap.size ≤ q → mA h ad cI cJ σ sz q) (hr : meth.sig.returnType = (some .boolean)) (hlocks : meth.locks = false) (hml : c.maxLocals = 11) :
    ∀ (fu : Nat) (v2 : Int32) (i1 : Int32) (g1 : Int32) (w1 : Int64) (a1 : Int32) (b1 : Int32) (k1 : Int32) (τ : MS), F_digits σ f0 = F_digits_L47 f0 fu v2 i1 g1 w1 a1 b1 k1 τ → (0 ≤ v2.toInt) → (v2.toInt < 12) → (0 ≤ i1.toInt) → (i1.toInt ≤ 161 + k1.toInt) → (0 ≤ k1.toInt) → ((τ.2.2.1 9 v2.toNatClampNeg).toInt ≤ 160) → (0 ≤ (τ.1 5).toInt) → ((τ.1 5).toInt ≤ 40) → (((160 : Int32).toInt - k1.toInt).toNat < fu) → ∀ (H : Heap) (locs : List Loc), mH dC dI h ad cI cJ τ (mA h ad cI cJ σ sz) s.heap H locs → ∀ ls : Array Slot, lv_has ls 11 [(0, .ref h), (1, .int f0), (2, .int v2), (3, .int i1), (4, .int g1), (5, .long w1), (7, .int a1), (8, .int b1), (9, .int k1)] → W p l e ({ frames := 2, cells := 0, slots := 0, locals := 41 } : Room) s m ([.ref h, .int f0] : List Value).toArray below meth c H locs 0 0 (MQ below (va_Qi (fun r u => F_digits σ f0 = (r, u)) (mAt dC dI cI cJ h ad (mA h ad cI cJ σ sz)) (mA h ad cI cJ σ sz)) ([.ref h, .int f0] : List Value).toArray s 0 0 (mA h ad cI cJ σ sz)) (F0 m 47 ls []) := by
  have hx := X.1
  have hb := X.2.1
  have hts := X.2.2.1
  have hown := X.2.2.2.2.1
  intro fu
  induction fu with
  | zero =>
    intro v2 i1 g1 w1 a1 b1 k1 τ hI h20 h21 hi1 hi2 hk hsz hd3 hd4 hm
    exact absurd hm (Nat.not_lt_zero _)
  | succ fu ih =>
    intro v2 i1 g1 w1 a1 b1 k1 τ hI h20 h21 hi1 hi2 hk hsz hd3 hd4 hm H locs G ls hl
    have z0 : (0 : Int32).toInt = 0 := rfl
    refine lv_iload hx hb dX5_digits_47 (lv_at hl 8 rfl) ?_
    refine lv_sipush (v := 160) hx hb dX5_digits_49 (by decide) ?_
    refine lv_icmp_ge (tgt := 139) hx hb dX5_digits_52 (by decide) (fun c_52 => ?_) (fun c_52 => ?_)
    · have c_52 : 160 ≤ k1 := c_52
      refine lv_iload hx hb dX5_digits_139 (lv_at hl 6 rfl) ?_
      refine lv_iconst (v := 1) hx hb dX5_digits_141 (by decide) ?_
      refine lv_icmp_lt (tgt := 159) hx hb dX5_digits_142 (by decide) (fun c_142 => ?_) (fun c_142 => ?_)
      · have c_142 : a1 < 1 := c_142
        refine lv_aload_n hx hb dX5_digits_159 rfl (lv_at hl 0 rfl) ?_
        refine lv_iconst (v := 1) hx hb dX5_digits_160 (by decide) ?_
        refine m_calli (As := [.int 1]) (rest := []) X hml G hA (c_M_fail l dC dI cI cJ h ad _ τ 1) (cwV 1 hts gX5_digits_X5_fail rfl rfl rfl (by decide +kernel) ⟨Nat.le_of_ble_eq_true rfl, Nat.le_of_ble_eq_true rfl⟩) rfl hl.1 rfl (Nat.le_of_ble_eq_true rfl) dX5_digits_161 ⟨Nat.zero_le _, Nat.zero_le _⟩ (fun r_161 u_161 H locs hw_161 G => ?_)
        obtain ⟨rfl, rfl⟩ := hw_161
        exact m_zret X G hr hlocks rfl (by rw [hI]; simp only [F_digits_L47, eq_true c_52, eq_true c_142, ↓reduceIte, si_self, sm_self, si_snd, sm_fst, si20_16, not_false_eq_true, not_true_eq_false, eq_self] <;> rfl) dX5_digits_164
      · have c_142 : ¬ (a1 < 1) := c_142
        refine lv_iload hx hb dX5_digits_145 (lv_at hl 6 rfl) ?_
        refine lv_bipush (v := 18) hx hb dX5_digits_147 (by decide) ?_
        refine lv_icmp_gt (tgt := 159) hx hb dX5_digits_149 (by decide) (fun c_149 => ?_) (fun c_149 => ?_)
        · have c_149 : 18 < a1 := c_149
          refine lv_aload_n hx hb dX5_digits_159 rfl (lv_at hl 0 rfl) ?_
          refine lv_iconst (v := 1) hx hb dX5_digits_160 (by decide) ?_
          refine m_calli (As := [.int 1]) (rest := []) X hml G hA (c_M_fail l dC dI cI cJ h ad _ τ 1) (cwV 1 hts gX5_digits_X5_fail rfl rfl rfl (by decide +kernel) ⟨Nat.le_of_ble_eq_true rfl, Nat.le_of_ble_eq_true rfl⟩) rfl hl.1 rfl (Nat.le_of_ble_eq_true rfl) dX5_digits_161 ⟨Nat.zero_le _, Nat.zero_le _⟩ (fun r_161 u_161 H locs hw_161 G => ?_)
          obtain ⟨rfl, rfl⟩ := hw_161
          exact m_zret X G hr hlocks rfl (by rw [hI]; simp only [F_digits_L47, eq_true c_52, eq_false c_142, eq_true c_149, ↓reduceIte, si_self, sm_self, si_snd, sm_fst, si20_16, not_false_eq_true, not_true_eq_false, eq_self] <;> rfl) dX5_digits_164
        · have c_149 : ¬ (18 < a1) := c_149
          refine lv_iload hx hb dX5_digits_152 (lv_at hl 7 rfl) ?_
          refine lv_bipush (v := 9) hx hb dX5_digits_154 (by decide) ?_
          refine lv_icmp_le (tgt := 165) hx hb dX5_digits_156 (by decide) (fun c_156 => ?_) (fun c_156 => ?_)
          · have c_156 : b1 ≤ 9 := c_156
            refine lv_aload_n hx hb dX5_digits_165 rfl (lv_at hl 0 rfl) ?_
            refine m_calli (As := []) (rest := []) X hml G hA (c_M_room l dC dI cI cJ h ad _ τ) (cwV 0 hts gX5_digits_X5_room rfl rfl rfl (by decide +kernel) ⟨Nat.le_of_ble_eq_true rfl, Nat.le_of_ble_eq_true rfl⟩) rfl hl.1 rfl (Nat.le_of_ble_eq_true rfl) dX5_digits_166 ⟨Nat.zero_le _, Nat.zero_le _⟩ (fun r_166 u_166 H locs hw_166 G => ?_)
            refine lv_if_ne (tgt := 174) hx hb dX5_digits_169 (by decide) (fun c_169 => ?_) (fun c_169 => ?_)
            · have c_169 : ¬ (r_166 = 0) := c_169
              obtain ⟨rfl, hroom⟩ := room_ok hw_166 c_169
              refine lv_aload_n hx hb dX5_digits_174 rfl (lv_at hl 0 rfl) ?_
              refine lv_iconst (v := 0) hx hb dX5_digits_175 (by decide) ?_
              refine lv_iload hx hb dX5_digits_176 (lv_at hl 4 rfl) ?_
              refine lv_if_eq (tgt := 187) hx hb dX5_digits_178 (by decide) (fun c_178 => ?_) (fun c_178 => ?_)
              · have c_178 : g1 = 0 := c_178
                refine lv_lload hx hb dX5_digits_187 (lv_at hl 5 rfl) ?_
                refine lv_iload hx hb dX5_digits_189 (lv_at hl 7 rfl) ?_
                refine lv_if_ge (tgt := 198) hx hb dX5_digits_191 (by decide) (fun c_191 => ?_) (fun c_191 => ?_)
                · have c_191 : 0 ≤ b1 := c_191
                  refine lv_iload hx hb dX5_digits_198 (lv_at hl 7 rfl) ?_
                  refine m_callv (As := [.int 0, .long w1, .int b1]) (rest := []) X hml G hA (c_M_put l dC dI cI cJ h ad _ τ 0 w1 b1 (show 0 ≤ (τ.1 5).toInt - (0 : Int32).toInt from by omega) (show (τ.1 5).toInt - (0 : Int32).toInt < 82 from by omega)) (cwV 3 hts gX5_digits_X5_put rfl rfl rfl (by decide +kernel) ⟨Nat.le_of_ble_eq_true rfl, Nat.le_of_ble_eq_true rfl⟩) rfl hl.1 rfl (Nat.le_of_ble_eq_true rfl) dX5_digits_200 ⟨Nat.zero_le _, Nat.zero_le _⟩ (fun u_200 H locs hw_200 G => ?_)
                  subst hw_200
                  refine lv_aload_n hx hb dX5_digits_203 rfl (lv_at hl 0 rfl) ?_
                  refine m_get_10 X G (by decide +kernel) dX5_digits_204 ?_
                  refine lv_iload_n hx hb dX5_digits_207 rfl (lv_at hl 2 rfl) ?_
                  refine lv_iload_n hx hb dX5_digits_208 rfl (lv_at hl 3 rfl) ?_
                  refine m_st_10 X G (vin (rfl : v2.toInt = _) (by omega) (by omega)) dX5_digits_209 (fun H locs G => ?_)
                  refine lv_iconst (v := 1) hx hb dX5_digits_210 (by decide) ?_
                  exact m_zret X G hr hlocks rfl (by rw [hI]; simp only [F_digits_L47, eq_true c_52, eq_false c_142, eq_false c_149, eq_true c_156, hw_166, eq_false c_169, eq_true c_178, eq_true c_191, ↓reduceIte, si_self, sm_self, si_snd, sm_fst, si20_16, not_false_eq_true, not_true_eq_false, eq_self] <;> rfl) dX5_digits_211
                · have c_191 : ¬ (0 ≤ b1) := c_191
                  refine lv_iconst (v := 0) hx hb dX5_digits_194 (by decide) ?_
                  refine lv_goto (tgt := 200) hx hb dX5_digits_195 (by decide) ?_
                  refine m_callv (As := [.int 0, .long w1, .int 0]) (rest := []) X hml G hA (c_M_put l dC dI cI cJ h ad _ τ 0 w1 0 (show 0 ≤ (τ.1 5).toInt - (0 : Int32).toInt from by omega) (show (τ.1 5).toInt - (0 : Int32).toInt < 82 from by omega)) (cwV 3 hts gX5_digits_X5_put rfl rfl rfl (by decide +kernel) ⟨Nat.le_of_ble_eq_true rfl, Nat.le_of_ble_eq_true rfl⟩) rfl hl.1 rfl (Nat.le_of_ble_eq_true rfl) dX5_digits_200 ⟨Nat.zero_le _, Nat.zero_le _⟩ (fun u_200 H locs hw_200 G => ?_)
                  subst hw_200
                  refine lv_aload_n hx hb dX5_digits_203 rfl (lv_at hl 0 rfl) ?_
                  refine m_get_10 X G (by decide +kernel) dX5_digits_204 ?_
                  refine lv_iload_n hx hb dX5_digits_207 rfl (lv_at hl 2 rfl) ?_
                  refine lv_iload_n hx hb dX5_digits_208 rfl (lv_at hl 3 rfl) ?_
                  refine m_st_10 X G (vin (rfl : v2.toInt = _) (by omega) (by omega)) dX5_digits_209 (fun H locs G => ?_)
                  refine lv_iconst (v := 1) hx hb dX5_digits_210 (by decide) ?_
                  exact m_zret X G hr hlocks rfl (by rw [hI]; simp only [F_digits_L47, eq_true c_52, eq_false c_142, eq_false c_149, eq_true c_156, hw_166, eq_false c_169, eq_true c_178, eq_false c_191, ↓reduceIte, si_self, sm_self, si_snd, sm_fst, si20_16, not_false_eq_true, not_true_eq_false, eq_self] <;> rfl) dX5_digits_211
              · have c_178 : ¬ (g1 = 0) := c_178
                refine lv_lload hx hb dX5_digits_181 (lv_at hl 5 rfl) ?_
                refine lv_lneg hx hb dX5_digits_183 ?_
                refine lv_goto (tgt := 189) hx hb dX5_digits_184 (by decide) ?_
                refine lv_iload hx hb dX5_digits_189 (lv_at hl 7 rfl) ?_
                refine lv_if_ge (tgt := 198) hx hb dX5_digits_191 (by decide) (fun c_191 => ?_) (fun c_191 => ?_)
                · have c_191 : 0 ≤ b1 := c_191
                  refine lv_iload hx hb dX5_digits_198 (lv_at hl 7 rfl) ?_
                  refine m_callv (As := [.int 0, .long (-w1), .int b1]) (rest := []) X hml G hA (c_M_put l dC dI cI cJ h ad _ τ 0 (-w1) b1 (show 0 ≤ (τ.1 5).toInt - (0 : Int32).toInt from by omega) (show (τ.1 5).toInt - (0 : Int32).toInt < 82 from by omega)) (cwV 3 hts gX5_digits_X5_put rfl rfl rfl (by decide +kernel) ⟨Nat.le_of_ble_eq_true rfl, Nat.le_of_ble_eq_true rfl⟩) rfl hl.1 rfl (Nat.le_of_ble_eq_true rfl) dX5_digits_200 ⟨Nat.zero_le _, Nat.zero_le _⟩ (fun u_200 H locs hw_200 G => ?_)
                  subst hw_200
                  refine lv_aload_n hx hb dX5_digits_203 rfl (lv_at hl 0 rfl) ?_
                  refine m_get_10 X G (by decide +kernel) dX5_digits_204 ?_
                  refine lv_iload_n hx hb dX5_digits_207 rfl (lv_at hl 2 rfl) ?_
                  refine lv_iload_n hx hb dX5_digits_208 rfl (lv_at hl 3 rfl) ?_
                  refine m_st_10 X G (vin (rfl : v2.toInt = _) (by omega) (by omega)) dX5_digits_209 (fun H locs G => ?_)
                  refine lv_iconst (v := 1) hx hb dX5_digits_210 (by decide) ?_
                  exact m_zret X G hr hlocks rfl (by rw [hI]; simp only [F_digits_L47, eq_true c_52, eq_false c_142, eq_false c_149, eq_true c_156, hw_166, eq_false c_169, eq_false c_178, eq_true c_191, ↓reduceIte, si_self, sm_self, si_snd, sm_fst, si20_16, not_false_eq_true, not_true_eq_false, eq_self] <;> rfl) dX5_digits_211
                · have c_191 : ¬ (0 ≤ b1) := c_191
                  refine lv_iconst (v := 0) hx hb dX5_digits_194 (by decide) ?_
                  refine lv_goto (tgt := 200) hx hb dX5_digits_195 (by decide) ?_
                  refine m_callv (As := [.int 0, .long (-w1), .int 0]) (rest := []) X hml G hA (c_M_put l dC dI cI cJ h ad _ τ 0 (-w1) 0 (show 0 ≤ (τ.1 5).toInt - (0 : Int32).toInt from by omega) (show (τ.1 5).toInt - (0 : Int32).toInt < 82 from by omega)) (cwV 3 hts gX5_digits_X5_put rfl rfl rfl (by decide +kernel) ⟨Nat.le_of_ble_eq_true rfl, Nat.le_of_ble_eq_true rfl⟩) rfl hl.1 rfl (Nat.le_of_ble_eq_true rfl) dX5_digits_200 ⟨Nat.zero_le _, Nat.zero_le _⟩ (fun u_200 H locs hw_200 G => ?_)
                  subst hw_200
                  refine lv_aload_n hx hb dX5_digits_203 rfl (lv_at hl 0 rfl) ?_
                  refine m_get_10 X G (by decide +kernel) dX5_digits_204 ?_
                  refine lv_iload_n hx hb dX5_digits_207 rfl (lv_at hl 2 rfl) ?_
                  refine lv_iload_n hx hb dX5_digits_208 rfl (lv_at hl 3 rfl) ?_
                  refine m_st_10 X G (vin (rfl : v2.toInt = _) (by omega) (by omega)) dX5_digits_209 (fun H locs G => ?_)
                  refine lv_iconst (v := 1) hx hb dX5_digits_210 (by decide) ?_
                  exact m_zret X G hr hlocks rfl (by rw [hI]; simp only [F_digits_L47, eq_true c_52, eq_false c_142, eq_false c_149, eq_true c_156, hw_166, eq_false c_169, eq_false c_178, eq_false c_191, ↓reduceIte, si_self, sm_self, si_snd, sm_fst, si20_16, not_false_eq_true, not_true_eq_false, eq_self] <;> rfl) dX5_digits_211
            · have c_169 : r_166 = 0 := c_169
              refine lv_iconst (v := 0) hx hb dX5_digits_172 (by decide) ?_
              exact m_zret X G hr hlocks rfl (by rw [hI]; simp only [F_digits_L47, eq_true c_52, eq_false c_142, eq_false c_149, eq_true c_156, hw_166, eq_true c_169, ↓reduceIte, si_self, sm_self, si_snd, sm_fst, si20_16, not_false_eq_true, not_true_eq_false, eq_self] <;> rfl) dX5_digits_173
          · have c_156 : ¬ (b1 ≤ 9) := c_156
            refine lv_aload_n hx hb dX5_digits_159 rfl (lv_at hl 0 rfl) ?_
            refine lv_iconst (v := 1) hx hb dX5_digits_160 (by decide) ?_
            refine m_calli (As := [.int 1]) (rest := []) X hml G hA (c_M_fail l dC dI cI cJ h ad _ τ 1) (cwV 1 hts gX5_digits_X5_fail rfl rfl rfl (by decide +kernel) ⟨Nat.le_of_ble_eq_true rfl, Nat.le_of_ble_eq_true rfl⟩) rfl hl.1 rfl (Nat.le_of_ble_eq_true rfl) dX5_digits_161 ⟨Nat.zero_le _, Nat.zero_le _⟩ (fun r_161 u_161 H locs hw_161 G => ?_)
            obtain ⟨rfl, rfl⟩ := hw_161
            exact m_zret X G hr hlocks rfl (by rw [hI]; simp only [F_digits_L47, eq_true c_52, eq_false c_142, eq_false c_149, eq_false c_156, ↓reduceIte, si_self, sm_self, si_snd, sm_fst, si20_16, not_false_eq_true, not_true_eq_false, eq_self] <;> rfl) dX5_digits_164
    · have c_52 : ¬ (160 ≤ k1) := c_52
      have h52 := i_nle c_52
      have e160 : (160 : Int32).toInt = 160 := rfl
      have hi3 : (i1 + 1).toInt = i1.toInt + 1 := i_addE rfl rfl (by omega) (by omega)
      have hk3 := i_inc c_52
      refine lv_aload_n hx hb dX5_digits_55 rfl (lv_at hl 0 rfl) ?_
      refine lv_iload_n hx hb dX5_digits_56 rfl (lv_at hl 2 rfl) ?_
      refine lv_iload_n hx hb dX5_digits_57 rfl (lv_at hl 3 rfl) ?_
      refine m_calli (As := [.int v2, .int i1]) (rest := []) X hml G hA (c_M_charAt l dC dI cI cJ h ad _ τ v2 i1 h20 h21 hi1 hsz) (cwV 2 hts gX5_digits_X5_charAt rfl rfl rfl (by decide +kernel) ⟨Nat.le_of_ble_eq_true rfl, Nat.le_of_ble_eq_true rfl⟩) rfl hl.1 rfl (Nat.le_of_ble_eq_true rfl) dX5_digits_58 ⟨Nat.zero_le _, Nat.zero_le _⟩ (fun r_58 u_58 H locs hw_58 G => ?_)
      obtain ⟨rfl, hu_58⟩ := hw_58
      rw [hu_58] at G
      refine lv_istore (lv' := [(10, .int (F_charAt τ v2 i1)), (0, .ref h), (1, .int f0), (2, .int v2), (3, .int i1), (4, .int g1), (5, .long w1), (7, .int a1), (8, .int b1), (9, .int k1)]) hx hb dX5_digits_61 hl (by decide) rfl (fun ls hl => ?_)
      refine lv_iload hx hb dX5_digits_63 (lv_at hl 0 rfl) ?_
      refine lv_bipush (v := 46) hx hb dX5_digits_65 (by decide) ?_
      refine lv_icmp_ne (tgt := 81) hx hb dX5_digits_67 (by decide) (fun c_67 => ?_) (fun c_67 => ?_)
      · have c_67 : ¬ ((F_charAt τ v2 i1) = 46) := c_67
        refine lv_iload hx hb dX5_digits_81 (lv_at hl 0 rfl) ?_
        refine lv_i2l hx hb dX5_digits_83 rfl ?_
        refine lv_ldc2 (v := 48) hx hb hown (hts (.constantLong RX5 123 (48)) (by decide +kernel)) dX5_digits_84 ?_
        refine lv_ldc2 (v := 57) hx hb hown (hts (.constantLong RX5 125 (57)) (by decide +kernel)) dX5_digits_87 ?_
        refine W.callR (W.runS (As := [.long ((F_charAt τ v2 i1).toInt64), .long 48, .long 57]) (rest := []) ⟨hx, hb, hml, hown, hts⟩ (c_M_within l ((F_charAt τ v2 i1).toInt64) 48 57) (va_cwS 3 hts gX5_digits_X5_within rfl rfl rfl (by decide +kernel) ⟨Nat.le_of_ble_eq_true rfl, Nat.le_of_ble_eq_true rfl⟩) ⟨fun a U g mk q => q, fun U _ _ => ⟨rfl, trivial⟩⟩ rfl rfl hl.1 rfl (lv_room (Nat.le_of_ble_eq_true rfl)) dX5_digits_90 ⟨Nat.zero_le _, Nat.zero_le _⟩) ?_
        refine W.eq (g2 := F0 m 93 ls [.int (f_within ((F_charAt τ v2 i1).toInt64) 48 57)]) rfl ?_
        refine lv_if_eq (tgt := 139) hx hb dX5_digits_93 (by decide) (fun c_93 => ?_) (fun c_93 => ?_)
        · have c_93 : (f_within ((F_charAt τ v2 i1).toInt64) 48 57) = 0 := c_93
          refine lv_iload hx hb dX5_digits_139 (lv_at hl 7 rfl) ?_
          refine lv_iconst (v := 1) hx hb dX5_digits_141 (by decide) ?_
          refine lv_icmp_lt (tgt := 159) hx hb dX5_digits_142 (by decide) (fun c_142 => ?_) (fun c_142 => ?_)
          · have c_142 : a1 < 1 := c_142
            refine lv_aload_n hx hb dX5_digits_159 rfl (lv_at hl 1 rfl) ?_
            refine lv_iconst (v := 1) hx hb dX5_digits_160 (by decide) ?_
            refine m_calli (As := [.int 1]) (rest := []) X hml G hA (c_M_fail l dC dI cI cJ h ad _ τ 1) (cwV 1 hts gX5_digits_X5_fail rfl rfl rfl (by decide +kernel) ⟨Nat.le_of_ble_eq_true rfl, Nat.le_of_ble_eq_true rfl⟩) rfl hl.1 rfl (Nat.le_of_ble_eq_true rfl) dX5_digits_161 ⟨Nat.zero_le _, Nat.zero_le _⟩ (fun r_161 u_161 H locs hw_161 G => ?_)
            obtain ⟨rfl, rfl⟩ := hw_161
            exact m_zret X G hr hlocks rfl (by rw [hI]; simp only [F_digits_L47, eq_false c_52, eq_false c_67, eq_true c_93, eq_true c_142, ↓reduceIte, si_self, sm_self, si_snd, sm_fst, si20_16, not_false_eq_true, not_true_eq_false, eq_self] <;> rfl) dX5_digits_164
          · have c_142 : ¬ (a1 < 1) := c_142
            refine lv_iload hx hb dX5_digits_145 (lv_at hl 7 rfl) ?_
            refine lv_bipush (v := 18) hx hb dX5_digits_147 (by decide) ?_
            refine lv_icmp_gt (tgt := 159) hx hb dX5_digits_149 (by decide) (fun c_149 => ?_) (fun c_149 => ?_)
            · have c_149 : 18 < a1 := c_149
              refine lv_aload_n hx hb dX5_digits_159 rfl (lv_at hl 1 rfl) ?_
              refine lv_iconst (v := 1) hx hb dX5_digits_160 (by decide) ?_
              refine m_calli (As := [.int 1]) (rest := []) X hml G hA (c_M_fail l dC dI cI cJ h ad _ τ 1) (cwV 1 hts gX5_digits_X5_fail rfl rfl rfl (by decide +kernel) ⟨Nat.le_of_ble_eq_true rfl, Nat.le_of_ble_eq_true rfl⟩) rfl hl.1 rfl (Nat.le_of_ble_eq_true rfl) dX5_digits_161 ⟨Nat.zero_le _, Nat.zero_le _⟩ (fun r_161 u_161 H locs hw_161 G => ?_)
              obtain ⟨rfl, rfl⟩ := hw_161
              exact m_zret X G hr hlocks rfl (by rw [hI]; simp only [F_digits_L47, eq_false c_52, eq_false c_67, eq_true c_93, eq_false c_142, eq_true c_149, ↓reduceIte, si_self, sm_self, si_snd, sm_fst, si20_16, not_false_eq_true, not_true_eq_false, eq_self] <;> rfl) dX5_digits_164
            · have c_149 : ¬ (18 < a1) := c_149
              refine lv_iload hx hb dX5_digits_152 (lv_at hl 8 rfl) ?_
              refine lv_bipush (v := 9) hx hb dX5_digits_154 (by decide) ?_
              refine lv_icmp_le (tgt := 165) hx hb dX5_digits_156 (by decide) (fun c_156 => ?_) (fun c_156 => ?_)
              · have c_156 : b1 ≤ 9 := c_156
                refine lv_aload_n hx hb dX5_digits_165 rfl (lv_at hl 1 rfl) ?_
                refine m_calli (As := []) (rest := []) X hml G hA (c_M_room l dC dI cI cJ h ad _ τ) (cwV 0 hts gX5_digits_X5_room rfl rfl rfl (by decide +kernel) ⟨Nat.le_of_ble_eq_true rfl, Nat.le_of_ble_eq_true rfl⟩) rfl hl.1 rfl (Nat.le_of_ble_eq_true rfl) dX5_digits_166 ⟨Nat.zero_le _, Nat.zero_le _⟩ (fun r_166 u_166 H locs hw_166 G => ?_)
                refine lv_if_ne (tgt := 174) hx hb dX5_digits_169 (by decide) (fun c_169 => ?_) (fun c_169 => ?_)
                · have c_169 : ¬ (r_166 = 0) := c_169
                  obtain ⟨rfl, hroom⟩ := room_ok hw_166 c_169
                  refine lv_aload_n hx hb dX5_digits_174 rfl (lv_at hl 1 rfl) ?_
                  refine lv_iconst (v := 0) hx hb dX5_digits_175 (by decide) ?_
                  refine lv_iload hx hb dX5_digits_176 (lv_at hl 5 rfl) ?_
                  refine lv_if_eq (tgt := 187) hx hb dX5_digits_178 (by decide) (fun c_178 => ?_) (fun c_178 => ?_)
                  · have c_178 : g1 = 0 := c_178
                    refine lv_lload hx hb dX5_digits_187 (lv_at hl 6 rfl) ?_
                    refine lv_iload hx hb dX5_digits_189 (lv_at hl 8 rfl) ?_
                    refine lv_if_ge (tgt := 198) hx hb dX5_digits_191 (by decide) (fun c_191 => ?_) (fun c_191 => ?_)
                    · have c_191 : 0 ≤ b1 := c_191
                      refine lv_iload hx hb dX5_digits_198 (lv_at hl 8 rfl) ?_
                      refine m_callv (As := [.int 0, .long w1, .int b1]) (rest := []) X hml G hA (c_M_put l dC dI cI cJ h ad _ τ 0 w1 b1 (show 0 ≤ (τ.1 5).toInt - (0 : Int32).toInt from by omega) (show (τ.1 5).toInt - (0 : Int32).toInt < 82 from by omega)) (cwV 3 hts gX5_digits_X5_put rfl rfl rfl (by decide +kernel) ⟨Nat.le_of_ble_eq_true rfl, Nat.le_of_ble_eq_true rfl⟩) rfl hl.1 rfl (Nat.le_of_ble_eq_true rfl) dX5_digits_200 ⟨Nat.zero_le _, Nat.zero_le _⟩ (fun u_200 H locs hw_200 G => ?_)
                      subst hw_200
                      refine lv_aload_n hx hb dX5_digits_203 rfl (lv_at hl 1 rfl) ?_
                      refine m_get_10 X G (by decide +kernel) dX5_digits_204 ?_
                      refine lv_iload_n hx hb dX5_digits_207 rfl (lv_at hl 3 rfl) ?_
                      refine lv_iload_n hx hb dX5_digits_208 rfl (lv_at hl 4 rfl) ?_
                      refine m_st_10 X G (vin (rfl : v2.toInt = _) (by omega) (by omega)) dX5_digits_209 (fun H locs G => ?_)
                      refine lv_iconst (v := 1) hx hb dX5_digits_210 (by decide) ?_
                      exact m_zret X G hr hlocks rfl (by rw [hI]; simp only [F_digits_L47, eq_false c_52, eq_false c_67, eq_true c_93, eq_false c_142, eq_false c_149, eq_true c_156, hw_166, eq_false c_169, eq_true c_178, eq_true c_191, ↓reduceIte, si_self, sm_self, si_snd, sm_fst, si20_16, not_false_eq_true, not_true_eq_false, eq_self] <;> rfl) dX5_digits_211
                    · have c_191 : ¬ (0 ≤ b1) := c_191
                      refine lv_iconst (v := 0) hx hb dX5_digits_194 (by decide) ?_
                      refine lv_goto (tgt := 200) hx hb dX5_digits_195 (by decide) ?_
                      refine m_callv (As := [.int 0, .long w1, .int 0]) (rest := []) X hml G hA (c_M_put l dC dI cI cJ h ad _ τ 0 w1 0 (show 0 ≤ (τ.1 5).toInt - (0 : Int32).toInt from by omega) (show (τ.1 5).toInt - (0 : Int32).toInt < 82 from by omega)) (cwV 3 hts gX5_digits_X5_put rfl rfl rfl (by decide +kernel) ⟨Nat.le_of_ble_eq_true rfl, Nat.le_of_ble_eq_true rfl⟩) rfl hl.1 rfl (Nat.le_of_ble_eq_true rfl) dX5_digits_200 ⟨Nat.zero_le _, Nat.zero_le _⟩ (fun u_200 H locs hw_200 G => ?_)
                      subst hw_200
                      refine lv_aload_n hx hb dX5_digits_203 rfl (lv_at hl 1 rfl) ?_
                      refine m_get_10 X G (by decide +kernel) dX5_digits_204 ?_
                      refine lv_iload_n hx hb dX5_digits_207 rfl (lv_at hl 3 rfl) ?_
                      refine lv_iload_n hx hb dX5_digits_208 rfl (lv_at hl 4 rfl) ?_
                      refine m_st_10 X G (vin (rfl : v2.toInt = _) (by omega) (by omega)) dX5_digits_209 (fun H locs G => ?_)
                      refine lv_iconst (v := 1) hx hb dX5_digits_210 (by decide) ?_
                      exact m_zret X G hr hlocks rfl (by rw [hI]; simp only [F_digits_L47, eq_false c_52, eq_false c_67, eq_true c_93, eq_false c_142, eq_false c_149, eq_true c_156, hw_166, eq_false c_169, eq_true c_178, eq_false c_191, ↓reduceIte, si_self, sm_self, si_snd, sm_fst, si20_16, not_false_eq_true, not_true_eq_false, eq_self] <;> rfl) dX5_digits_211
                  · have c_178 : ¬ (g1 = 0) := c_178
                    refine lv_lload hx hb dX5_digits_181 (lv_at hl 6 rfl) ?_
                    refine lv_lneg hx hb dX5_digits_183 ?_
                    refine lv_goto (tgt := 189) hx hb dX5_digits_184 (by decide) ?_
                    refine lv_iload hx hb dX5_digits_189 (lv_at hl 8 rfl) ?_
                    refine lv_if_ge (tgt := 198) hx hb dX5_digits_191 (by decide) (fun c_191 => ?_) (fun c_191 => ?_)
                    · have c_191 : 0 ≤ b1 := c_191
                      refine lv_iload hx hb dX5_digits_198 (lv_at hl 8 rfl) ?_
                      refine m_callv (As := [.int 0, .long (-w1), .int b1]) (rest := []) X hml G hA (c_M_put l dC dI cI cJ h ad _ τ 0 (-w1) b1 (show 0 ≤ (τ.1 5).toInt - (0 : Int32).toInt from by omega) (show (τ.1 5).toInt - (0 : Int32).toInt < 82 from by omega)) (cwV 3 hts gX5_digits_X5_put rfl rfl rfl (by decide +kernel) ⟨Nat.le_of_ble_eq_true rfl, Nat.le_of_ble_eq_true rfl⟩) rfl hl.1 rfl (Nat.le_of_ble_eq_true rfl) dX5_digits_200 ⟨Nat.zero_le _, Nat.zero_le _⟩ (fun u_200 H locs hw_200 G => ?_)
                      subst hw_200
                      refine lv_aload_n hx hb dX5_digits_203 rfl (lv_at hl 1 rfl) ?_
                      refine m_get_10 X G (by decide +kernel) dX5_digits_204 ?_
                      refine lv_iload_n hx hb dX5_digits_207 rfl (lv_at hl 3 rfl) ?_
                      refine lv_iload_n hx hb dX5_digits_208 rfl (lv_at hl 4 rfl) ?_
                      refine m_st_10 X G (vin (rfl : v2.toInt = _) (by omega) (by omega)) dX5_digits_209 (fun H locs G => ?_)
                      refine lv_iconst (v := 1) hx hb dX5_digits_210 (by decide) ?_
                      exact m_zret X G hr hlocks rfl (by rw [hI]; simp only [F_digits_L47, eq_false c_52, eq_false c_67, eq_true c_93, eq_false c_142, eq_false c_149, eq_true c_156, hw_166, eq_false c_169, eq_false c_178, eq_true c_191, ↓reduceIte, si_self, sm_self, si_snd, sm_fst, si20_16, not_false_eq_true, not_true_eq_false, eq_self] <;> rfl) dX5_digits_211
                    · have c_191 : ¬ (0 ≤ b1) := c_191
                      refine lv_iconst (v := 0) hx hb dX5_digits_194 (by decide) ?_
                      refine lv_goto (tgt := 200) hx hb dX5_digits_195 (by decide) ?_
                      refine m_callv (As := [.int 0, .long (-w1), .int 0]) (rest := []) X hml G hA (c_M_put l dC dI cI cJ h ad _ τ 0 (-w1) 0 (show 0 ≤ (τ.1 5).toInt - (0 : Int32).toInt from by omega) (show (τ.1 5).toInt - (0 : Int32).toInt < 82 from by omega)) (cwV 3 hts gX5_digits_X5_put rfl rfl rfl (by decide +kernel) ⟨Nat.le_of_ble_eq_true rfl, Nat.le_of_ble_eq_true rfl⟩) rfl hl.1 rfl (Nat.le_of_ble_eq_true rfl) dX5_digits_200 ⟨Nat.zero_le _, Nat.zero_le _⟩ (fun u_200 H locs hw_200 G => ?_)
                      subst hw_200
                      refine lv_aload_n hx hb dX5_digits_203 rfl (lv_at hl 1 rfl) ?_
                      refine m_get_10 X G (by decide +kernel) dX5_digits_204 ?_
                      refine lv_iload_n hx hb dX5_digits_207 rfl (lv_at hl 3 rfl) ?_
                      refine lv_iload_n hx hb dX5_digits_208 rfl (lv_at hl 4 rfl) ?_
                      refine m_st_10 X G (vin (rfl : v2.toInt = _) (by omega) (by omega)) dX5_digits_209 (fun H locs G => ?_)
                      refine lv_iconst (v := 1) hx hb dX5_digits_210 (by decide) ?_
                      exact m_zret X G hr hlocks rfl (by rw [hI]; simp only [F_digits_L47, eq_false c_52, eq_false c_67, eq_true c_93, eq_false c_142, eq_false c_149, eq_true c_156, hw_166, eq_false c_169, eq_false c_178, eq_false c_191, ↓reduceIte, si_self, sm_self, si_snd, sm_fst, si20_16, not_false_eq_true, not_true_eq_false, eq_self] <;> rfl) dX5_digits_211
                · have c_169 : r_166 = 0 := c_169
                  refine lv_iconst (v := 0) hx hb dX5_digits_172 (by decide) ?_
                  exact m_zret X G hr hlocks rfl (by rw [hI]; simp only [F_digits_L47, eq_false c_52, eq_false c_67, eq_true c_93, eq_false c_142, eq_false c_149, eq_true c_156, hw_166, eq_true c_169, ↓reduceIte, si_self, sm_self, si_snd, sm_fst, si20_16, not_false_eq_true, not_true_eq_false, eq_self] <;> rfl) dX5_digits_173
              · have c_156 : ¬ (b1 ≤ 9) := c_156
                refine lv_aload_n hx hb dX5_digits_159 rfl (lv_at hl 1 rfl) ?_
                refine lv_iconst (v := 1) hx hb dX5_digits_160 (by decide) ?_
                refine m_calli (As := [.int 1]) (rest := []) X hml G hA (c_M_fail l dC dI cI cJ h ad _ τ 1) (cwV 1 hts gX5_digits_X5_fail rfl rfl rfl (by decide +kernel) ⟨Nat.le_of_ble_eq_true rfl, Nat.le_of_ble_eq_true rfl⟩) rfl hl.1 rfl (Nat.le_of_ble_eq_true rfl) dX5_digits_161 ⟨Nat.zero_le _, Nat.zero_le _⟩ (fun r_161 u_161 H locs hw_161 G => ?_)
                obtain ⟨rfl, rfl⟩ := hw_161
                exact m_zret X G hr hlocks rfl (by rw [hI]; simp only [F_digits_L47, eq_false c_52, eq_false c_67, eq_true c_93, eq_false c_142, eq_false c_149, eq_false c_156, ↓reduceIte, si_self, sm_self, si_snd, sm_fst, si20_16, not_false_eq_true, not_true_eq_false, eq_self] <;> rfl) dX5_digits_164
        · have c_93 : ¬ ((f_within ((F_charAt τ v2 i1).toInt64) 48 57) = 0) := c_93
          refine lv_iload hx hb dX5_digits_96 (lv_at hl 7 rfl) ?_
          refine lv_bipush (v := 18) hx hb dX5_digits_98 (by decide) ?_
          refine lv_icmp_ge (tgt := 119) hx hb dX5_digits_100 (by decide) (fun c_100 => ?_) (fun c_100 => ?_)
          · have c_100 : 18 ≤ a1 := c_100
            refine lv_iinc (v := (a1 + 1)) (lv' := [(7, .int (a1 + 1)), (10, .int (F_charAt τ v2 i1)), (0, .ref h), (1, .int f0), (2, .int v2), (3, .int i1), (4, .int g1), (5, .long w1), (8, .int b1), (9, .int k1)]) hx hb dX5_digits_119 hl (k := 7) rfl rfl (by decide) rfl (fun ls hl => ?_)
            refine lv_iload hx hb dX5_digits_122 (lv_at hl 8 rfl) ?_
            refine lv_if_lt (tgt := 130) hx hb dX5_digits_124 (by decide) (fun c_124 => ?_) (fun c_124 => ?_)
            · have c_124 : b1 < 0 := c_124
              refine lv_iinc (v := (i1 + 1)) (lv' := [(3, .int (i1 + 1)), (7, .int (a1 + 1)), (10, .int (F_charAt τ v2 i1)), (0, .ref h), (1, .int f0), (2, .int v2), (4, .int g1), (5, .long w1), (8, .int b1), (9, .int k1)]) hx hb dX5_digits_130 hl (k := 5) rfl rfl (by decide) rfl (fun ls hl => ?_)
              refine lv_iinc (v := (k1 + 1)) (lv' := [(9, .int (k1 + 1)), (3, .int (i1 + 1)), (7, .int (a1 + 1)), (10, .int (F_charAt τ v2 i1)), (0, .ref h), (1, .int f0), (2, .int v2), (4, .int g1), (5, .long w1), (8, .int b1)]) hx hb dX5_digits_133 hl (k := 9) rfl rfl (by decide) rfl (fun ls hl => ?_)
              refine lv_goto (tgt := 47) hx hb dX5_digits_136 (by decide) ?_
              exact ih v2 (i1 + 1) g1 w1 (a1 + 1) b1 (k1 + 1) τ (by rw [hI]; simp only [F_digits_L47, eq_false c_52, eq_false c_67, eq_false c_93, eq_true c_100, eq_true c_124, ↓reduceIte, si_self, sm_self, si_snd, sm_fst, si20_16, not_false_eq_true, not_true_eq_false, eq_self] <;> rfl) h20 h21 (by omega) (by omega) (by omega) hsz hd3 hd4 (mu_inc hm c_52) H locs G ls (lv_sub hl [4, 5, 6, 1, 7, 8, 2, 9, 0] rfl)
            · have c_124 : ¬ (b1 < 0) := c_124
              refine lv_iinc (v := (b1 + 1)) (lv' := [(8, .int (b1 + 1)), (7, .int (a1 + 1)), (10, .int (F_charAt τ v2 i1)), (0, .ref h), (1, .int f0), (2, .int v2), (3, .int i1), (4, .int g1), (5, .long w1), (9, .int k1)]) hx hb dX5_digits_127 hl (k := 8) rfl rfl (by decide) rfl (fun ls hl => ?_)
              refine lv_iinc (v := (i1 + 1)) (lv' := [(3, .int (i1 + 1)), (8, .int (b1 + 1)), (7, .int (a1 + 1)), (10, .int (F_charAt τ v2 i1)), (0, .ref h), (1, .int f0), (2, .int v2), (4, .int g1), (5, .long w1), (9, .int k1)]) hx hb dX5_digits_130 hl (k := 6) rfl rfl (by decide) rfl (fun ls hl => ?_)
              refine lv_iinc (v := (k1 + 1)) (lv' := [(9, .int (k1 + 1)), (3, .int (i1 + 1)), (8, .int (b1 + 1)), (7, .int (a1 + 1)), (10, .int (F_charAt τ v2 i1)), (0, .ref h), (1, .int f0), (2, .int v2), (4, .int g1), (5, .long w1)]) hx hb dX5_digits_133 hl (k := 9) rfl rfl (by decide) rfl (fun ls hl => ?_)
              refine lv_goto (tgt := 47) hx hb dX5_digits_136 (by decide) ?_
              exact ih v2 (i1 + 1) g1 w1 (a1 + 1) (b1 + 1) (k1 + 1) τ (by rw [hI]; simp only [F_digits_L47, eq_false c_52, eq_false c_67, eq_false c_93, eq_true c_100, eq_false c_124, ↓reduceIte, si_self, sm_self, si_snd, sm_fst, si20_16, not_false_eq_true, not_true_eq_false, eq_self] <;> rfl) h20 h21 (by omega) (by omega) (by omega) hsz hd3 hd4 (mu_inc hm c_52) H locs G ls (lv_sub hl [5, 6, 7, 1, 8, 9, 3, 2, 0] rfl)
          · have c_100 : ¬ (18 ≤ a1) := c_100
            refine lv_ldc2 (v := 10) hx hb hown (hts (.constantLong RX5 69 (10)) (by decide +kernel)) dX5_digits_103 ?_
            refine lv_lload hx hb dX5_digits_106 (lv_at hl 6 rfl) ?_
            refine lv_lmul hx hb dX5_digits_108 ?_
            refine lv_iload hx hb dX5_digits_109 (lv_at hl 0 rfl) ?_
            refine lv_i2l hx hb dX5_digits_111 rfl ?_
            refine lv_ladd hx hb dX5_digits_112 ?_
            refine lv_ldc2 (v := 48) hx hb hown (hts (.constantLong RX5 123 (48)) (by decide +kernel)) dX5_digits_113 ?_
            refine lv_lsub hx hb dX5_digits_116 ?_
            refine lv_lstore (lv' := [(5, .long (((10 * w1) + ((F_charAt τ v2 i1).toInt64)) - 48)), (10, .int (F_charAt τ v2 i1)), (0, .ref h), (1, .int f0), (2, .int v2), (3, .int i1), (4, .int g1), (7, .int a1), (8, .int b1), (9, .int k1)]) hx hb dX5_digits_117 hl (by decide) rfl (fun ls hl => ?_)
            refine lv_iinc (v := (a1 + 1)) (lv' := [(7, .int (a1 + 1)), (5, .long (((10 * w1) + ((F_charAt τ v2 i1).toInt64)) - 48)), (10, .int (F_charAt τ v2 i1)), (0, .ref h), (1, .int f0), (2, .int v2), (3, .int i1), (4, .int g1), (8, .int b1), (9, .int k1)]) hx hb dX5_digits_119 hl (k := 7) rfl rfl (by decide) rfl (fun ls hl => ?_)
            refine lv_iload hx hb dX5_digits_122 (lv_at hl 8 rfl) ?_
            refine lv_if_lt (tgt := 130) hx hb dX5_digits_124 (by decide) (fun c_124 => ?_) (fun c_124 => ?_)
            · have c_124 : b1 < 0 := c_124
              refine lv_iinc (v := (i1 + 1)) (lv' := [(3, .int (i1 + 1)), (7, .int (a1 + 1)), (5, .long (((10 * w1) + ((F_charAt τ v2 i1).toInt64)) - 48)), (10, .int (F_charAt τ v2 i1)), (0, .ref h), (1, .int f0), (2, .int v2), (4, .int g1), (8, .int b1), (9, .int k1)]) hx hb dX5_digits_130 hl (k := 6) rfl rfl (by decide) rfl (fun ls hl => ?_)
              refine lv_iinc (v := (k1 + 1)) (lv' := [(9, .int (k1 + 1)), (3, .int (i1 + 1)), (7, .int (a1 + 1)), (5, .long (((10 * w1) + ((F_charAt τ v2 i1).toInt64)) - 48)), (10, .int (F_charAt τ v2 i1)), (0, .ref h), (1, .int f0), (2, .int v2), (4, .int g1), (8, .int b1)]) hx hb dX5_digits_133 hl (k := 9) rfl rfl (by decide) rfl (fun ls hl => ?_)
              refine lv_goto (tgt := 47) hx hb dX5_digits_136 (by decide) ?_
              exact ih v2 (i1 + 1) g1 (((10 * w1) + ((F_charAt τ v2 i1).toInt64)) - 48) (a1 + 1) b1 (k1 + 1) τ (by rw [hI]; simp only [F_digits_L47, eq_false c_52, eq_false c_67, eq_false c_93, eq_false c_100, eq_true c_124, ↓reduceIte, si_self, sm_self, si_snd, sm_fst, si20_16, not_false_eq_true, not_true_eq_false, eq_self] <;> rfl) h20 h21 (by omega) (by omega) (by omega) hsz hd3 hd4 (mu_inc hm c_52) H locs G ls (lv_sub hl [5, 6, 7, 1, 8, 3, 2, 9, 0] rfl)
            · have c_124 : ¬ (b1 < 0) := c_124
              refine lv_iinc (v := (b1 + 1)) (lv' := [(8, .int (b1 + 1)), (7, .int (a1 + 1)), (5, .long (((10 * w1) + ((F_charAt τ v2 i1).toInt64)) - 48)), (10, .int (F_charAt τ v2 i1)), (0, .ref h), (1, .int f0), (2, .int v2), (3, .int i1), (4, .int g1), (9, .int k1)]) hx hb dX5_digits_127 hl (k := 8) rfl rfl (by decide) rfl (fun ls hl => ?_)
              refine lv_iinc (v := (i1 + 1)) (lv' := [(3, .int (i1 + 1)), (8, .int (b1 + 1)), (7, .int (a1 + 1)), (5, .long (((10 * w1) + ((F_charAt τ v2 i1).toInt64)) - 48)), (10, .int (F_charAt τ v2 i1)), (0, .ref h), (1, .int f0), (2, .int v2), (4, .int g1), (9, .int k1)]) hx hb dX5_digits_130 hl (k := 7) rfl rfl (by decide) rfl (fun ls hl => ?_)
              refine lv_iinc (v := (k1 + 1)) (lv' := [(9, .int (k1 + 1)), (3, .int (i1 + 1)), (8, .int (b1 + 1)), (7, .int (a1 + 1)), (5, .long (((10 * w1) + ((F_charAt τ v2 i1).toInt64)) - 48)), (10, .int (F_charAt τ v2 i1)), (0, .ref h), (1, .int f0), (2, .int v2), (4, .int g1)]) hx hb dX5_digits_133 hl (k := 9) rfl rfl (by decide) rfl (fun ls hl => ?_)
              refine lv_goto (tgt := 47) hx hb dX5_digits_136 (by decide) ?_
              exact ih v2 (i1 + 1) g1 (((10 * w1) + ((F_charAt τ v2 i1).toInt64)) - 48) (a1 + 1) (b1 + 1) (k1 + 1) τ (by rw [hI]; simp only [F_digits_L47, eq_false c_52, eq_false c_67, eq_false c_93, eq_false c_100, eq_false c_124, ↓reduceIte, si_self, sm_self, si_snd, sm_fst, si20_16, not_false_eq_true, not_true_eq_false, eq_self] <;> rfl) h20 h21 (by omega) (by omega) (by omega) hsz hd3 hd4 (mu_inc hm c_52) H locs G ls (lv_sub hl [6, 7, 8, 1, 9, 4, 3, 2, 0] rfl)
      · have c_67 : (F_charAt τ v2 i1) = 46 := c_67
        refine lv_iload hx hb dX5_digits_70 (lv_at hl 8 rfl) ?_
        refine lv_if_ge (tgt := 81) hx hb dX5_digits_72 (by decide) (fun c_72 => ?_) (fun c_72 => ?_)
        · have c_72 : 0 ≤ b1 := c_72
          refine lv_iload hx hb dX5_digits_81 (lv_at hl 0 rfl) ?_
          refine lv_i2l hx hb dX5_digits_83 rfl ?_
          refine lv_ldc2 (v := 48) hx hb hown (hts (.constantLong RX5 123 (48)) (by decide +kernel)) dX5_digits_84 ?_
          refine lv_ldc2 (v := 57) hx hb hown (hts (.constantLong RX5 125 (57)) (by decide +kernel)) dX5_digits_87 ?_
          refine W.callR (W.runS (As := [.long ((F_charAt τ v2 i1).toInt64), .long 48, .long 57]) (rest := []) ⟨hx, hb, hml, hown, hts⟩ (c_M_within l ((F_charAt τ v2 i1).toInt64) 48 57) (va_cwS 3 hts gX5_digits_X5_within rfl rfl rfl (by decide +kernel) ⟨Nat.le_of_ble_eq_true rfl, Nat.le_of_ble_eq_true rfl⟩) ⟨fun a U g mk q => q, fun U _ _ => ⟨rfl, trivial⟩⟩ rfl rfl hl.1 rfl (lv_room (Nat.le_of_ble_eq_true rfl)) dX5_digits_90 ⟨Nat.zero_le _, Nat.zero_le _⟩) ?_
          refine W.eq (g2 := F0 m 93 ls [.int (f_within ((F_charAt τ v2 i1).toInt64) 48 57)]) rfl ?_
          refine lv_if_eq (tgt := 139) hx hb dX5_digits_93 (by decide) (fun c_93 => ?_) (fun c_93 => ?_)
          · have c_93 : (f_within ((F_charAt τ v2 i1).toInt64) 48 57) = 0 := c_93
            refine lv_iload hx hb dX5_digits_139 (lv_at hl 7 rfl) ?_
            refine lv_iconst (v := 1) hx hb dX5_digits_141 (by decide) ?_
            refine lv_icmp_lt (tgt := 159) hx hb dX5_digits_142 (by decide) (fun c_142 => ?_) (fun c_142 => ?_)
            · have c_142 : a1 < 1 := c_142
              refine lv_aload_n hx hb dX5_digits_159 rfl (lv_at hl 1 rfl) ?_
              refine lv_iconst (v := 1) hx hb dX5_digits_160 (by decide) ?_
              refine m_calli (As := [.int 1]) (rest := []) X hml G hA (c_M_fail l dC dI cI cJ h ad _ τ 1) (cwV 1 hts gX5_digits_X5_fail rfl rfl rfl (by decide +kernel) ⟨Nat.le_of_ble_eq_true rfl, Nat.le_of_ble_eq_true rfl⟩) rfl hl.1 rfl (Nat.le_of_ble_eq_true rfl) dX5_digits_161 ⟨Nat.zero_le _, Nat.zero_le _⟩ (fun r_161 u_161 H locs hw_161 G => ?_)
              obtain ⟨rfl, rfl⟩ := hw_161
              exact m_zret X G hr hlocks rfl (by rw [hI]; simp only [F_digits_L47, eq_false c_52, eq_true c_67, eq_true c_72, eq_true c_93, eq_true c_142, ↓reduceIte, si_self, sm_self, si_snd, sm_fst, si20_16, not_false_eq_true, not_true_eq_false, eq_self] <;> rfl) dX5_digits_164
            · have c_142 : ¬ (a1 < 1) := c_142
              refine lv_iload hx hb dX5_digits_145 (lv_at hl 7 rfl) ?_
              refine lv_bipush (v := 18) hx hb dX5_digits_147 (by decide) ?_
              refine lv_icmp_gt (tgt := 159) hx hb dX5_digits_149 (by decide) (fun c_149 => ?_) (fun c_149 => ?_)
              · have c_149 : 18 < a1 := c_149
                refine lv_aload_n hx hb dX5_digits_159 rfl (lv_at hl 1 rfl) ?_
                refine lv_iconst (v := 1) hx hb dX5_digits_160 (by decide) ?_
                refine m_calli (As := [.int 1]) (rest := []) X hml G hA (c_M_fail l dC dI cI cJ h ad _ τ 1) (cwV 1 hts gX5_digits_X5_fail rfl rfl rfl (by decide +kernel) ⟨Nat.le_of_ble_eq_true rfl, Nat.le_of_ble_eq_true rfl⟩) rfl hl.1 rfl (Nat.le_of_ble_eq_true rfl) dX5_digits_161 ⟨Nat.zero_le _, Nat.zero_le _⟩ (fun r_161 u_161 H locs hw_161 G => ?_)
                obtain ⟨rfl, rfl⟩ := hw_161
                exact m_zret X G hr hlocks rfl (by rw [hI]; simp only [F_digits_L47, eq_false c_52, eq_true c_67, eq_true c_72, eq_true c_93, eq_false c_142, eq_true c_149, ↓reduceIte, si_self, sm_self, si_snd, sm_fst, si20_16, not_false_eq_true, not_true_eq_false, eq_self] <;> rfl) dX5_digits_164
              · have c_149 : ¬ (18 < a1) := c_149
                refine lv_iload hx hb dX5_digits_152 (lv_at hl 8 rfl) ?_
                refine lv_bipush (v := 9) hx hb dX5_digits_154 (by decide) ?_
                refine lv_icmp_le (tgt := 165) hx hb dX5_digits_156 (by decide) (fun c_156 => ?_) (fun c_156 => ?_)
                · have c_156 : b1 ≤ 9 := c_156
                  refine lv_aload_n hx hb dX5_digits_165 rfl (lv_at hl 1 rfl) ?_
                  refine m_calli (As := []) (rest := []) X hml G hA (c_M_room l dC dI cI cJ h ad _ τ) (cwV 0 hts gX5_digits_X5_room rfl rfl rfl (by decide +kernel) ⟨Nat.le_of_ble_eq_true rfl, Nat.le_of_ble_eq_true rfl⟩) rfl hl.1 rfl (Nat.le_of_ble_eq_true rfl) dX5_digits_166 ⟨Nat.zero_le _, Nat.zero_le _⟩ (fun r_166 u_166 H locs hw_166 G => ?_)
                  refine lv_if_ne (tgt := 174) hx hb dX5_digits_169 (by decide) (fun c_169 => ?_) (fun c_169 => ?_)
                  · have c_169 : ¬ (r_166 = 0) := c_169
                    obtain ⟨rfl, hroom⟩ := room_ok hw_166 c_169
                    refine lv_aload_n hx hb dX5_digits_174 rfl (lv_at hl 1 rfl) ?_
                    refine lv_iconst (v := 0) hx hb dX5_digits_175 (by decide) ?_
                    refine lv_iload hx hb dX5_digits_176 (lv_at hl 5 rfl) ?_
                    refine lv_if_eq (tgt := 187) hx hb dX5_digits_178 (by decide) (fun c_178 => ?_) (fun c_178 => ?_)
                    · have c_178 : g1 = 0 := c_178
                      refine lv_lload hx hb dX5_digits_187 (lv_at hl 6 rfl) ?_
                      refine lv_iload hx hb dX5_digits_189 (lv_at hl 8 rfl) ?_
                      refine lv_if_ge (tgt := 198) hx hb dX5_digits_191 (by decide) (fun c9 => ?_) (fun c9 => absurd (show 0 ≤ b1 from (Int32.not_lt.mp (Int32.not_lt.mpr c_72))) c9)
                      refine lv_iload hx hb dX5_digits_198 (lv_at hl 8 rfl) ?_
                      refine m_callv (As := [.int 0, .long w1, .int b1]) (rest := []) X hml G hA (c_M_put l dC dI cI cJ h ad _ τ 0 w1 b1 (show 0 ≤ (τ.1 5).toInt - (0 : Int32).toInt from by omega) (show (τ.1 5).toInt - (0 : Int32).toInt < 82 from by omega)) (cwV 3 hts gX5_digits_X5_put rfl rfl rfl (by decide +kernel) ⟨Nat.le_of_ble_eq_true rfl, Nat.le_of_ble_eq_true rfl⟩) rfl hl.1 rfl (Nat.le_of_ble_eq_true rfl) dX5_digits_200 ⟨Nat.zero_le _, Nat.zero_le _⟩ (fun u_200 H locs hw_200 G => ?_)
                      subst hw_200
                      refine lv_aload_n hx hb dX5_digits_203 rfl (lv_at hl 1 rfl) ?_
                      refine m_get_10 X G (by decide +kernel) dX5_digits_204 ?_
                      refine lv_iload_n hx hb dX5_digits_207 rfl (lv_at hl 3 rfl) ?_
                      refine lv_iload_n hx hb dX5_digits_208 rfl (lv_at hl 4 rfl) ?_
                      refine m_st_10 X G (vin (rfl : v2.toInt = _) (by omega) (by omega)) dX5_digits_209 (fun H locs G => ?_)
                      refine lv_iconst (v := 1) hx hb dX5_digits_210 (by decide) ?_
                      exact m_zret X G hr hlocks rfl (by rw [hI]; simp only [F_digits_L47, eq_false c_52, eq_true c_67, eq_true c_72, eq_true c_93, eq_false c_142, eq_false c_149, eq_true c_156, hw_166, eq_false c_169, eq_true c_178, ↓reduceIte, si_self, sm_self, si_snd, sm_fst, si20_16, not_false_eq_true, not_true_eq_false, eq_self] <;> rfl) dX5_digits_211
                    · have c_178 : ¬ (g1 = 0) := c_178
                      refine lv_lload hx hb dX5_digits_181 (lv_at hl 6 rfl) ?_
                      refine lv_lneg hx hb dX5_digits_183 ?_
                      refine lv_goto (tgt := 189) hx hb dX5_digits_184 (by decide) ?_
                      refine lv_iload hx hb dX5_digits_189 (lv_at hl 8 rfl) ?_
                      refine lv_if_ge (tgt := 198) hx hb dX5_digits_191 (by decide) (fun c9 => ?_) (fun c9 => absurd (show 0 ≤ b1 from (Int32.not_lt.mp (Int32.not_lt.mpr c_72))) c9)
                      refine lv_iload hx hb dX5_digits_198 (lv_at hl 8 rfl) ?_
                      refine m_callv (As := [.int 0, .long (-w1), .int b1]) (rest := []) X hml G hA (c_M_put l dC dI cI cJ h ad _ τ 0 (-w1) b1 (show 0 ≤ (τ.1 5).toInt - (0 : Int32).toInt from by omega) (show (τ.1 5).toInt - (0 : Int32).toInt < 82 from by omega)) (cwV 3 hts gX5_digits_X5_put rfl rfl rfl (by decide +kernel) ⟨Nat.le_of_ble_eq_true rfl, Nat.le_of_ble_eq_true rfl⟩) rfl hl.1 rfl (Nat.le_of_ble_eq_true rfl) dX5_digits_200 ⟨Nat.zero_le _, Nat.zero_le _⟩ (fun u_200 H locs hw_200 G => ?_)
                      subst hw_200
                      refine lv_aload_n hx hb dX5_digits_203 rfl (lv_at hl 1 rfl) ?_
                      refine m_get_10 X G (by decide +kernel) dX5_digits_204 ?_
                      refine lv_iload_n hx hb dX5_digits_207 rfl (lv_at hl 3 rfl) ?_
                      refine lv_iload_n hx hb dX5_digits_208 rfl (lv_at hl 4 rfl) ?_
                      refine m_st_10 X G (vin (rfl : v2.toInt = _) (by omega) (by omega)) dX5_digits_209 (fun H locs G => ?_)
                      refine lv_iconst (v := 1) hx hb dX5_digits_210 (by decide) ?_
                      exact m_zret X G hr hlocks rfl (by rw [hI]; simp only [F_digits_L47, eq_false c_52, eq_true c_67, eq_true c_72, eq_true c_93, eq_false c_142, eq_false c_149, eq_true c_156, hw_166, eq_false c_169, eq_false c_178, ↓reduceIte, si_self, sm_self, si_snd, sm_fst, si20_16, not_false_eq_true, not_true_eq_false, eq_self] <;> rfl) dX5_digits_211
                  · have c_169 : r_166 = 0 := c_169
                    refine lv_iconst (v := 0) hx hb dX5_digits_172 (by decide) ?_
                    exact m_zret X G hr hlocks rfl (by rw [hI]; simp only [F_digits_L47, eq_false c_52, eq_true c_67, eq_true c_72, eq_true c_93, eq_false c_142, eq_false c_149, eq_true c_156, hw_166, eq_true c_169, ↓reduceIte, si_self, sm_self, si_snd, sm_fst, si20_16, not_false_eq_true, not_true_eq_false, eq_self] <;> rfl) dX5_digits_173
                · have c_156 : ¬ (b1 ≤ 9) := c_156
                  refine lv_aload_n hx hb dX5_digits_159 rfl (lv_at hl 1 rfl) ?_
                  refine lv_iconst (v := 1) hx hb dX5_digits_160 (by decide) ?_
                  refine m_calli (As := [.int 1]) (rest := []) X hml G hA (c_M_fail l dC dI cI cJ h ad _ τ 1) (cwV 1 hts gX5_digits_X5_fail rfl rfl rfl (by decide +kernel) ⟨Nat.le_of_ble_eq_true rfl, Nat.le_of_ble_eq_true rfl⟩) rfl hl.1 rfl (Nat.le_of_ble_eq_true rfl) dX5_digits_161 ⟨Nat.zero_le _, Nat.zero_le _⟩ (fun r_161 u_161 H locs hw_161 G => ?_)
                  obtain ⟨rfl, rfl⟩ := hw_161
                  exact m_zret X G hr hlocks rfl (by rw [hI]; simp only [F_digits_L47, eq_false c_52, eq_true c_67, eq_true c_72, eq_true c_93, eq_false c_142, eq_false c_149, eq_false c_156, ↓reduceIte, si_self, sm_self, si_snd, sm_fst, si20_16, not_false_eq_true, not_true_eq_false, eq_self] <;> rfl) dX5_digits_164
          · have c_93 : ¬ ((f_within ((F_charAt τ v2 i1).toInt64) 48 57) = 0) := c_93
            refine lv_iload hx hb dX5_digits_96 (lv_at hl 7 rfl) ?_
            refine lv_bipush (v := 18) hx hb dX5_digits_98 (by decide) ?_
            refine lv_icmp_ge (tgt := 119) hx hb dX5_digits_100 (by decide) (fun c_100 => ?_) (fun c_100 => ?_)
            · have c_100 : 18 ≤ a1 := c_100
              refine lv_iinc (v := (a1 + 1)) (lv' := [(7, .int (a1 + 1)), (10, .int (F_charAt τ v2 i1)), (0, .ref h), (1, .int f0), (2, .int v2), (3, .int i1), (4, .int g1), (5, .long w1), (8, .int b1), (9, .int k1)]) hx hb dX5_digits_119 hl (k := 7) rfl rfl (by decide) rfl (fun ls hl => ?_)
              refine lv_iload hx hb dX5_digits_122 (lv_at hl 8 rfl) ?_
              refine lv_if_lt (tgt := 130) hx hb dX5_digits_124 (by decide) (fun c9 => absurd c9 (show ¬ (b1 < 0) from (Int32.not_lt.mpr c_72))) (fun c9 => ?_)
              refine lv_iinc (v := (b1 + 1)) (lv' := [(8, .int (b1 + 1)), (7, .int (a1 + 1)), (10, .int (F_charAt τ v2 i1)), (0, .ref h), (1, .int f0), (2, .int v2), (3, .int i1), (4, .int g1), (5, .long w1), (9, .int k1)]) hx hb dX5_digits_127 hl (k := 8) rfl rfl (by decide) rfl (fun ls hl => ?_)
              refine lv_iinc (v := (i1 + 1)) (lv' := [(3, .int (i1 + 1)), (8, .int (b1 + 1)), (7, .int (a1 + 1)), (10, .int (F_charAt τ v2 i1)), (0, .ref h), (1, .int f0), (2, .int v2), (4, .int g1), (5, .long w1), (9, .int k1)]) hx hb dX5_digits_130 hl (k := 6) rfl rfl (by decide) rfl (fun ls hl => ?_)
              refine lv_iinc (v := (k1 + 1)) (lv' := [(9, .int (k1 + 1)), (3, .int (i1 + 1)), (8, .int (b1 + 1)), (7, .int (a1 + 1)), (10, .int (F_charAt τ v2 i1)), (0, .ref h), (1, .int f0), (2, .int v2), (4, .int g1), (5, .long w1)]) hx hb dX5_digits_133 hl (k := 9) rfl rfl (by decide) rfl (fun ls hl => ?_)
              refine lv_goto (tgt := 47) hx hb dX5_digits_136 (by decide) ?_
              exact ih v2 (i1 + 1) g1 w1 (a1 + 1) (b1 + 1) (k1 + 1) τ (by rw [hI]; simp only [F_digits_L47, eq_false c_52, eq_true c_67, eq_true c_72, eq_false c_93, eq_true c_100, ↓reduceIte, si_self, sm_self, si_snd, sm_fst, si20_16, not_false_eq_true, not_true_eq_false, eq_self] <;> rfl) h20 h21 (by omega) (by omega) (by omega) hsz hd3 hd4 (mu_inc hm c_52) H locs G ls (lv_sub hl [5, 6, 7, 1, 8, 9, 3, 2, 0] rfl)
            · have c_100 : ¬ (18 ≤ a1) := c_100
              refine lv_ldc2 (v := 10) hx hb hown (hts (.constantLong RX5 69 (10)) (by decide +kernel)) dX5_digits_103 ?_
              refine lv_lload hx hb dX5_digits_106 (lv_at hl 6 rfl) ?_
              refine lv_lmul hx hb dX5_digits_108 ?_
              refine lv_iload hx hb dX5_digits_109 (lv_at hl 0 rfl) ?_
              refine lv_i2l hx hb dX5_digits_111 rfl ?_
              refine lv_ladd hx hb dX5_digits_112 ?_
              refine lv_ldc2 (v := 48) hx hb hown (hts (.constantLong RX5 123 (48)) (by decide +kernel)) dX5_digits_113 ?_
              refine lv_lsub hx hb dX5_digits_116 ?_
              refine lv_lstore (lv' := [(5, .long (((10 * w1) + ((F_charAt τ v2 i1).toInt64)) - 48)), (10, .int (F_charAt τ v2 i1)), (0, .ref h), (1, .int f0), (2, .int v2), (3, .int i1), (4, .int g1), (7, .int a1), (8, .int b1), (9, .int k1)]) hx hb dX5_digits_117 hl (by decide) rfl (fun ls hl => ?_)
              refine lv_iinc (v := (a1 + 1)) (lv' := [(7, .int (a1 + 1)), (5, .long (((10 * w1) + ((F_charAt τ v2 i1).toInt64)) - 48)), (10, .int (F_charAt τ v2 i1)), (0, .ref h), (1, .int f0), (2, .int v2), (3, .int i1), (4, .int g1), (8, .int b1), (9, .int k1)]) hx hb dX5_digits_119 hl (k := 7) rfl rfl (by decide) rfl (fun ls hl => ?_)
              refine lv_iload hx hb dX5_digits_122 (lv_at hl 8 rfl) ?_
              refine lv_if_lt (tgt := 130) hx hb dX5_digits_124 (by decide) (fun c9 => absurd c9 (show ¬ (b1 < 0) from (Int32.not_lt.mpr c_72))) (fun c9 => ?_)
              refine lv_iinc (v := (b1 + 1)) (lv' := [(8, .int (b1 + 1)), (7, .int (a1 + 1)), (5, .long (((10 * w1) + ((F_charAt τ v2 i1).toInt64)) - 48)), (10, .int (F_charAt τ v2 i1)), (0, .ref h), (1, .int f0), (2, .int v2), (3, .int i1), (4, .int g1), (9, .int k1)]) hx hb dX5_digits_127 hl (k := 8) rfl rfl (by decide) rfl (fun ls hl => ?_)
              refine lv_iinc (v := (i1 + 1)) (lv' := [(3, .int (i1 + 1)), (8, .int (b1 + 1)), (7, .int (a1 + 1)), (5, .long (((10 * w1) + ((F_charAt τ v2 i1).toInt64)) - 48)), (10, .int (F_charAt τ v2 i1)), (0, .ref h), (1, .int f0), (2, .int v2), (4, .int g1), (9, .int k1)]) hx hb dX5_digits_130 hl (k := 7) rfl rfl (by decide) rfl (fun ls hl => ?_)
              refine lv_iinc (v := (k1 + 1)) (lv' := [(9, .int (k1 + 1)), (3, .int (i1 + 1)), (8, .int (b1 + 1)), (7, .int (a1 + 1)), (5, .long (((10 * w1) + ((F_charAt τ v2 i1).toInt64)) - 48)), (10, .int (F_charAt τ v2 i1)), (0, .ref h), (1, .int f0), (2, .int v2), (4, .int g1)]) hx hb dX5_digits_133 hl (k := 9) rfl rfl (by decide) rfl (fun ls hl => ?_)
              refine lv_goto (tgt := 47) hx hb dX5_digits_136 (by decide) ?_
              exact ih v2 (i1 + 1) g1 (((10 * w1) + ((F_charAt τ v2 i1).toInt64)) - 48) (a1 + 1) (b1 + 1) (k1 + 1) τ (by rw [hI]; simp only [F_digits_L47, eq_false c_52, eq_true c_67, eq_true c_72, eq_false c_93, eq_false c_100, ↓reduceIte, si_self, sm_self, si_snd, sm_fst, si20_16, not_false_eq_true, not_true_eq_false, eq_self] <;> rfl) h20 h21 (by omega) (by omega) (by omega) hsz hd3 hd4 (mu_inc hm c_52) H locs G ls (lv_sub hl [6, 7, 8, 1, 9, 4, 3, 2, 0] rfl)
        · have c_72 : ¬ (0 ≤ b1) := c_72
          refine lv_iconst (v := 0) hx hb dX5_digits_75 (by decide) ?_
          refine lv_istore (lv' := [(8, .int 0), (10, .int (F_charAt τ v2 i1)), (0, .ref h), (1, .int f0), (2, .int v2), (3, .int i1), (4, .int g1), (5, .long w1), (7, .int a1), (9, .int k1)]) hx hb dX5_digits_76 hl (by decide) rfl (fun ls hl => ?_)
          refine lv_goto (tgt := 130) hx hb dX5_digits_78 (by decide) ?_
          refine lv_iinc (v := (i1 + 1)) (lv' := [(3, .int (i1 + 1)), (8, .int 0), (10, .int (F_charAt τ v2 i1)), (0, .ref h), (1, .int f0), (2, .int v2), (4, .int g1), (5, .long w1), (7, .int a1), (9, .int k1)]) hx hb dX5_digits_130 hl (k := 5) rfl rfl (by decide) rfl (fun ls hl => ?_)
          refine lv_iinc (v := (k1 + 1)) (lv' := [(9, .int (k1 + 1)), (3, .int (i1 + 1)), (8, .int 0), (10, .int (F_charAt τ v2 i1)), (0, .ref h), (1, .int f0), (2, .int v2), (4, .int g1), (5, .long w1), (7, .int a1)]) hx hb dX5_digits_133 hl (k := 9) rfl rfl (by decide) rfl (fun ls hl => ?_)
          refine lv_goto (tgt := 47) hx hb dX5_digits_136 (by decide) ?_
          exact ih v2 (i1 + 1) g1 w1 a1 0 (k1 + 1) τ (by rw [hI]; simp only [F_digits_L47, eq_false c_52, eq_true c_67, eq_false c_72, ↓reduceIte, si_self, sm_self, si_snd, sm_fst, si20_16, not_false_eq_true, not_true_eq_false, eq_self] <;> rfl) h20 h21 (by omega) (by omega) (by omega) hsz hd3 hd4 (mu_inc hm c_52) H locs G ls (lv_sub hl [4, 5, 6, 1, 7, 8, 9, 2, 0] rfl)
set_option maxHeartbeats 4000000 in
set_option maxRecDepth 100000 in
theorem c_M_digits (l : Launch) (dC : Nat → ClassId) (dI : Nat → Nat → Nat) (cI cJ : ClassId) (h : Nat) (ad : Nat → Nat) (sz : Nat) (σ : MS) (f0 : Int32) (hf0 : 0 ≤ f0.toInt) (hf1 : f0.toInt ≤ 160) (hl0 : 1 ≤ (σ.1 11).toInt) (hl1 : (σ.1 11).toInt ≤ 12) (hs : (σ.2.2.1 9 (σ.1 11 - 1).toNatClampNeg).toInt ≤ 160) (hd0 : 0 ≤ (σ.1 5).toInt) (hd1 : (σ.1 5).toInt ≤ 40) : Met l yX5_digits wsX5_digits ({ frames := 2, cells := 0, slots := 0, locals := 41 } : Room) (va_Pc [.ref h, .int f0] (mPre dC dI cI cJ h ad sz σ)) (va_Qi (fun r u => F_digits σ f0 = (r, u)) (mAt dC dI cI cJ h ad (mA h ad cI cJ σ sz)) (mA h ad cI cJ σ sz)) 0 0 (mA h ad cI cJ σ sz) := by
  refine m_ofW (cc := cX5_digits) (maxL := 11) (ret := (some .boolean)) (by decide) rfl (by decide +kernel) rfl (Nat.le_of_ble_eq_true rfl) ?_
  intro p e s m below meth c X G hA hr hlocks hml ls hl
  have hl : lv_has ls 11 [(0, .ref h), (1, .int f0)] := hl
  have hx := X.1
  have hb := X.2.1
  have hts := X.2.2.1
  have hown := X.2.2.2.2.1
  have z0 : (0 : Int32).toInt = 0 := rfl
  have hv : (σ.1 11 - 1).toInt = (σ.1 11).toInt - 1 := i_subE rfl (show (1 : Int32).toInt = 1 from rfl) (by omega) (by omega)
  refine lv_aload_n hx hb dX5_digits_0 rfl (lv_at hl 0 rfl) ?_
  refine m_get_11 X G (by decide +kernel) dX5_digits_1 ?_
  refine lv_iconst (v := 1) hx hb dX5_digits_4 (by decide) ?_
  refine lv_isub hx hb dX5_digits_5 ?_
  refine lv_istore_n (lv' := [(2, .int ((σ.1 11) - 1)), (0, .ref h), (1, .int f0)]) hx hb dX5_digits_6 rfl hl (by decide) rfl (fun ls hl => ?_)
  refine lv_iload_n hx hb dX5_digits_7 rfl (lv_at hl 2 rfl) ?_
  refine lv_istore_n (lv' := [(3, .int f0), (2, .int ((σ.1 11) - 1)), (0, .ref h), (1, .int f0)]) hx hb dX5_digits_8 rfl hl (by decide) rfl (fun ls hl => ?_)
  refine lv_aload_n hx hb dX5_digits_9 rfl (lv_at hl 2 rfl) ?_
  refine lv_iload_n hx hb dX5_digits_10 rfl (lv_at hl 1 rfl) ?_
  refine lv_iload_n hx hb dX5_digits_11 rfl (lv_at hl 0 rfl) ?_
  refine m_calli (As := [.int ((σ.1 11) - 1), .int f0]) (rest := []) X hml G hA (c_M_charAt l dC dI cI cJ h ad _ σ ((σ.1 11) - 1) f0 (by omega) (by omega) hf0 hs) (cwV 2 hts gX5_digits_X5_charAt rfl rfl rfl (by decide +kernel) ⟨Nat.le_of_ble_eq_true rfl, Nat.le_of_ble_eq_true rfl⟩) rfl hl.1 rfl (Nat.le_of_ble_eq_true rfl) dX5_digits_12 ⟨Nat.zero_le _, Nat.zero_le _⟩ (fun r_12 u_12 H locs hw_12 G => ?_)
  obtain ⟨rfl, hu_12⟩ := hw_12
  rw [hu_12] at G
  refine lv_bipush (v := 95) hx hb dX5_digits_15 (by decide) ?_
  refine lv_icmp_ne (tgt := 24) hx hb dX5_digits_17 (by decide) (fun c_17 => ?_) (fun c_17 => ?_)
  · have c_17 : ¬ ((F_charAt σ ((σ.1 11) - 1) f0) = 95) := c_17
    refine lv_iconst (v := 0) hx hb dX5_digits_24 (by decide) ?_
    refine lv_istore (lv' := [(4, .int 0), (3, .int f0), (2, .int ((σ.1 11) - 1)), (0, .ref h), (1, .int f0)]) hx hb dX5_digits_25 hl (by decide) rfl (fun ls hl => ?_)
    refine lv_iload hx hb dX5_digits_27 (lv_at hl 0 rfl) ?_
    refine lv_if_eq (tgt := 35) hx hb dX5_digits_29 (by decide) (fun c9 => ?_) (fun c9 => absurd (show (0 : Int32) = 0 from by decide) c9)
    refine lv_lconst (v := 0) hx hb dX5_digits_35 (by decide) ?_
    refine lv_lstore (lv' := [(5, .long 0), (4, .int 0), (3, .int f0), (2, .int ((σ.1 11) - 1)), (0, .ref h), (1, .int f0)]) hx hb dX5_digits_36 hl (by decide) rfl (fun ls hl => ?_)
    refine lv_iconst (v := 0) hx hb dX5_digits_38 (by decide) ?_
    refine lv_istore (lv' := [(7, .int 0), (5, .long 0), (4, .int 0), (3, .int f0), (2, .int ((σ.1 11) - 1)), (0, .ref h), (1, .int f0)]) hx hb dX5_digits_39 hl (by decide) rfl (fun ls hl => ?_)
    refine lv_iconst (v := -1) hx hb dX5_digits_41 (by decide) ?_
    refine lv_istore (lv' := [(8, .int (-1)), (7, .int 0), (5, .long 0), (4, .int 0), (3, .int f0), (2, .int ((σ.1 11) - 1)), (0, .ref h), (1, .int f0)]) hx hb dX5_digits_42 hl (by decide) rfl (fun ls hl => ?_)
    refine lv_iconst (v := 0) hx hb dX5_digits_44 (by decide) ?_
    refine lv_istore (lv' := [(9, .int 0), (8, .int (-1)), (7, .int 0), (5, .long 0), (4, .int 0), (3, .int f0), (2, .int ((σ.1 11) - 1)), (0, .ref h), (1, .int f0)]) hx hb dX5_digits_45 hl (by decide) rfl (fun ls hl => ?_)
    exact c_M_digits_L47 l σ f0 hf0 hf1 hl0 hl1 hs hd0 hd1 X hA hr hlocks hml 161 ((σ.1 11) - 1) f0 0 0 0 (-1) 0 σ (by simp only [F_digits, eq_false c_17, ↓reduceIte, si_self, sm_self, si_snd, sm_fst, si20_16, not_false_eq_true, not_true_eq_false, eq_self] <;> rfl) (by omega) (by omega) (by first | omega | (rw [i_addE rfl (show (1 : Int32).toInt = 1 from rfl) (by omega) (by omega)]; omega)) (by first | omega | (rw [i_addE rfl (show (1 : Int32).toInt = 1 from rfl) (by omega) (by omega)]; omega)) (by omega) hs hd0 hd1 (by decide) _ _ G ls (lv_sub hl [7, 8, 6, 5, 4, 3, 2, 1, 0] rfl)
  · have c_17 : (F_charAt σ ((σ.1 11) - 1) f0) = 95 := c_17
    refine lv_iconst (v := 1) hx hb dX5_digits_20 (by decide) ?_
    refine lv_goto (tgt := 25) hx hb dX5_digits_21 (by decide) ?_
    refine lv_istore (lv' := [(4, .int 1), (3, .int f0), (2, .int ((σ.1 11) - 1)), (0, .ref h), (1, .int f0)]) hx hb dX5_digits_25 hl (by decide) rfl (fun ls hl => ?_)
    refine lv_iload hx hb dX5_digits_27 (lv_at hl 0 rfl) ?_
    refine lv_if_eq (tgt := 35) hx hb dX5_digits_29 (by decide) (fun c9 => absurd c9 (show ¬ ((1 : Int32) = 0) from by decide)) (fun c9 => ?_)
    refine lv_iinc (v := (f0 + 1)) (lv' := [(3, .int (f0 + 1)), (4, .int 1), (2, .int ((σ.1 11) - 1)), (0, .ref h), (1, .int f0)]) hx hb dX5_digits_32 hl (k := 1) rfl rfl (by decide) rfl (fun ls hl => ?_)
    refine lv_lconst (v := 0) hx hb dX5_digits_35 (by decide) ?_
    refine lv_lstore (lv' := [(5, .long 0), (3, .int (f0 + 1)), (4, .int 1), (2, .int ((σ.1 11) - 1)), (0, .ref h), (1, .int f0)]) hx hb dX5_digits_36 hl (by decide) rfl (fun ls hl => ?_)
    refine lv_iconst (v := 0) hx hb dX5_digits_38 (by decide) ?_
    refine lv_istore (lv' := [(7, .int 0), (5, .long 0), (3, .int (f0 + 1)), (4, .int 1), (2, .int ((σ.1 11) - 1)), (0, .ref h), (1, .int f0)]) hx hb dX5_digits_39 hl (by decide) rfl (fun ls hl => ?_)
    refine lv_iconst (v := -1) hx hb dX5_digits_41 (by decide) ?_
    refine lv_istore (lv' := [(8, .int (-1)), (7, .int 0), (5, .long 0), (3, .int (f0 + 1)), (4, .int 1), (2, .int ((σ.1 11) - 1)), (0, .ref h), (1, .int f0)]) hx hb dX5_digits_42 hl (by decide) rfl (fun ls hl => ?_)
    refine lv_iconst (v := 0) hx hb dX5_digits_44 (by decide) ?_
    refine lv_istore (lv' := [(9, .int 0), (8, .int (-1)), (7, .int 0), (5, .long 0), (3, .int (f0 + 1)), (4, .int 1), (2, .int ((σ.1 11) - 1)), (0, .ref h), (1, .int f0)]) hx hb dX5_digits_45 hl (by decide) rfl (fun ls hl => ?_)
    exact c_M_digits_L47 l σ f0 hf0 hf1 hl0 hl1 hs hd0 hd1 X hA hr hlocks hml 161 ((σ.1 11) - 1) (f0 + 1) 1 0 0 (-1) 0 σ (by simp only [F_digits, eq_true c_17, ↓reduceIte, si_self, sm_self, si_snd, sm_fst, si20_16, not_false_eq_true, not_true_eq_false, eq_self] <;> rfl) (by omega) (by omega) (by first | omega | (rw [i_addE rfl (show (1 : Int32).toInt = 1 from rfl) (by omega) (by omega)]; omega)) (by first | omega | (rw [i_addE rfl (show (1 : Int32).toInt = 1 from rfl) (by omega) (by omega)]; omega)) (by omega) hs hd0 hd1 (by decide) _ _ G ls (lv_sub hl [7, 8, 6, 4, 5, 3, 2, 1, 0] rfl)
set_option maxHeartbeats 4000000 in
set_option maxRecDepth 100000 in
theorem c_M_brackets_L100 {p : Program} (l : Launch) {e : Env} {s : State} {m : MethodId} {below : List Frame} {meth : Method} {c : Code} {dC : Nat → ClassId} {dI : Nat → Nat → Nat} {cI cJ : ClassId} {h : Nat} {ad : Nat → Nat} {sz : Nat} (σ : MS) (f0 : Int32) (hf0 : 0 ≤ f0.toInt) (hf1 : f0.toInt ≤ 160) (hl0 : 1 ≤ (σ.1 11).toInt) (hl1 : (σ.1 11).toInt ≤ 12) (hs : (σ.2.2.1 9 (σ.1 11 - 1).toNatClampNeg).toInt ≤ 160) (hd0 : 0 ≤ (σ.1 5).toInt) (hd1 : (σ.1 5).toInt ≤ 40) (X : mX p s m ([.ref h, .int f0] : List Value).toArray c cX5_brackets wsX5_brackets dC dI cI cJ) (hA : ∀ q : Nat, s.heap.size ≤ q → mA h ad cI cJ σ sz q) (hr : meth.sig.returnType = (some .boolean)) (hlocks : meth.locks = false) (hml : c.maxLocals = 7) :
    ∀ (fu : Nat) (v2 : Int32) (i1 : Int32) (n1 : Int32) (k1 : Int32) (τ : MS), F_brackets σ f0 = F_brackets_L100 f0 fu v2 i1 n1 k1 τ → (0 ≤ v2.toInt) → (v2.toInt < 12) → (0 ≤ k1.toInt) → (f0.toInt + n1.toInt ≤ 159) → (0 ≤ (τ.1 5).toInt) → ((τ.1 5).toInt < 40) → ((n1.toInt - k1.toInt).toNat < fu) → ∀ (H : Heap) (locs : List Loc), mH dC dI h ad cI cJ τ (mA h ad cI cJ σ sz) s.heap H locs → ∀ ls : Array Slot, lv_has ls 7 [(0, .ref h), (1, .int f0), (2, .int v2), (4, .int i1), (5, .int n1), (6, .int k1)] → W p l e ({ frames := 2, cells := 0, slots := 0, locals := 41 } : Room) s m ([.ref h, .int f0] : List Value).toArray below meth c H locs 0 0 (MQ below (va_Qi (fun r u => F_brackets σ f0 = (r, u)) (mAt dC dI cI cJ h ad (mA h ad cI cJ σ sz)) (mA h ad cI cJ σ sz)) ([.ref h, .int f0] : List Value).toArray s 0 0 (mA h ad cI cJ σ sz)) (F0 m 100 ls []) := by
  have hx := X.1
  have hb := X.2.1
  have hts := X.2.2.1
  have hown := X.2.2.2.2.1
  intro fu
  induction fu with
  | zero =>
    intro v2 i1 n1 k1 τ hI h20 h21 hk hn1 hd3 hd4 hm
    exact absurd hm (Nat.not_lt_zero _)
  | succ fu ih =>
    intro v2 i1 n1 k1 τ hI h20 h21 hk hn1 hd3 hd4 hm H locs G ls hl
    have z0 : (0 : Int32).toInt = 0 := rfl
    refine lv_iload hx hb dX5_brackets_100 (lv_at hl 5 rfl) ?_
    refine lv_iload hx hb dX5_brackets_102 (lv_at hl 4 rfl) ?_
    refine lv_icmp_ge (tgt := 146) hx hb dX5_brackets_104 (by decide) (fun c_104 => ?_) (fun c_104 => ?_)
    · have c_104 : n1 ≤ k1 := c_104
      refine lv_aload_n hx hb dX5_brackets_146 rfl (lv_at hl 0 rfl) ?_
      refine lv_iconst (v := 0) hx hb dX5_brackets_147 (by decide) ?_
      refine lv_iload hx hb dX5_brackets_148 (lv_at hl 4 rfl) ?_
      refine lv_i2l hx hb dX5_brackets_150 rfl ?_
      refine lv_iconst (v := -1) hx hb dX5_brackets_151 (by decide) ?_
      refine m_callv (As := [.int 0, .long n1.toInt64, .int (-1)]) (rest := []) X hml G hA (c_M_put l dC dI cI cJ h ad _ τ 0 n1.toInt64 (-1) (show 0 ≤ (τ.1 5).toInt - (0 : Int32).toInt from by omega) (show (τ.1 5).toInt - (0 : Int32).toInt < 82 from by omega)) (cwV 3 hts gX5_brackets_X5_put rfl rfl rfl (by decide +kernel) ⟨Nat.le_of_ble_eq_true rfl, Nat.le_of_ble_eq_true rfl⟩) rfl hl.1 rfl (Nat.le_of_ble_eq_true rfl) dX5_brackets_152 ⟨Nat.zero_le _, Nat.zero_le _⟩ (fun u_152 H locs hw_152 G => ?_)
      subst hw_152
      refine lv_aload_n hx hb dX5_brackets_155 rfl (lv_at hl 0 rfl) ?_
      refine m_get_10 X G (by decide +kernel) dX5_brackets_156 ?_
      refine lv_iload_n hx hb dX5_brackets_159 rfl (lv_at hl 2 rfl) ?_
      refine lv_iload hx hb dX5_brackets_160 (lv_at hl 3 rfl) ?_
      refine m_st_10 X G (vin (rfl : v2.toInt = _) (by omega) (by omega)) dX5_brackets_162 (fun H locs G => ?_)
      refine lv_iconst (v := 1) hx hb dX5_brackets_163 (by decide) ?_
      exact m_zret X G hr hlocks rfl (by rw [hI]; simp only [F_brackets_L100, eq_true c_104, ↓reduceIte, si_self, sm_self, si_snd, sm_fst, si20_16, not_false_eq_true, not_true_eq_false, eq_self] <;> rfl) dX5_brackets_164
    · have c_104 : ¬ (n1 ≤ k1) := c_104
      have h104 := i_nle c_104
      have hk3 := i_inc c_104
      refine lv_aload_n hx hb dX5_brackets_107 rfl (lv_at hl 0 rfl) ?_
      refine m_get_4 X G (by decide +kernel) dX5_brackets_108 ?_
      refine lv_sipush (v := 160) hx hb dX5_brackets_111 (by decide) ?_
      refine lv_aload_n hx hb dX5_brackets_114 rfl (lv_at hl 0 rfl) ?_
      refine m_get_5 X G (by decide +kernel) dX5_brackets_115 ?_
      refine lv_imul hx hb dX5_brackets_118 ?_
      refine lv_iload hx hb dX5_brackets_119 (lv_at hl 5 rfl) ?_
      refine lv_iadd hx hb dX5_brackets_121 ?_
      refine lv_aload_n hx hb dX5_brackets_122 rfl (lv_at hl 0 rfl) ?_
      refine m_get_8 X G (by decide +kernel) dX5_brackets_123 ?_
      refine lv_sipush (v := 160) hx hb dX5_brackets_126 (by decide) ?_
      refine lv_iload_n hx hb dX5_brackets_129 rfl (lv_at hl 2 rfl) ?_
      refine lv_imul hx hb dX5_brackets_130 ?_
      refine lv_iload_n hx hb dX5_brackets_131 rfl (lv_at hl 1 rfl) ?_
      refine lv_iadd hx hb dX5_brackets_132 ?_
      refine lv_iconst (v := 1) hx hb dX5_brackets_133 (by decide) ?_
      refine lv_iadd hx hb dX5_brackets_134 ?_
      refine lv_iload hx hb dX5_brackets_135 (lv_at hl 5 rfl) ?_
      refine lv_iadd hx hb dX5_brackets_137 ?_
      refine m_ld_8 X G (vin (i_addE (i_addE (i_addE (i_mulE (show (160 : Int32).toInt = 160 from rfl) (rfl : v2.toInt = _) (by omega) (by omega)) (rfl : f0.toInt = _) (by omega) (by omega)) (show (1 : Int32).toInt = 1 from rfl) (by omega) (by omega)) (rfl : k1.toInt = _) (by omega) (by omega)) (by omega) (by omega)) dX5_brackets_138 ?_
      refine m_st_4 X G (vin (i_addE (i_mulE (show (160 : Int32).toInt = 160 from rfl) (rfl : (τ.1 5).toInt = _) (by omega) (by omega)) (rfl : k1.toInt = _) (by omega) (by omega)) (by omega) (by omega)) dX5_brackets_139 (fun H locs G => ?_)
      refine lv_iinc (v := (k1 + 1)) (lv' := [(6, .int (k1 + 1)), (0, .ref h), (1, .int f0), (2, .int v2), (4, .int i1), (5, .int n1)]) hx hb dX5_brackets_140 hl (k := 5) rfl rfl (by decide) rfl (fun ls hl => ?_)
      refine lv_goto (tgt := 100) hx hb dX5_brackets_143 (by decide) ?_
      exact ih v2 i1 n1 (k1 + 1) (sa τ 4 ((160 * (τ.1 5)) + k1).toNatClampNeg (τ.2.2.1 8 ((((160 * v2) + f0) + 1) + k1).toNatClampNeg)) (by rw [hI]; simp only [F_brackets_L100, eq_false c_104, ↓reduceIte, si_self, sm_self, si_snd, sm_fst, si20_16, not_false_eq_true, not_true_eq_false, eq_self] <;> rfl) h20 h21 (by omega) hn1 hd3 hd4 (mu_inc hm c_104) H locs G ls (lv_sub hl [1, 2, 3, 4, 5, 0] rfl)
set_option maxHeartbeats 4000000 in
set_option maxRecDepth 100000 in
theorem c_M_brackets_L14 {p : Program} (l : Launch) {e : Env} {s : State} {m : MethodId} {below : List Frame} {meth : Method} {c : Code} {dC : Nat → ClassId} {dI : Nat → Nat → Nat} {cI cJ : ClassId} {h : Nat} {ad : Nat → Nat} {sz : Nat} (σ : MS) (f0 : Int32) (hf0 : 0 ≤ f0.toInt) (hf1 : f0.toInt ≤ 160) (hl0 : 1 ≤ (σ.1 11).toInt) (hl1 : (σ.1 11).toInt ≤ 12) (hs : (σ.2.2.1 9 (σ.1 11 - 1).toNatClampNeg).toInt ≤ 160) (hd0 : 0 ≤ (σ.1 5).toInt) (hd1 : (σ.1 5).toInt ≤ 40) (X : mX p s m ([.ref h, .int f0] : List Value).toArray c cX5_brackets wsX5_brackets dC dI cI cJ) (hA : ∀ q : Nat, s.heap.size ≤ q → mA h ad cI cJ σ sz q) (hr : meth.sig.returnType = (some .boolean)) (hlocks : meth.locks = false) (hml : c.maxLocals = 7) :
    ∀ (fu : Nat) (v2 : Int32) (o1 : Int32) (i1 : Int32) (τ : MS), F_brackets σ f0 = F_brackets_L14 f0 fu v2 o1 i1 τ → (0 ≤ v2.toInt) → (v2.toInt < 12) → (1 ≤ i1.toInt) → (i1.toInt ≤ 161) → (f0.toInt + 1 ≤ i1.toInt) → ((τ.2.2.1 9 v2.toNatClampNeg).toInt ≤ 160) → (0 ≤ (τ.1 5).toInt) → ((τ.1 5).toInt ≤ 40) → (((τ.2.2.1 9 v2.toNatClampNeg).toInt - i1.toInt).toNat < fu) → ∀ (H : Heap) (locs : List Loc), mH dC dI h ad cI cJ τ (mA h ad cI cJ σ sz) s.heap H locs → ∀ ls : Array Slot, lv_has ls 7 [(0, .ref h), (1, .int f0), (2, .int v2), (3, .int o1), (4, .int i1)] → W p l e ({ frames := 2, cells := 0, slots := 0, locals := 41 } : Room) s m ([.ref h, .int f0] : List Value).toArray below meth c H locs 0 0 (MQ below (va_Qi (fun r u => F_brackets σ f0 = (r, u)) (mAt dC dI cI cJ h ad (mA h ad cI cJ σ sz)) (mA h ad cI cJ σ sz)) ([.ref h, .int f0] : List Value).toArray s 0 0 (mA h ad cI cJ σ sz)) (F0 m 14 ls []) := by
  have hx := X.1
  have hb := X.2.1
  have hts := X.2.2.1
  have hown := X.2.2.2.2.1
  intro fu
  induction fu with
  | zero =>
    intro v2 o1 i1 τ hI h20 h21 hi1 hi2 hi4 hsz hd3 hd4 hm
    exact absurd hm (Nat.not_lt_zero _)
  | succ fu ih =>
    intro v2 o1 i1 τ hI h20 h21 hi1 hi2 hi4 hsz hd3 hd4 hm H locs G ls hl
    have z0 : (0 : Int32).toInt = 0 := rfl
    refine lv_iload hx hb dX5_brackets_14 (lv_at hl 4 rfl) ?_
    refine lv_aload_n hx hb dX5_brackets_16 rfl (lv_at hl 0 rfl) ?_
    refine m_get_9 X G (by decide +kernel) dX5_brackets_17 ?_
    refine lv_iload_n hx hb dX5_brackets_20 rfl (lv_at hl 2 rfl) ?_
    refine m_ld_9 X G (vin (rfl : v2.toInt = _) (by omega) (by omega)) dX5_brackets_21 ?_
    refine lv_icmp_ge (tgt := 70) hx hb dX5_brackets_22 (by decide) (fun c_22 => ?_) (fun c_22 => ?_)
    · have c_22 : (τ.2.2.1 9 v2.toNatClampNeg) ≤ i1 := c_22
      refine lv_iload_n hx hb dX5_brackets_70 rfl (lv_at hl 3 rfl) ?_
      refine lv_if_le (tgt := 80) hx hb dX5_brackets_71 (by decide) (fun c_71 => ?_) (fun c_71 => ?_)
      · have c_71 : o1 ≤ 0 := c_71
        refine lv_aload_n hx hb dX5_brackets_80 rfl (lv_at hl 0 rfl) ?_
        refine m_calli (As := []) (rest := []) X hml G hA (c_M_room l dC dI cI cJ h ad _ τ) (cwV 0 hts gX5_brackets_X5_room rfl rfl rfl (by decide +kernel) ⟨Nat.le_of_ble_eq_true rfl, Nat.le_of_ble_eq_true rfl⟩) rfl hl.1 rfl (Nat.le_of_ble_eq_true rfl) dX5_brackets_81 ⟨Nat.zero_le _, Nat.zero_le _⟩ (fun r_81 u_81 H locs hw_81 G => ?_)
        refine lv_if_ne (tgt := 89) hx hb dX5_brackets_84 (by decide) (fun c_84 => ?_) (fun c_84 => ?_)
        · have c_84 : ¬ (r_81 = 0) := c_84
          obtain ⟨rfl, hroom⟩ := room_ok hw_81 c_84
          refine lv_iload hx hb dX5_brackets_89 (lv_at hl 4 rfl) ?_
          refine lv_iload_n hx hb dX5_brackets_91 rfl (lv_at hl 1 rfl) ?_
          refine lv_isub hx hb dX5_brackets_92 ?_
          refine lv_iconst (v := 2) hx hb dX5_brackets_93 (by decide) ?_
          refine lv_isub hx hb dX5_brackets_94 ?_
          refine lv_istore (lv' := [(5, .int ((i1 - f0) - 2)), (0, .ref h), (1, .int f0), (2, .int v2), (3, .int o1), (4, .int i1)]) hx hb dX5_brackets_95 hl (by decide) rfl (fun ls hl => ?_)
          refine lv_iconst (v := 0) hx hb dX5_brackets_97 (by decide) ?_
          refine lv_istore (lv' := [(6, .int 0), (5, .int ((i1 - f0) - 2)), (0, .ref h), (1, .int f0), (2, .int v2), (3, .int o1), (4, .int i1)]) hx hb dX5_brackets_98 hl (by decide) rfl (fun ls hl => ?_)
          exact c_M_brackets_L100 l σ f0 hf0 hf1 hl0 hl1 hs hd0 hd1 X hA hr hlocks hml (((i1 - f0) - 2).toInt.toNat + 1) v2 i1 ((i1 - f0) - 2) 0 τ (by rw [hI]; simp only [F_brackets_L14, eq_true c_22, eq_true c_71, hw_81, eq_false c_84, ↓reduceIte, si_self, sm_self, si_snd, sm_fst, si20_16, not_false_eq_true, not_true_eq_false, eq_self] <;> rfl) h20 h21 (by decide) (by rw [i_subE (i_subE rfl rfl (by omega) (by omega)) (show (2 : Int32).toInt = 2 from rfl) (by omega) (by omega)]; omega) hd3 hroom (mu_0 _) _ _ G ls (lv_sub hl [2, 3, 4, 6, 1, 0] rfl)
        · have c_84 : r_81 = 0 := c_84
          refine lv_iconst (v := 0) hx hb dX5_brackets_87 (by decide) ?_
          exact m_zret X G hr hlocks rfl (by rw [hI]; simp only [F_brackets_L14, eq_true c_22, eq_true c_71, hw_81, eq_true c_84, ↓reduceIte, si_self, sm_self, si_snd, sm_fst, si20_16, not_false_eq_true, not_true_eq_false, eq_self] <;> rfl) dX5_brackets_88
      · have c_71 : ¬ (o1 ≤ 0) := c_71
        refine lv_aload_n hx hb dX5_brackets_74 rfl (lv_at hl 0 rfl) ?_
        refine lv_iconst (v := 1) hx hb dX5_brackets_75 (by decide) ?_
        refine m_calli (As := [.int 1]) (rest := []) X hml G hA (c_M_fail l dC dI cI cJ h ad _ τ 1) (cwV 1 hts gX5_brackets_X5_fail rfl rfl rfl (by decide +kernel) ⟨Nat.le_of_ble_eq_true rfl, Nat.le_of_ble_eq_true rfl⟩) rfl hl.1 rfl (Nat.le_of_ble_eq_true rfl) dX5_brackets_76 ⟨Nat.zero_le _, Nat.zero_le _⟩ (fun r_76 u_76 H locs hw_76 G => ?_)
        obtain ⟨rfl, rfl⟩ := hw_76
        exact m_zret X G hr hlocks rfl (by rw [hI]; simp only [F_brackets_L14, eq_true c_22, eq_false c_71, ↓reduceIte, si_self, sm_self, si_snd, sm_fst, si20_16, not_false_eq_true, not_true_eq_false, eq_self] <;> rfl) dX5_brackets_79
    · have c_22 : ¬ ((τ.2.2.1 9 v2.toNatClampNeg) ≤ i1) := c_22
      have h22 := i_nle c_22
      have hi3 := i_inc c_22
      refine lv_iload_n hx hb dX5_brackets_25 rfl (lv_at hl 3 rfl) ?_
      refine lv_if_le (tgt := 70) hx hb dX5_brackets_26 (by decide) (fun c_26 => ?_) (fun c_26 => ?_)
      · have c_26 : o1 ≤ 0 := c_26
        refine lv_iload_n hx hb dX5_brackets_70 rfl (lv_at hl 3 rfl) ?_
        refine lv_if_le (tgt := 80) hx hb dX5_brackets_71 (by decide) (fun c9 => ?_) (fun c9 => absurd (show o1 ≤ 0 from (Int32.not_lt.mp (Int32.not_lt.mpr c_26))) c9)
        refine lv_aload_n hx hb dX5_brackets_80 rfl (lv_at hl 0 rfl) ?_
        refine m_calli (As := []) (rest := []) X hml G hA (c_M_room l dC dI cI cJ h ad _ τ) (cwV 0 hts gX5_brackets_X5_room rfl rfl rfl (by decide +kernel) ⟨Nat.le_of_ble_eq_true rfl, Nat.le_of_ble_eq_true rfl⟩) rfl hl.1 rfl (Nat.le_of_ble_eq_true rfl) dX5_brackets_81 ⟨Nat.zero_le _, Nat.zero_le _⟩ (fun r_81 u_81 H locs hw_81 G => ?_)
        refine lv_if_ne (tgt := 89) hx hb dX5_brackets_84 (by decide) (fun c_84 => ?_) (fun c_84 => ?_)
        · have c_84 : ¬ (r_81 = 0) := c_84
          obtain ⟨rfl, hroom⟩ := room_ok hw_81 c_84
          refine lv_iload hx hb dX5_brackets_89 (lv_at hl 4 rfl) ?_
          refine lv_iload_n hx hb dX5_brackets_91 rfl (lv_at hl 1 rfl) ?_
          refine lv_isub hx hb dX5_brackets_92 ?_
          refine lv_iconst (v := 2) hx hb dX5_brackets_93 (by decide) ?_
          refine lv_isub hx hb dX5_brackets_94 ?_
          refine lv_istore (lv' := [(5, .int ((i1 - f0) - 2)), (0, .ref h), (1, .int f0), (2, .int v2), (3, .int o1), (4, .int i1)]) hx hb dX5_brackets_95 hl (by decide) rfl (fun ls hl => ?_)
          refine lv_iconst (v := 0) hx hb dX5_brackets_97 (by decide) ?_
          refine lv_istore (lv' := [(6, .int 0), (5, .int ((i1 - f0) - 2)), (0, .ref h), (1, .int f0), (2, .int v2), (3, .int o1), (4, .int i1)]) hx hb dX5_brackets_98 hl (by decide) rfl (fun ls hl => ?_)
          exact c_M_brackets_L100 l σ f0 hf0 hf1 hl0 hl1 hs hd0 hd1 X hA hr hlocks hml (((i1 - f0) - 2).toInt.toNat + 1) v2 i1 ((i1 - f0) - 2) 0 τ (by rw [hI]; simp only [F_brackets_L14, eq_false c_22, eq_true c_26, hw_81, eq_false c_84, ↓reduceIte, si_self, sm_self, si_snd, sm_fst, si20_16, not_false_eq_true, not_true_eq_false, eq_self] <;> rfl) h20 h21 (by decide) (by rw [i_subE (i_subE rfl rfl (by omega) (by omega)) (show (2 : Int32).toInt = 2 from rfl) (by omega) (by omega)]; omega) hd3 hroom (mu_0 _) _ _ G ls (lv_sub hl [2, 3, 4, 6, 1, 0] rfl)
        · have c_84 : r_81 = 0 := c_84
          refine lv_iconst (v := 0) hx hb dX5_brackets_87 (by decide) ?_
          exact m_zret X G hr hlocks rfl (by rw [hI]; simp only [F_brackets_L14, eq_false c_22, eq_true c_26, hw_81, eq_true c_84, ↓reduceIte, si_self, sm_self, si_snd, sm_fst, si20_16, not_false_eq_true, not_true_eq_false, eq_self] <;> rfl) dX5_brackets_88
      · have c_26 : ¬ (o1 ≤ 0) := c_26
        refine lv_aload_n hx hb dX5_brackets_29 rfl (lv_at hl 0 rfl) ?_
        refine m_get_8 X G (by decide +kernel) dX5_brackets_30 ?_
        refine lv_sipush (v := 160) hx hb dX5_brackets_33 (by decide) ?_
        refine lv_iload_n hx hb dX5_brackets_36 rfl (lv_at hl 2 rfl) ?_
        refine lv_imul hx hb dX5_brackets_37 ?_
        refine lv_iload hx hb dX5_brackets_38 (lv_at hl 4 rfl) ?_
        refine lv_iadd hx hb dX5_brackets_40 ?_
        refine m_ld_8 X G (vin (i_addE (i_mulE (show (160 : Int32).toInt = 160 from rfl) (rfl : v2.toInt = _) (by omega) (by omega)) (rfl : i1.toInt = _) (by omega) (by omega)) (by omega) (by omega)) dX5_brackets_41 ?_
        refine lv_istore (lv' := [(5, .int (τ.2.2.1 8 ((160 * v2) + i1).toNatClampNeg)), (0, .ref h), (1, .int f0), (2, .int v2), (3, .int o1), (4, .int i1)]) hx hb dX5_brackets_42 hl (by decide) rfl (fun ls hl => ?_)
        refine lv_iload hx hb dX5_brackets_44 (lv_at hl 0 rfl) ?_
        refine lv_bipush (v := 91) hx hb dX5_brackets_46 (by decide) ?_
        refine lv_icmp_ne (tgt := 54) hx hb dX5_brackets_48 (by decide) (fun c_48 => ?_) (fun c_48 => ?_)
        · have c_48 : ¬ ((τ.2.2.1 8 ((160 * v2) + i1).toNatClampNeg) = 91) := c_48
          refine lv_iload hx hb dX5_brackets_54 (lv_at hl 0 rfl) ?_
          refine lv_bipush (v := 93) hx hb dX5_brackets_56 (by decide) ?_
          refine lv_icmp_ne (tgt := 64) hx hb dX5_brackets_58 (by decide) (fun c_58 => ?_) (fun c_58 => ?_)
          · have c_58 : ¬ ((τ.2.2.1 8 ((160 * v2) + i1).toNatClampNeg) = 93) := c_58
            refine lv_iinc (v := (i1 + 1)) (lv' := [(4, .int (i1 + 1)), (5, .int (τ.2.2.1 8 ((160 * v2) + i1).toNatClampNeg)), (0, .ref h), (1, .int f0), (2, .int v2), (3, .int o1)]) hx hb dX5_brackets_64 hl (k := 5) rfl rfl (by decide) rfl (fun ls hl => ?_)
            refine lv_goto (tgt := 14) hx hb dX5_brackets_67 (by decide) ?_
            exact ih v2 o1 (i1 + 1) τ (by rw [hI]; simp only [F_brackets_L14, eq_false c_22, eq_false c_26, eq_false c_48, eq_false c_58, ↓reduceIte, si_self, sm_self, si_snd, sm_fst, si20_16, not_false_eq_true, not_true_eq_false, eq_self] <;> rfl) h20 h21 (by omega) (by omega) (by omega) hsz hd3 hd4 (mu_inc hm c_22) H locs G ls (lv_sub hl [2, 3, 4, 5, 0] rfl)
          · have c_58 : (τ.2.2.1 8 ((160 * v2) + i1).toNatClampNeg) = 93 := c_58
            refine lv_iinc (v := (o1 + (-1))) (lv' := [(3, .int (o1 + (-1))), (5, .int (τ.2.2.1 8 ((160 * v2) + i1).toNatClampNeg)), (0, .ref h), (1, .int f0), (2, .int v2), (4, .int i1)]) hx hb dX5_brackets_61 hl (k := 4) rfl rfl (by decide) rfl (fun ls hl => ?_)
            refine lv_iinc (v := (i1 + 1)) (lv' := [(4, .int (i1 + 1)), (3, .int (o1 + (-1))), (5, .int (τ.2.2.1 8 ((160 * v2) + i1).toNatClampNeg)), (0, .ref h), (1, .int f0), (2, .int v2)]) hx hb dX5_brackets_64 hl (k := 5) rfl rfl (by decide) rfl (fun ls hl => ?_)
            refine lv_goto (tgt := 14) hx hb dX5_brackets_67 (by decide) ?_
            exact ih v2 (o1 + (-1)) (i1 + 1) τ (by rw [hI]; simp only [F_brackets_L14, eq_false c_22, eq_false c_26, eq_false c_48, eq_true c_58, ↓reduceIte, si_self, sm_self, si_snd, sm_fst, si20_16, not_false_eq_true, not_true_eq_false, eq_self] <;> rfl) h20 h21 (by omega) (by omega) (by omega) hsz hd3 hd4 (mu_inc hm c_22) H locs G ls (lv_sub hl [3, 4, 5, 1, 0] rfl)
        · have c_48 : (τ.2.2.1 8 ((160 * v2) + i1).toNatClampNeg) = 91 := c_48
          refine lv_iinc (v := (o1 + 1)) (lv' := [(3, .int (o1 + 1)), (5, .int (τ.2.2.1 8 ((160 * v2) + i1).toNatClampNeg)), (0, .ref h), (1, .int f0), (2, .int v2), (4, .int i1)]) hx hb dX5_brackets_51 hl (k := 4) rfl rfl (by decide) rfl (fun ls hl => ?_)
          refine lv_iload hx hb dX5_brackets_54 (lv_at hl 1 rfl) ?_
          refine lv_bipush (v := 93) hx hb dX5_brackets_56 (by decide) ?_
          refine lv_icmp_ne (tgt := 64) hx hb dX5_brackets_58 (by decide) (fun c9 => ?_) (fun c9 => absurd c9 (show ¬ ((τ.2.2.1 8 ((160 * v2) + i1).toNatClampNeg) = 93) from by rw [c_48] <;> decide))
          refine lv_iinc (v := (i1 + 1)) (lv' := [(4, .int (i1 + 1)), (3, .int (o1 + 1)), (5, .int (τ.2.2.1 8 ((160 * v2) + i1).toNatClampNeg)), (0, .ref h), (1, .int f0), (2, .int v2)]) hx hb dX5_brackets_64 hl (k := 5) rfl rfl (by decide) rfl (fun ls hl => ?_)
          refine lv_goto (tgt := 14) hx hb dX5_brackets_67 (by decide) ?_
          exact ih v2 (o1 + 1) (i1 + 1) τ (by rw [hI]; simp only [F_brackets_L14, eq_false c_22, eq_false c_26, eq_true c_48, ↓reduceIte, si_self, sm_self, si_snd, sm_fst, si20_16, not_false_eq_true, not_true_eq_false, eq_self] <;> rfl) h20 h21 (by omega) (by omega) (by omega) hsz hd3 hd4 (mu_inc hm c_22) H locs G ls (lv_sub hl [3, 4, 5, 1, 0] rfl)
set_option maxHeartbeats 4000000 in
set_option maxRecDepth 100000 in
theorem c_M_brackets (l : Launch) (dC : Nat → ClassId) (dI : Nat → Nat → Nat) (cI cJ : ClassId) (h : Nat) (ad : Nat → Nat) (sz : Nat) (σ : MS) (f0 : Int32) (hf0 : 0 ≤ f0.toInt) (hf1 : f0.toInt ≤ 160) (hl0 : 1 ≤ (σ.1 11).toInt) (hl1 : (σ.1 11).toInt ≤ 12) (hs : (σ.2.2.1 9 (σ.1 11 - 1).toNatClampNeg).toInt ≤ 160) (hd0 : 0 ≤ (σ.1 5).toInt) (hd1 : (σ.1 5).toInt ≤ 40) : Met l yX5_brackets wsX5_brackets ({ frames := 2, cells := 0, slots := 0, locals := 41 } : Room) (va_Pc [.ref h, .int f0] (mPre dC dI cI cJ h ad sz σ)) (va_Qi (fun r u => F_brackets σ f0 = (r, u)) (mAt dC dI cI cJ h ad (mA h ad cI cJ σ sz)) (mA h ad cI cJ σ sz)) 0 0 (mA h ad cI cJ σ sz) := by
  refine m_ofW (cc := cX5_brackets) (maxL := 7) (ret := (some .boolean)) (by decide) rfl (by decide +kernel) rfl (Nat.le_of_ble_eq_true rfl) ?_
  intro p e s m below meth c X G hA hr hlocks hml ls hl
  have hl : lv_has ls 7 [(0, .ref h), (1, .int f0)] := hl
  have hx := X.1
  have hb := X.2.1
  have hts := X.2.2.1
  have hown := X.2.2.2.2.1
  have z0 : (0 : Int32).toInt = 0 := rfl
  have hv : (σ.1 11 - 1).toInt = (σ.1 11).toInt - 1 := i_subE rfl (show (1 : Int32).toInt = 1 from rfl) (by omega) (by omega)
  refine lv_aload_n hx hb dX5_brackets_0 rfl (lv_at hl 0 rfl) ?_
  refine m_get_11 X G (by decide +kernel) dX5_brackets_1 ?_
  refine lv_iconst (v := 1) hx hb dX5_brackets_4 (by decide) ?_
  refine lv_isub hx hb dX5_brackets_5 ?_
  refine lv_istore_n (lv' := [(2, .int ((σ.1 11) - 1)), (0, .ref h), (1, .int f0)]) hx hb dX5_brackets_6 rfl hl (by decide) rfl (fun ls hl => ?_)
  refine lv_iconst (v := 1) hx hb dX5_brackets_7 (by decide) ?_
  refine lv_istore_n (lv' := [(3, .int 1), (2, .int ((σ.1 11) - 1)), (0, .ref h), (1, .int f0)]) hx hb dX5_brackets_8 rfl hl (by decide) rfl (fun ls hl => ?_)
  refine lv_iload_n hx hb dX5_brackets_9 rfl (lv_at hl 3 rfl) ?_
  refine lv_iconst (v := 1) hx hb dX5_brackets_10 (by decide) ?_
  refine lv_iadd hx hb dX5_brackets_11 ?_
  refine lv_istore (lv' := [(4, .int (f0 + 1)), (3, .int 1), (2, .int ((σ.1 11) - 1)), (0, .ref h), (1, .int f0)]) hx hb dX5_brackets_12 hl (by decide) rfl (fun ls hl => ?_)
  exact c_M_brackets_L14 l σ f0 hf0 hf1 hl0 hl1 hs hd0 hd1 X hA hr hlocks hml (((σ.2.2.1 9 (σ.1 11 - 1).toNatClampNeg).toInt - (f0 + 1).toInt).toNat + 1) ((σ.1 11) - 1) 1 (f0 + 1) σ (by simp only [F_brackets, ↓reduceIte, si_self, sm_self, si_snd, sm_fst, si20_16, not_false_eq_true, not_true_eq_false, eq_self] <;> rfl) (by omega) (by omega) (by first | omega | (rw [i_addE rfl (show (1 : Int32).toInt = 1 from rfl) (by omega) (by omega)]; omega)) (by first | omega | (rw [i_addE rfl (show (1 : Int32).toInt = 1 from rfl) (by omega) (by omega)]; omega)) (by first | omega | (rw [i_addE rfl (show (1 : Int32).toInt = 1 from rfl) (by omega) (by omega)]; omega)) hs hd0 hd1 (Nat.lt_succ_self _) _ _ G ls (lv_sub hl [3, 4, 2, 1, 0] rfl)
