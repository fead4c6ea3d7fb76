theorem ge0 {a : Int32} {x : Int} (h : a.toInt = x) (h0 : 0 ≤ x) : 0 ≤ a.toInt := by rw [h]; exact h0
theorem ltn {a : Int32} {x : Int} {n : Int} (h : a.toInt = x) (h0 : x < n) : a.toInt < n := by rw [h]; exact h0
theorem scp_2 {σ : MS} {b : Nat → Int64} {c d : Nat → Int32} : (scp σ b c d).2.2.2 2 = b := rfl
theorem scp_3 {σ : MS} {b : Nat → Int64} {c d : Nat → Int32} : (scp σ b c d).2.2.1 3 = c := rfl
theorem scp_4 {σ : MS} {b : Nat → Int64} {c d : Nat → Int32} : (scp σ b c d).2.2.1 4 = d := rfl
theorem topOf_v {σ : MS} {r : Int32} (h0 : 0 ≤ r.toInt) (h1 : r.toInt < 4) (h2 : 0 ≤ (σ.2.2.1 7 r.toNatClampNeg).toInt) (h3 : (σ.2.2.1 7 r.toNatClampNeg).toInt ≤ 10) : (F_topOf σ r).toInt = 40 + 10 * r.toInt + (σ.2.2.1 7 r.toNatClampNeg).toInt - 1 := by
  unfold F_topOf
  exact i_subE (i_addE (i_addE (show (40 : Int32).toInt = 40 from rfl) (i_mulE (show (10 : Int32).toInt = 10 from rfl) rfl (by omega) (by omega)) (by omega) (by omega)) rfl (by omega) (by omega)) (show (1 : Int32).toInt = 1 from rfl) (by omega) (by omega)
theorem copy_keepL {f0 t0 : Int32} : ∀ (fu : Nat) (k : Int32) (τ : MS), (F_copy_L26 f0 t0 fu k τ).2.2.1 3 = τ.2.2.1 3 ∧ (F_copy_L26 f0 t0 fu k τ).2.2.2 = τ.2.2.2 := by
  intro fu
  induction fu with
  | zero => intro k τ; exact ⟨rfl, rfl⟩
  | succ fu ih =>
    intro k τ
    simp only [F_copy_L26]
    split
    · exact ⟨rfl, rfl⟩
    · split
      · exact ⟨rfl, rfl⟩
      · obtain ⟨h1, h2⟩ := ih (k + 1) (sa τ 4 ((160 * t0) + k).toNatClampNeg (τ.2.2.1 4 ((160 * f0) + k).toNatClampNeg))
        exact ⟨h1.trans rfl, h2.trans rfl⟩
theorem copy_tx {σ : MS} {f t : Int32} {b2 : Nat → Int64} {a3 a4 : Nat → Int32} (h : tx (σ.2.2.1 3) (σ.2.2.2 2)) (hw : F_copy σ f t = scp σ b2 a3 a4) (h0 : 0 ≤ f.toInt) (h1 : f.toInt < 82) : tx a3 b2 := by
  have hf : f.toNatClampNeg < 82 := cl_lt h0 h1
  have e3 : a3 = (F_copy σ f t).2.2.1 3 := by rw [hw]; rfl
  have e2 : b2 = (F_copy σ f t).2.2.2 2 := by rw [hw]; rfl
  obtain ⟨k1, k2⟩ := copy_keepL (f0 := f) (t0 := t) 162 0 (sa (sb σ 2 t.toNatClampNeg (σ.2.2.2 2 f.toNatClampNeg)) 3 t.toNatClampNeg (σ.2.2.1 3 f.toNatClampNeg))
  have e3' : a3 = upd (σ.2.2.1 3) t.toNatClampNeg (σ.2.2.1 3 f.toNatClampNeg) := by rw [e3]; exact k1
  have e2' : b2 = vp_updL (σ.2.2.2 2) t.toNatClampNeg (σ.2.2.2 2 f.toNatClampNeg) := by rw [e2]; exact congrFun k2 2
  intro j hj
  rw [e3', e2']
  by_cases e : j = t.toNatClampNeg
  · simp only [upd, vp_updL, e, ↓reduceIte]; exact h _ hf
  · simp only [upd, vp_updL, e, ↓reduceIte]; exact h j hj
set_option maxHeartbeats 4000000 in
set_option maxRecDepth 100000 in
theorem c_M_calculates (l : Launch) (dC : Nat → ClassId) (dI : Nat → Nat → Nat) (cI cJ : ClassId) (h : Nat) (ad : Nat → Nat) (sz : Nat) (σ : MS) (c0 : Int32) (hd : (σ.1 5).toInt ≤ 40) (hc : cset c0) : Met l yX5_calculates wsX5_calculates ({ frames := 5, cells := 0, slots := 0, locals := 115 } : Room) (va_Pc [.ref h, .int c0] (mPre dC dI cI cJ h ad sz σ)) (va_Qi (fun r u => F_calculates σ c0 = (r, u)) (mAt dC dI cI cJ h ad (mA h ad cI cJ σ sz)) (mA h ad cI cJ σ sz)) 0 0 (mA h ad cI cJ σ sz) := by
  refine m_ofW (cc := cX5_calculates) (maxL := 8) (ret := (some .boolean)) (by decide) rfl (by decide +kernel) rfl (Nat.le_of_ble_eq_true rfl) ?_
  intro p e s m below meth c X G hA hr hlocks hml ls hl
  have hl : lv_has ls 8 [(0, .ref h), (1, .int c0)] := hl
  have hx := X.1
  have hb := X.2.1
  have hts := X.2.2.1
  have hown := X.2.2.2.2.1
  have z0 : (0 : Int32).toInt = 0 := rfl
  have z1 : (1 : Int32).toInt = 1 := rfl
  have z2 : (2 : Int32).toInt = 2 := rfl
  refine lv_iload_n hx hb dX5_calculates_0 rfl (lv_at hl 1 rfl) ?_
  refine lv_bipush (v := 43) hx hb dX5_calculates_1 (by decide) ?_
  refine lv_icmp_eq (tgt := 12) hx hb dX5_calculates_3 (by decide) (fun c_3 => ?_) (fun c_3 => ?_)
  · have c_3 : c0 = 43 := c_3
    refine lv_aload_n hx hb dX5_calculates_12 rfl (lv_at hl 0 rfl) ?_
    refine lv_iload_n hx hb dX5_calculates_13 rfl (lv_at hl 1 rfl) ?_
    refine lv_bipush (v := 45) hx hb dX5_calculates_14 (by decide) ?_
    refine lv_icmp_ne (tgt := 23) hx hb dX5_calculates_16 (by decide) (fun c9 => ?_) (fun c9 => absurd c9 (show ¬ (c0 = 45) from by rw [c_3] <;> decide))
    refine lv_iconst (v := 0) hx hb dX5_calculates_23 (by decide) ?_
    refine m_calli (As := [.int 0]) (rest := []) X hml G hA (c_M_sum l dC dI cI cJ h ad _ σ 0 hd) (cwV 1 hts gX5_calculates_X5_sum rfl rfl rfl (by decide +kernel) ⟨Nat.le_of_ble_eq_true rfl, Nat.le_of_ble_eq_true rfl⟩) rfl hl.1 rfl (Nat.le_of_ble_eq_true rfl) dX5_calculates_24 ⟨Nat.zero_le _, Nat.zero_le _⟩ (fun r_24 u_24 H locs hw_24 G => ?_)
    obtain ⟨f_24, m_24, n_24, rfl⟩ := sum_st hw_24
    refine lv_goto (tgt := 87) hx hb dX5_calculates_27 (by decide) ?_
    refine lv_istore_n (lv' := [(2, .int r_24), (0, .ref h), (1, .int c0)]) hx hb dX5_calculates_87 rfl hl (by decide) rfl (fun ls hl => ?_)
    refine lv_iload_n hx hb dX5_calculates_88 rfl (lv_at hl 0 rfl) ?_
    refine lv_if_ne (tgt := 94) hx hb dX5_calculates_89 (by decide) (fun c_89 => ?_) (fun c_89 => ?_)
    · have c_89 : ¬ (r_24 = 0) := c_89
      have hn := sum_ok hw_24 c_89
      refine lv_iload_n hx hb dX5_calculates_94 rfl (lv_at hl 2 rfl) ?_
      refine lv_bipush (v := 126) hx hb dX5_calculates_95 (by decide) ?_
      refine lv_icmp_ne (tgt := 131) hx hb dX5_calculates_97 (by decide) (fun c9 => ?_) (fun c9 => absurd c9 (show ¬ (c0 = 126) from by rw [c_3] <;> decide))
      refine lv_iload_n hx hb dX5_calculates_131 rfl (lv_at hl 2 rfl) ?_
      refine lv_bipush (v := 88) hx hb dX5_calculates_132 (by decide) ?_
      refine lv_icmp_ne (tgt := 158) hx hb dX5_calculates_134 (by decide) (fun c9 => ?_) (fun c9 => absurd c9 (show ¬ (c0 = 88) from by rw [c_3] <;> decide))
      refine lv_iload_n hx hb dX5_calculates_158 rfl (lv_at hl 2 rfl) ?_
      refine lv_bipush (v := 107) hx hb dX5_calculates_159 (by decide) ?_
      refine lv_icmp_ne (tgt := 248) hx hb dX5_calculates_161 (by decide) (fun c9 => ?_) (fun c9 => absurd c9 (show ¬ (c0 = 107) from by rw [c_3] <;> decide))
      refine lv_aload_n hx hb dX5_calculates_248 rfl (lv_at hl 1 rfl) ?_
      refine lv_iload_n hx hb dX5_calculates_249 rfl (lv_at hl 2 rfl) ?_
      refine lv_bipush (v := 118) hx hb dX5_calculates_250 (by decide) ?_
      refine lv_icmp_ne (tgt := 259) hx hb dX5_calculates_252 (by decide) (fun c9 => ?_) (fun c9 => absurd c9 (show ¬ (c0 = 118) from by rw [c_3] <;> decide))
      refine lv_iconst (v := 2) hx hb dX5_calculates_259 (by decide) ?_
      refine lv_aload_n hx hb dX5_calculates_260 rfl (lv_at hl 1 rfl) ?_
      refine m_get_19 X G (by decide +kernel) dX5_calculates_261 ?_
      refine lv_aload_n hx hb dX5_calculates_264 rfl (lv_at hl 1 rfl) ?_
      refine m_get_20 X G (by decide +kernel) dX5_calculates_265 ?_
      refine m_callv (As := [.int 2, .long m_24, .int n_24]) (rest := []) X hml G hA (c_M_put l dC dI cI cJ h ad _ (si (sm (si σ 16 f_24) m_24) 20 n_24) 2 m_24 n_24 (show 0 ≤ (σ.1 5).toInt - (2 : Int32).toInt from by omega) (show (σ.1 5).toInt - (2 : Int32).toInt < 82 from by omega)) (cwV 3 hts gX5_calculates_X5_put rfl rfl rfl (by decide +kernel) ⟨Nat.le_of_ble_eq_true rfl, Nat.le_of_ble_eq_true rfl⟩) rfl hl.1 rfl (Nat.le_of_ble_eq_true rfl) dX5_calculates_268 ⟨Nat.zero_le _, Nat.zero_le _⟩ (fun u_268 H locs hw_268 G => ?_)
      subst hw_268
      have G : mH dC dI h ad cI cJ (si (sa (sb (si (si (sm (si σ 16 f_24) m_24) 20 n_24) 5 ((σ.1 5) - 2)) 2 ((σ.1 5) - 2).toNatClampNeg m_24) 3 ((σ.1 5) - 2).toNatClampNeg n_24) 5 (((σ.1 5) - 2) + 1)) (mA h ad cI cJ σ sz) s.heap H locs := G
      refine lv_iconst (v := 1) hx hb dX5_calculates_271 (by decide) ?_
      exact m_zret X G hr hlocks rfl (by simp only [F_calculates, eq_true c_3, hw_24, eq_false c_89, ↓reduceIte, si_self, sm_self, si_snd, sm_fst, si20_16, not_false_eq_true, not_true_eq_false, eq_self, scp_2, scp_3, scp_4]) dX5_calculates_272
    · have c_89 : r_24 = 0 := c_89
      refine lv_iconst (v := 0) hx hb dX5_calculates_92 (by decide) ?_
      exact m_zret X G hr hlocks rfl (by simp only [F_calculates, eq_true c_3, hw_24, eq_true c_89, ↓reduceIte, si_self, sm_self, si_snd, sm_fst, si20_16, not_false_eq_true, not_true_eq_false, eq_self, scp_2, scp_3, scp_4]) dX5_calculates_93
  · have c_3 : ¬ (c0 = 43) := c_3
    refine lv_iload_n hx hb dX5_calculates_6 rfl (lv_at hl 1 rfl) ?_
    refine lv_bipush (v := 45) hx hb dX5_calculates_7 (by decide) ?_
    refine lv_icmp_ne (tgt := 30) hx hb dX5_calculates_9 (by decide) (fun c_9 => ?_) (fun c_9 => ?_)
    · have c_9 : ¬ (c0 = 45) := c_9
      refine lv_iload_n hx hb dX5_calculates_30 rfl (lv_at hl 1 rfl) ?_
      refine lv_bipush (v := 42) hx hb dX5_calculates_31 (by decide) ?_
      refine lv_icmp_ne (tgt := 43) hx hb dX5_calculates_33 (by decide) (fun c_33 => ?_) (fun c_33 => ?_)
      · have c_33 : ¬ (c0 = 42) := c_33
        refine lv_iload_n hx hb dX5_calculates_43 rfl (lv_at hl 1 rfl) ?_
        refine lv_bipush (v := 47) hx hb dX5_calculates_44 (by decide) ?_
        refine lv_icmp_ne (tgt := 56) hx hb dX5_calculates_46 (by decide) (fun c_46 => ?_) (fun c_46 => ?_)
        · have c_46 : ¬ (c0 = 47) := c_46
          refine lv_iload_n hx hb dX5_calculates_56 rfl (lv_at hl 1 rfl) ?_
          refine lv_bipush (v := 37) hx hb dX5_calculates_57 (by decide) ?_
          refine lv_icmp_ne (tgt := 69) hx hb dX5_calculates_59 (by decide) (fun c_59 => ?_) (fun c_59 => ?_)
          · have c_59 : ¬ (c0 = 37) := c_59
            refine lv_iload_n hx hb dX5_calculates_69 rfl (lv_at hl 1 rfl) ?_
            refine lv_bipush (v := 118) hx hb dX5_calculates_70 (by decide) ?_
            refine lv_icmp_ne (tgt := 82) hx hb dX5_calculates_72 (by decide) (fun c_72 => ?_) (fun c_72 => ?_)
            · have c_72 : ¬ (c0 = 118) := c_72
              refine lv_aload_n hx hb dX5_calculates_82 rfl (lv_at hl 0 rfl) ?_
              refine lv_iconst (v := 1) hx hb dX5_calculates_83 (by decide) ?_
              refine m_calli (As := [.int 1]) (rest := []) X hml G hA (c_M_numbers l dC dI cI cJ h ad _ σ 1 (by decide) hd) (cwV 1 hts gX5_calculates_X5_numbers rfl rfl rfl (by decide +kernel) ⟨Nat.le_of_ble_eq_true rfl, Nat.le_of_ble_eq_true rfl⟩) rfl hl.1 rfl (Nat.le_of_ble_eq_true rfl) dX5_calculates_84 ⟨Nat.zero_le _, Nat.zero_le _⟩ (fun r_84 u_84 H locs hw_84 G => ?_)
              refine lv_istore_n (lv' := [(2, .int r_84), (0, .ref h), (1, .int c0)]) hx hb dX5_calculates_87 rfl hl (by decide) rfl (fun ls hl => ?_)
              refine lv_iload_n hx hb dX5_calculates_88 rfl (lv_at hl 0 rfl) ?_
              refine lv_if_ne (tgt := 94) hx hb dX5_calculates_89 (by decide) (fun c_89 => ?_) (fun c_89 => ?_)
              · have c_89 : ¬ (r_84 = 0) := c_89
                obtain ⟨rfl, hn⟩ := numbers_ok hw_84 c_89
                have hn : 1 ≤ (σ.1 5).toInt := hn
                refine lv_iload_n hx hb dX5_calculates_94 rfl (lv_at hl 2 rfl) ?_
                refine lv_bipush (v := 126) hx hb dX5_calculates_95 (by decide) ?_
                refine lv_icmp_ne (tgt := 131) hx hb dX5_calculates_97 (by decide) (fun c_97 => ?_) (fun c_97 => ?_)
                · have c_97 : ¬ (c0 = 126) := c_97
                  refine lv_iload_n hx hb dX5_calculates_131 rfl (lv_at hl 2 rfl) ?_
                  refine lv_bipush (v := 88) hx hb dX5_calculates_132 (by decide) ?_
                  refine lv_icmp_ne (tgt := 158) hx hb dX5_calculates_134 (by decide) (fun c_134 => ?_) (fun c_134 => ?_)
                  · have c_134 : ¬ (c0 = 88) := c_134
                    refine lv_iload_n hx hb dX5_calculates_158 rfl (lv_at hl 2 rfl) ?_
                    refine lv_bipush (v := 107) hx hb dX5_calculates_159 (by decide) ?_
                    refine lv_icmp_ne (tgt := 248) hx hb dX5_calculates_161 (by decide) (fun c_161 => ?_) (fun c_161 => ?_)
                    · have c_161 : ¬ (c0 = 107) := c_161
                      simp only [cset, c_3, c_9, c_33, c_46, c_59, c_72, c_97, c_134, c_161, or_self] at hc
                    · have c_161 : c0 = 107 := c_161
                      refine lv_aload_n hx hb dX5_calculates_164 rfl (lv_at hl 1 rfl) ?_
                      refine m_get_2 X G (by decide +kernel) dX5_calculates_165 ?_
                      refine lv_aload_n hx hb dX5_calculates_168 rfl (lv_at hl 1 rfl) ?_
                      refine m_get_5 X G (by decide +kernel) dX5_calculates_169 ?_
                      refine lv_iconst (v := 1) hx hb dX5_calculates_172 (by decide) ?_
                      refine lv_isub hx hb dX5_calculates_173 ?_
                      refine m_ld_2 X G (vin (i_subE (rfl : (σ.1 5).toInt = _) (show (1 : Int32).toInt = 1 from rfl) (by omega) (by omega)) (by omega) (by omega)) dX5_calculates_174 ?_
                      refine lv_lstore_n (lv' := [(3, .long (σ.2.2.2 2 ((σ.1 5) - 1).toNatClampNeg)), (2, .int r_84), (0, .ref h), (1, .int c0)]) hx hb dX5_calculates_175 rfl hl (by decide) rfl (fun ls hl => ?_)
                      refine lv_aload_n hx hb dX5_calculates_176 rfl (lv_at hl 2 rfl) ?_
                      refine m_get_3 X G (by decide +kernel) dX5_calculates_177 ?_
                      refine lv_aload_n hx hb dX5_calculates_180 rfl (lv_at hl 2 rfl) ?_
                      refine m_get_5 X G (by decide +kernel) dX5_calculates_181 ?_
                      refine lv_iconst (v := 1) hx hb dX5_calculates_184 (by decide) ?_
                      refine lv_isub hx hb dX5_calculates_185 ?_
                      refine m_ld_3 X G (vin (i_subE (rfl : (σ.1 5).toInt = _) (show (1 : Int32).toInt = 1 from rfl) (by omega) (by omega)) (by omega) (by omega)) dX5_calculates_186 ?_
                      refine lv_istore (lv' := [(5, .int (σ.2.2.1 3 ((σ.1 5) - 1).toNatClampNeg)), (3, .long (σ.2.2.2 2 ((σ.1 5) - 1).toNatClampNeg)), (2, .int r_84), (0, .ref h), (1, .int c0)]) hx hb dX5_calculates_187 hl (by decide) rfl (fun ls hl => ?_)
                      refine lv_lload_n hx hb dX5_calculates_189 rfl (lv_at hl 1 rfl) ?_
                      refine lv_iload hx hb dX5_calculates_190 (lv_at hl 0 rfl) ?_
                      refine W.callRL (W.runS (As := [.long (σ.2.2.2 2 ((σ.1 5) - 1).toNatClampNeg), .int (σ.2.2.1 3 ((σ.1 5) - 1).toNatClampNeg)]) (rest := []) ⟨hx, hb, hml, hown, hts⟩ (c_M_cut l (σ.2.2.2 2 ((σ.1 5) - 1).toNatClampNeg) (σ.2.2.1 3 ((σ.1 5) - 1).toNatClampNeg)) (va_cwS 2 hts gX5_calculates_X5_cut rfl rfl rfl (by decide +kernel) ⟨Nat.le_of_ble_eq_true rfl, Nat.le_of_ble_eq_true rfl⟩) ⟨fun a U g mk q => q, fun U _ _ => ⟨rfl, trivial⟩⟩ rfl rfl hl.1 rfl (lv_room (Nat.le_of_ble_eq_true rfl)) dX5_calculates_192 ⟨Nat.zero_le _, Nat.zero_le _⟩) ?_
                      refine W.eq (g2 := F0 m 195 ls [.long (f_cut (σ.2.2.2 2 ((σ.1 5) - 1).toNatClampNeg) (σ.2.2.1 3 ((σ.1 5) - 1).toNatClampNeg))]) rfl ?_
                      refine lv_lstore (lv' := [(6, .long (f_cut (σ.2.2.2 2 ((σ.1 5) - 1).toNatClampNeg) (σ.2.2.1 3 ((σ.1 5) - 1).toNatClampNeg))), (5, .int (σ.2.2.1 3 ((σ.1 5) - 1).toNatClampNeg)), (3, .long (σ.2.2.2 2 ((σ.1 5) - 1).toNatClampNeg)), (2, .int r_84), (0, .ref h), (1, .int c0)]) hx hb dX5_calculates_195 hl (by decide) rfl (fun ls hl => ?_)
                      refine lv_aload_n hx hb dX5_calculates_197 rfl (lv_at hl 4 rfl) ?_
                      refine lv_lload hx hb dX5_calculates_198 (lv_at hl 0 rfl) ?_
                      refine lv_iload hx hb dX5_calculates_200 (lv_at hl 1 rfl) ?_
                      refine m_calll (As := [.long (f_cut (σ.2.2.2 2 ((σ.1 5) - 1).toNatClampNeg) (σ.2.2.1 3 ((σ.1 5) - 1).toNatClampNeg)), .int (σ.2.2.1 3 ((σ.1 5) - 1).toNatClampNeg)]) (rest := []) X hml G hA (c_M_raised l dC dI cI cJ h ad _ σ (f_cut (σ.2.2.2 2 ((σ.1 5) - 1).toNatClampNeg) (σ.2.2.1 3 ((σ.1 5) - 1).toNatClampNeg)) (σ.2.2.1 3 ((σ.1 5) - 1).toNatClampNeg)) (cwV 2 hts gX5_calculates_X5_raised rfl rfl rfl (by decide +kernel) ⟨Nat.le_of_ble_eq_true rfl, Nat.le_of_ble_eq_true rfl⟩) rfl hl.1 rfl (Nat.le_of_ble_eq_true rfl) dX5_calculates_202 ⟨Nat.zero_le _, Nat.zero_le _⟩ (fun r_202 u_202 H locs hw_202 G => ?_)
                      obtain ⟨f_202, rfl⟩ := raised_st hw_202
                      refine lv_lload_n hx hb dX5_calculates_205 rfl (lv_at hl 2 rfl) ?_
                      refine W.lcmp hx hb dX5_calculates_206 ?_
                      refine lv_if_ne (tgt := 222) hx hb dX5_calculates_207 (by decide) (fun c_207 => ?_) (fun c_207 => ?_)
                      · have c_207 := (mt (l_cmp_eq _ _).mpr c_207)
                        have c_207 : ¬ (r_202 = (σ.2.2.2 2 ((σ.1 5) - 1).toNatClampNeg)) := c_207
                        refine lv_aload_n hx hb dX5_calculates_222 rfl (lv_at hl 4 rfl) ?_
                        refine lv_iconst (v := 4) hx hb dX5_calculates_223 (by decide) ?_
                        refine m_calli (As := [.int 4]) (rest := []) X hml G hA (c_M_fail l dC dI cI cJ h ad _ (si σ 16 f_202) 4) (cwV 1 hts gX5_calculates_X5_fail rfl rfl rfl (by decide +kernel) ⟨Nat.le_of_ble_eq_true rfl, Nat.le_of_ble_eq_true rfl⟩) rfl hl.1 rfl (Nat.le_of_ble_eq_true rfl) dX5_calculates_224 ⟨Nat.zero_le _, Nat.zero_le _⟩ (fun r_224 u_224 H locs hw_224 G => ?_)
                        obtain ⟨rfl, rfl⟩ := hw_224
                        exact m_zret X G hr hlocks rfl (by simp only [F_calculates, eq_false c_3, eq_false c_9, eq_false c_33, eq_false c_46, eq_false c_59, eq_false c_72, hw_84, eq_false c_89, eq_false c_97, eq_false c_134, eq_true c_161, hw_202, eq_false c_207, ↓reduceIte, si_self, sm_self, si_snd, sm_fst, si20_16, not_false_eq_true, not_true_eq_false, eq_self, scp_2, scp_3, scp_4]) dX5_calculates_227
                      · have c_207 := ((l_cmp_eq _ _).mp c_207)
                        have c_207 : r_202 = (σ.2.2.2 2 ((σ.1 5) - 1).toNatClampNeg) := c_207
                        refine lv_lload hx hb dX5_calculates_210 (lv_at hl 0 rfl) ?_
                        refine lv_lconst (v := 0) hx hb dX5_calculates_212 (by decide) ?_
                        refine lv_ldc2 (v := 9) hx hb hown (hts (.constantLong RX5 151 (9)) (by decide +kernel)) dX5_calculates_213 ?_
                        refine W.callR (W.runS (As := [.long (f_cut (σ.2.2.2 2 ((σ.1 5) - 1).toNatClampNeg) (σ.2.2.1 3 ((σ.1 5) - 1).toNatClampNeg)), .long 0, .long 9]) (rest := []) ⟨hx, hb, hml, hown, hts⟩ (c_M_within l (f_cut (σ.2.2.2 2 ((σ.1 5) - 1).toNatClampNeg) (σ.2.2.1 3 ((σ.1 5) - 1).toNatClampNeg)) 0 9) (va_cwS 3 hts gX5_calculates_X5_within rfl rfl rfl (by decide +kernel) ⟨Nat.le_of_ble_eq_true rfl, Nat.le_of_ble_eq_true rfl⟩) ⟨fun a U g mk q => q, fun U _ _ => ⟨rfl, trivial⟩⟩ rfl rfl hl.1 rfl (lv_room (Nat.le_of_ble_eq_true rfl)) dX5_calculates_216 ⟨Nat.zero_le _, Nat.zero_le _⟩) ?_
                        refine W.eq (g2 := F0 m 219 ls [.int (f_within (f_cut (σ.2.2.2 2 ((σ.1 5) - 1).toNatClampNeg) (σ.2.2.1 3 ((σ.1 5) - 1).toNatClampNeg)) 0 9)]) rfl ?_
                        refine lv_if_ne (tgt := 228) hx hb dX5_calculates_219 (by decide) (fun c_219 => ?_) (fun c_219 => ?_)
                        · have c_219 : ¬ ((f_within (f_cut (σ.2.2.2 2 ((σ.1 5) - 1).toNatClampNeg) (σ.2.2.1 3 ((σ.1 5) - 1).toNatClampNeg)) 0 9) = 0) := c_219
                          refine lv_aload_n hx hb dX5_calculates_228 rfl (lv_at hl 4 rfl) ?_
                          refine lv_lload hx hb dX5_calculates_229 (lv_at hl 0 rfl) ?_
                          refine lv_l2i hx hb dX5_calculates_231 rfl ?_
                          refine m_put_6 X G (by decide +kernel) dX5_calculates_232 (fun H locs G => ?_)
                          have G : mH dC dI h ad cI cJ (si (si σ 16 f_202) 6 ((f_cut (σ.2.2.2 2 ((σ.1 5) - 1).toNatClampNeg) (σ.2.2.1 3 ((σ.1 5) - 1).toNatClampNeg)).toInt32)) (mA h ad cI cJ σ sz) s.heap H locs := G
                          refine lv_aload_n hx hb dX5_calculates_235 rfl (lv_at hl 4 rfl) ?_
                          refine lv_dup hx hb dX5_calculates_236 rfl ?_
                          refine m_get_5 X G (by decide +kernel) dX5_calculates_237 ?_
                          refine lv_iconst (v := 1) hx hb dX5_calculates_240 (by decide) ?_
                          refine lv_isub hx hb dX5_calculates_241 ?_
                          refine m_put_5 X G (by decide +kernel) dX5_calculates_242 (fun H locs G => ?_)
                          have G : mH dC dI h ad cI cJ (si (si (si σ 16 f_202) 6 ((f_cut (σ.2.2.2 2 ((σ.1 5) - 1).toNatClampNeg) (σ.2.2.1 3 ((σ.1 5) - 1).toNatClampNeg)).toInt32)) 5 ((σ.1 5) - 1)) (mA h ad cI cJ σ sz) s.heap H locs := G
                          refine lv_goto (tgt := 271) hx hb dX5_calculates_245 (by decide) ?_
                          refine lv_iconst (v := 1) hx hb dX5_calculates_271 (by decide) ?_
                          exact m_zret X G hr hlocks rfl (by simp only [F_calculates, eq_false c_3, eq_false c_9, eq_false c_33, eq_false c_46, eq_false c_59, eq_false c_72, hw_84, eq_false c_89, eq_false c_97, eq_false c_134, eq_true c_161, hw_202, eq_true c_207, eq_false c_219, ↓reduceIte, si_self, sm_self, si_snd, sm_fst, si20_16, not_false_eq_true, not_true_eq_false, eq_self, scp_2, scp_3, scp_4]) dX5_calculates_272
                        · have c_219 : (f_within (f_cut (σ.2.2.2 2 ((σ.1 5) - 1).toNatClampNeg) (σ.2.2.1 3 ((σ.1 5) - 1).toNatClampNeg)) 0 9) = 0 := c_219
                          refine lv_aload_n hx hb dX5_calculates_222 rfl (lv_at hl 4 rfl) ?_
                          refine lv_iconst (v := 4) hx hb dX5_calculates_223 (by decide) ?_
                          refine m_calli (As := [.int 4]) (rest := []) X hml G hA (c_M_fail l dC dI cI cJ h ad _ (si σ 16 f_202) 4) (cwV 1 hts gX5_calculates_X5_fail rfl rfl rfl (by decide +kernel) ⟨Nat.le_of_ble_eq_true rfl, Nat.le_of_ble_eq_true rfl⟩) rfl hl.1 rfl (Nat.le_of_ble_eq_true rfl) dX5_calculates_224 ⟨Nat.zero_le _, Nat.zero_le _⟩ (fun r_224 u_224 H locs hw_224 G => ?_)
                          obtain ⟨rfl, rfl⟩ := hw_224
                          exact m_zret X G hr hlocks rfl (by simp only [F_calculates, eq_false c_3, eq_false c_9, eq_false c_33, eq_false c_46, eq_false c_59, eq_false c_72, hw_84, eq_false c_89, eq_false c_97, eq_false c_134, eq_true c_161, hw_202, eq_true c_207, eq_true c_219, ↓reduceIte, si_self, sm_self, si_snd, sm_fst, si20_16, not_false_eq_true, not_true_eq_false, eq_self, scp_2, scp_3, scp_4]) dX5_calculates_227
                  · have c_134 : c0 = 88 := c_134
                    refine lv_aload_n hx hb dX5_calculates_137 rfl (lv_at hl 1 rfl) ?_
                    refine lv_iconst (v := 1) hx hb dX5_calculates_138 (by decide) ?_
                    refine lv_aload_n hx hb dX5_calculates_139 rfl (lv_at hl 1 rfl) ?_
                    refine m_get_3 X G (by decide +kernel) dX5_calculates_140 ?_
                    refine lv_aload_n hx hb dX5_calculates_143 rfl (lv_at hl 1 rfl) ?_
                    refine m_get_5 X G (by decide +kernel) dX5_calculates_144 ?_
                    refine lv_iconst (v := 1) hx hb dX5_calculates_147 (by decide) ?_
                    refine lv_isub hx hb dX5_calculates_148 ?_
                    refine m_ld_3 X G (vin (i_subE (rfl : (σ.1 5).toInt = _) (show (1 : Int32).toInt = 1 from rfl) (by omega) (by omega)) (by omega) (by omega)) dX5_calculates_149 ?_
                    refine lv_i2l hx hb dX5_calculates_150 rfl ?_
                    refine lv_iconst (v := 0) hx hb dX5_calculates_151 (by decide) ?_
                    refine m_callv (As := [.int 1, .long ((σ.2.2.1 3 ((σ.1 5) - 1).toNatClampNeg).toInt64), .int 0]) (rest := []) X hml G hA (c_M_put l dC dI cI cJ h ad _ σ 1 ((σ.2.2.1 3 ((σ.1 5) - 1).toNatClampNeg).toInt64) 0 (show 0 ≤ (σ.1 5).toInt - (1 : Int32).toInt from by omega) (show (σ.1 5).toInt - (1 : Int32).toInt < 82 from by omega)) (cwV 3 hts gX5_calculates_X5_put rfl rfl rfl (by decide +kernel) ⟨Nat.le_of_ble_eq_true rfl, Nat.le_of_ble_eq_true rfl⟩) rfl hl.1 rfl (Nat.le_of_ble_eq_true rfl) dX5_calculates_152 ⟨Nat.zero_le _, Nat.zero_le _⟩ (fun u_152 H locs hw_152 G => ?_)
                    subst hw_152
                    have G : mH dC dI h ad cI cJ (si (sa (sb (si σ 5 ((σ.1 5) - 1)) 2 ((σ.1 5) - 1).toNatClampNeg ((σ.2.2.1 3 ((σ.1 5) - 1).toNatClampNeg).toInt64)) 3 ((σ.1 5) - 1).toNatClampNeg 0) 5 (((σ.1 5) - 1) + 1)) (mA h ad cI cJ σ sz) s.heap H locs := G
                    refine lv_goto (tgt := 271) hx hb dX5_calculates_155 (by decide) ?_
                    refine lv_iconst (v := 1) hx hb dX5_calculates_271 (by decide) ?_
                    exact m_zret X G hr hlocks rfl (by simp only [F_calculates, eq_false c_3, eq_false c_9, eq_false c_33, eq_false c_46, eq_false c_59, eq_false c_72, hw_84, eq_false c_89, eq_false c_97, eq_true c_134, ↓reduceIte, si_self, sm_self, si_snd, sm_fst, si20_16, not_false_eq_true, not_true_eq_false, eq_self, scp_2, scp_3, scp_4]) dX5_calculates_272
                · have c_97 : c0 = 126 := c_97
                  refine lv_aload_n hx hb dX5_calculates_100 rfl (lv_at hl 1 rfl) ?_
                  refine lv_iconst (v := 1) hx hb dX5_calculates_101 (by decide) ?_
                  refine lv_aload_n hx hb dX5_calculates_102 rfl (lv_at hl 1 rfl) ?_
                  refine m_get_2 X G (by decide +kernel) dX5_calculates_103 ?_
                  refine lv_aload_n hx hb dX5_calculates_106 rfl (lv_at hl 1 rfl) ?_
                  refine m_get_5 X G (by decide +kernel) dX5_calculates_107 ?_
                  refine lv_iconst (v := 1) hx hb dX5_calculates_110 (by decide) ?_
                  refine lv_isub hx hb dX5_calculates_111 ?_
                  refine m_ld_2 X G (vin (i_subE (rfl : (σ.1 5).toInt = _) (show (1 : Int32).toInt = 1 from rfl) (by omega) (by omega)) (by omega) (by omega)) dX5_calculates_112 ?_
                  refine lv_lneg hx hb dX5_calculates_113 ?_
                  refine lv_aload_n hx hb dX5_calculates_114 rfl (lv_at hl 1 rfl) ?_
                  refine m_get_3 X G (by decide +kernel) dX5_calculates_115 ?_
                  refine lv_aload_n hx hb dX5_calculates_118 rfl (lv_at hl 1 rfl) ?_
                  refine m_get_5 X G (by decide +kernel) dX5_calculates_119 ?_
                  refine lv_iconst (v := 1) hx hb dX5_calculates_122 (by decide) ?_
                  refine lv_isub hx hb dX5_calculates_123 ?_
                  refine m_ld_3 X G (vin (i_subE (rfl : (σ.1 5).toInt = _) (show (1 : Int32).toInt = 1 from rfl) (by omega) (by omega)) (by omega) (by omega)) dX5_calculates_124 ?_
                  refine m_callv (As := [.int 1, .long (-(σ.2.2.2 2 ((σ.1 5) - 1).toNatClampNeg)), .int (σ.2.2.1 3 ((σ.1 5) - 1).toNatClampNeg)]) (rest := []) X hml G hA (c_M_put l dC dI cI cJ h ad _ σ 1 (-(σ.2.2.2 2 ((σ.1 5) - 1).toNatClampNeg)) (σ.2.2.1 3 ((σ.1 5) - 1).toNatClampNeg) (show 0 ≤ (σ.1 5).toInt - (1 : Int32).toInt from by omega) (show (σ.1 5).toInt - (1 : Int32).toInt < 82 from by omega)) (cwV 3 hts gX5_calculates_X5_put rfl rfl rfl (by decide +kernel) ⟨Nat.le_of_ble_eq_true rfl, Nat.le_of_ble_eq_true rfl⟩) rfl hl.1 rfl (Nat.le_of_ble_eq_true rfl) dX5_calculates_125 ⟨Nat.zero_le _, Nat.zero_le _⟩ (fun u_125 H locs hw_125 G => ?_)
                  subst hw_125
                  have G : mH dC dI h ad cI cJ (si (sa (sb (si σ 5 ((σ.1 5) - 1)) 2 ((σ.1 5) - 1).toNatClampNeg (-(σ.2.2.2 2 ((σ.1 5) - 1).toNatClampNeg))) 3 ((σ.1 5) - 1).toNatClampNeg (σ.2.2.1 3 ((σ.1 5) - 1).toNatClampNeg)) 5 (((σ.1 5) - 1) + 1)) (mA h ad cI cJ σ sz) s.heap H locs := G
                  refine lv_goto (tgt := 271) hx hb dX5_calculates_128 (by decide) ?_
                  refine lv_iconst (v := 1) hx hb dX5_calculates_271 (by decide) ?_
                  exact m_zret X G hr hlocks rfl (by simp only [F_calculates, eq_false c_3, eq_false c_9, eq_false c_33, eq_false c_46, eq_false c_59, eq_false c_72, hw_84, eq_false c_89, eq_true c_97, ↓reduceIte, si_self, sm_self, si_snd, sm_fst, si20_16, not_false_eq_true, not_true_eq_false, eq_self, scp_2, scp_3, scp_4]) dX5_calculates_272
              · have c_89 : r_84 = 0 := c_89
                refine lv_iconst (v := 0) hx hb dX5_calculates_92 (by decide) ?_
                exact m_zret X G hr hlocks rfl (by simp only [F_calculates, eq_false c_3, eq_false c_9, eq_false c_33, eq_false c_46, eq_false c_59, eq_false c_72, hw_84, eq_true c_89, ↓reduceIte, si_self, sm_self, si_snd, sm_fst, si20_16, not_false_eq_true, not_true_eq_false, eq_self, scp_2, scp_3, scp_4]) dX5_calculates_93
            · have c_72 : c0 = 118 := c_72
              refine lv_aload_n hx hb dX5_calculates_75 rfl (lv_at hl 0 rfl) ?_
              refine m_calli (As := []) (rest := []) X hml G hA (c_M_root l dC dI cI cJ h ad _ σ hd) (cwV 0 hts gX5_calculates_X5_root rfl rfl rfl (by decide +kernel) ⟨Nat.le_of_ble_eq_true rfl, Nat.le_of_ble_eq_true rfl⟩) rfl hl.1 rfl (Nat.le_of_ble_eq_true rfl) dX5_calculates_76 ⟨Nat.zero_le _, Nat.zero_le _⟩ (fun r_76 u_76 H locs hw_76 G => ?_)
              obtain ⟨f_76, m_76, n_76, rfl⟩ := root_st hw_76
              refine lv_goto (tgt := 87) hx hb dX5_calculates_79 (by decide) ?_
              refine lv_istore_n (lv' := [(2, .int r_76), (0, .ref h), (1, .int c0)]) hx hb dX5_calculates_87 rfl hl (by decide) rfl (fun ls hl => ?_)
              refine lv_iload_n hx hb dX5_calculates_88 rfl (lv_at hl 0 rfl) ?_
              refine lv_if_ne (tgt := 94) hx hb dX5_calculates_89 (by decide) (fun c_89 => ?_) (fun c_89 => ?_)
              · have c_89 : ¬ (r_76 = 0) := c_89
                have hn := mroot_ok hw_76 c_89
                refine lv_iload_n hx hb dX5_calculates_94 rfl (lv_at hl 2 rfl) ?_
                refine lv_bipush (v := 126) hx hb dX5_calculates_95 (by decide) ?_
                refine lv_icmp_ne (tgt := 131) hx hb dX5_calculates_97 (by decide) (fun c9 => ?_) (fun c9 => absurd c9 (show ¬ (c0 = 126) from by rw [c_72] <;> decide))
                refine lv_iload_n hx hb dX5_calculates_131 rfl (lv_at hl 2 rfl) ?_
                refine lv_bipush (v := 88) hx hb dX5_calculates_132 (by decide) ?_
                refine lv_icmp_ne (tgt := 158) hx hb dX5_calculates_134 (by decide) (fun c9 => ?_) (fun c9 => absurd c9 (show ¬ (c0 = 88) from by rw [c_72] <;> decide))
                refine lv_iload_n hx hb dX5_calculates_158 rfl (lv_at hl 2 rfl) ?_
                refine lv_bipush (v := 107) hx hb dX5_calculates_159 (by decide) ?_
                refine lv_icmp_ne (tgt := 248) hx hb dX5_calculates_161 (by decide) (fun c9 => ?_) (fun c9 => absurd c9 (show ¬ (c0 = 107) from by rw [c_72] <;> decide))
                refine lv_aload_n hx hb dX5_calculates_248 rfl (lv_at hl 1 rfl) ?_
                refine lv_iload_n hx hb dX5_calculates_249 rfl (lv_at hl 2 rfl) ?_
                refine lv_bipush (v := 118) hx hb dX5_calculates_250 (by decide) ?_
                refine lv_icmp_ne (tgt := 259) hx hb dX5_calculates_252 (by decide) (fun c9 => absurd (show c0 = 118 from by rw [c_72] <;> decide) c9) (fun c9 => ?_)
                refine lv_iconst (v := 1) hx hb dX5_calculates_255 (by decide) ?_
                refine lv_goto (tgt := 260) hx hb dX5_calculates_256 (by decide) ?_
                refine lv_aload_n hx hb dX5_calculates_260 rfl (lv_at hl 1 rfl) ?_
                refine m_get_19 X G (by decide +kernel) dX5_calculates_261 ?_
                refine lv_aload_n hx hb dX5_calculates_264 rfl (lv_at hl 1 rfl) ?_
                refine m_get_20 X G (by decide +kernel) dX5_calculates_265 ?_
                refine m_callv (As := [.int 1, .long m_76, .int n_76]) (rest := []) X hml G hA (c_M_put l dC dI cI cJ h ad _ (si (sm (si σ 16 f_76) m_76) 20 n_76) 1 m_76 n_76 (show 0 ≤ (σ.1 5).toInt - (1 : Int32).toInt from by omega) (show (σ.1 5).toInt - (1 : Int32).toInt < 82 from by omega)) (cwV 3 hts gX5_calculates_X5_put rfl rfl rfl (by decide +kernel) ⟨Nat.le_of_ble_eq_true rfl, Nat.le_of_ble_eq_true rfl⟩) rfl hl.1 rfl (Nat.le_of_ble_eq_true rfl) dX5_calculates_268 ⟨Nat.zero_le _, Nat.zero_le _⟩ (fun u_268 H locs hw_268 G => ?_)
                subst hw_268
                have G : mH dC dI h ad cI cJ (si (sa (sb (si (si (sm (si σ 16 f_76) m_76) 20 n_76) 5 ((σ.1 5) - 1)) 2 ((σ.1 5) - 1).toNatClampNeg m_76) 3 ((σ.1 5) - 1).toNatClampNeg n_76) 5 (((σ.1 5) - 1) + 1)) (mA h ad cI cJ σ sz) s.heap H locs := G
                refine lv_iconst (v := 1) hx hb dX5_calculates_271 (by decide) ?_
                exact m_zret X G hr hlocks rfl (by simp only [F_calculates, eq_false c_3, eq_false c_9, eq_false c_33, eq_false c_46, eq_false c_59, eq_true c_72, hw_76, eq_false c_89, ↓reduceIte, si_self, sm_self, si_snd, sm_fst, si20_16, not_false_eq_true, not_true_eq_false, eq_self, scp_2, scp_3, scp_4]) dX5_calculates_272
              · have c_89 : r_76 = 0 := c_89
                refine lv_iconst (v := 0) hx hb dX5_calculates_92 (by decide) ?_
                exact m_zret X G hr hlocks rfl (by simp only [F_calculates, eq_false c_3, eq_false c_9, eq_false c_33, eq_false c_46, eq_false c_59, eq_true c_72, hw_76, eq_true c_89, ↓reduceIte, si_self, sm_self, si_snd, sm_fst, si20_16, not_false_eq_true, not_true_eq_false, eq_self, scp_2, scp_3, scp_4]) dX5_calculates_93
          · have c_59 : c0 = 37 := c_59
            refine lv_aload_n hx hb dX5_calculates_62 rfl (lv_at hl 0 rfl) ?_
            refine m_calli (As := []) (rest := []) X hml G hA (c_M_rest l dC dI cI cJ h ad _ σ hd) (cwV 0 hts gX5_calculates_X5_rest rfl rfl rfl (by decide +kernel) ⟨Nat.le_of_ble_eq_true rfl, Nat.le_of_ble_eq_true rfl⟩) rfl hl.1 rfl (Nat.le_of_ble_eq_true rfl) dX5_calculates_63 ⟨Nat.zero_le _, Nat.zero_le _⟩ (fun r_63 u_63 H locs hw_63 G => ?_)
            obtain ⟨f_63, m_63, n_63, rfl⟩ := rest_st hw_63
            refine lv_goto (tgt := 87) hx hb dX5_calculates_66 (by decide) ?_
            refine lv_istore_n (lv' := [(2, .int r_63), (0, .ref h), (1, .int c0)]) hx hb dX5_calculates_87 rfl hl (by decide) rfl (fun ls hl => ?_)
            refine lv_iload_n hx hb dX5_calculates_88 rfl (lv_at hl 0 rfl) ?_
            refine lv_if_ne (tgt := 94) hx hb dX5_calculates_89 (by decide) (fun c_89 => ?_) (fun c_89 => ?_)
            · have c_89 : ¬ (r_63 = 0) := c_89
              have hn := rest_ok hw_63 c_89
              refine lv_iload_n hx hb dX5_calculates_94 rfl (lv_at hl 2 rfl) ?_
              refine lv_bipush (v := 126) hx hb dX5_calculates_95 (by decide) ?_
              refine lv_icmp_ne (tgt := 131) hx hb dX5_calculates_97 (by decide) (fun c9 => ?_) (fun c9 => absurd c9 (show ¬ (c0 = 126) from by rw [c_59] <;> decide))
              refine lv_iload_n hx hb dX5_calculates_131 rfl (lv_at hl 2 rfl) ?_
              refine lv_bipush (v := 88) hx hb dX5_calculates_132 (by decide) ?_
              refine lv_icmp_ne (tgt := 158) hx hb dX5_calculates_134 (by decide) (fun c9 => ?_) (fun c9 => absurd c9 (show ¬ (c0 = 88) from by rw [c_59] <;> decide))
              refine lv_iload_n hx hb dX5_calculates_158 rfl (lv_at hl 2 rfl) ?_
              refine lv_bipush (v := 107) hx hb dX5_calculates_159 (by decide) ?_
              refine lv_icmp_ne (tgt := 248) hx hb dX5_calculates_161 (by decide) (fun c9 => ?_) (fun c9 => absurd c9 (show ¬ (c0 = 107) from by rw [c_59] <;> decide))
              refine lv_aload_n hx hb dX5_calculates_248 rfl (lv_at hl 1 rfl) ?_
              refine lv_iload_n hx hb dX5_calculates_249 rfl (lv_at hl 2 rfl) ?_
              refine lv_bipush (v := 118) hx hb dX5_calculates_250 (by decide) ?_
              refine lv_icmp_ne (tgt := 259) hx hb dX5_calculates_252 (by decide) (fun c9 => ?_) (fun c9 => absurd c9 (show ¬ (c0 = 118) from by rw [c_59] <;> decide))
              refine lv_iconst (v := 2) hx hb dX5_calculates_259 (by decide) ?_
              refine lv_aload_n hx hb dX5_calculates_260 rfl (lv_at hl 1 rfl) ?_
              refine m_get_19 X G (by decide +kernel) dX5_calculates_261 ?_
              refine lv_aload_n hx hb dX5_calculates_264 rfl (lv_at hl 1 rfl) ?_
              refine m_get_20 X G (by decide +kernel) dX5_calculates_265 ?_
              refine m_callv (As := [.int 2, .long m_63, .int n_63]) (rest := []) X hml G hA (c_M_put l dC dI cI cJ h ad _ (si (sm (si σ 16 f_63) m_63) 20 n_63) 2 m_63 n_63 (show 0 ≤ (σ.1 5).toInt - (2 : Int32).toInt from by omega) (show (σ.1 5).toInt - (2 : Int32).toInt < 82 from by omega)) (cwV 3 hts gX5_calculates_X5_put rfl rfl rfl (by decide +kernel) ⟨Nat.le_of_ble_eq_true rfl, Nat.le_of_ble_eq_true rfl⟩) rfl hl.1 rfl (Nat.le_of_ble_eq_true rfl) dX5_calculates_268 ⟨Nat.zero_le _, Nat.zero_le _⟩ (fun u_268 H locs hw_268 G => ?_)
              subst hw_268
              have G : mH dC dI h ad cI cJ (si (sa (sb (si (si (sm (si σ 16 f_63) m_63) 20 n_63) 5 ((σ.1 5) - 2)) 2 ((σ.1 5) - 2).toNatClampNeg m_63) 3 ((σ.1 5) - 2).toNatClampNeg n_63) 5 (((σ.1 5) - 2) + 1)) (mA h ad cI cJ σ sz) s.heap H locs := G
              refine lv_iconst (v := 1) hx hb dX5_calculates_271 (by decide) ?_
              exact m_zret X G hr hlocks rfl (by simp only [F_calculates, eq_false c_3, eq_false c_9, eq_false c_33, eq_false c_46, eq_true c_59, hw_63, eq_false c_89, ↓reduceIte, si_self, sm_self, si_snd, sm_fst, si20_16, not_false_eq_true, not_true_eq_false, eq_self, scp_2, scp_3, scp_4]) dX5_calculates_272
            · have c_89 : r_63 = 0 := c_89
              refine lv_iconst (v := 0) hx hb dX5_calculates_92 (by decide) ?_
              exact m_zret X G hr hlocks rfl (by simp only [F_calculates, eq_false c_3, eq_false c_9, eq_false c_33, eq_false c_46, eq_true c_59, hw_63, eq_true c_89, ↓reduceIte, si_self, sm_self, si_snd, sm_fst, si20_16, not_false_eq_true, not_true_eq_false, eq_self, scp_2, scp_3, scp_4]) dX5_calculates_93
        · have c_46 : c0 = 47 := c_46
          refine lv_aload_n hx hb dX5_calculates_49 rfl (lv_at hl 0 rfl) ?_
          refine m_calli (As := []) (rest := []) X hml G hA (c_M_quotient l dC dI cI cJ h ad _ σ hd) (cwV 0 hts gX5_calculates_X5_quotient rfl rfl rfl (by decide +kernel) ⟨Nat.le_of_ble_eq_true rfl, Nat.le_of_ble_eq_true rfl⟩) rfl hl.1 rfl (Nat.le_of_ble_eq_true rfl) dX5_calculates_50 ⟨Nat.zero_le _, Nat.zero_le _⟩ (fun r_50 u_50 H locs hw_50 G => ?_)
          obtain ⟨f_50, m_50, n_50, rfl⟩ := quotient_st hw_50
          refine lv_goto (tgt := 87) hx hb dX5_calculates_53 (by decide) ?_
          refine lv_istore_n (lv' := [(2, .int r_50), (0, .ref h), (1, .int c0)]) hx hb dX5_calculates_87 rfl hl (by decide) rfl (fun ls hl => ?_)
          refine lv_iload_n hx hb dX5_calculates_88 rfl (lv_at hl 0 rfl) ?_
          refine lv_if_ne (tgt := 94) hx hb dX5_calculates_89 (by decide) (fun c_89 => ?_) (fun c_89 => ?_)
          · have c_89 : ¬ (r_50 = 0) := c_89
            have hn := quotient_ok hw_50 c_89
            refine lv_iload_n hx hb dX5_calculates_94 rfl (lv_at hl 2 rfl) ?_
            refine lv_bipush (v := 126) hx hb dX5_calculates_95 (by decide) ?_
            refine lv_icmp_ne (tgt := 131) hx hb dX5_calculates_97 (by decide) (fun c9 => ?_) (fun c9 => absurd c9 (show ¬ (c0 = 126) from by rw [c_46] <;> decide))
            refine lv_iload_n hx hb dX5_calculates_131 rfl (lv_at hl 2 rfl) ?_
            refine lv_bipush (v := 88) hx hb dX5_calculates_132 (by decide) ?_
            refine lv_icmp_ne (tgt := 158) hx hb dX5_calculates_134 (by decide) (fun c9 => ?_) (fun c9 => absurd c9 (show ¬ (c0 = 88) from by rw [c_46] <;> decide))
            refine lv_iload_n hx hb dX5_calculates_158 rfl (lv_at hl 2 rfl) ?_
            refine lv_bipush (v := 107) hx hb dX5_calculates_159 (by decide) ?_
            refine lv_icmp_ne (tgt := 248) hx hb dX5_calculates_161 (by decide) (fun c9 => ?_) (fun c9 => absurd c9 (show ¬ (c0 = 107) from by rw [c_46] <;> decide))
            refine lv_aload_n hx hb dX5_calculates_248 rfl (lv_at hl 1 rfl) ?_
            refine lv_iload_n hx hb dX5_calculates_249 rfl (lv_at hl 2 rfl) ?_
            refine lv_bipush (v := 118) hx hb dX5_calculates_250 (by decide) ?_
            refine lv_icmp_ne (tgt := 259) hx hb dX5_calculates_252 (by decide) (fun c9 => ?_) (fun c9 => absurd c9 (show ¬ (c0 = 118) from by rw [c_46] <;> decide))
            refine lv_iconst (v := 2) hx hb dX5_calculates_259 (by decide) ?_
            refine lv_aload_n hx hb dX5_calculates_260 rfl (lv_at hl 1 rfl) ?_
            refine m_get_19 X G (by decide +kernel) dX5_calculates_261 ?_
            refine lv_aload_n hx hb dX5_calculates_264 rfl (lv_at hl 1 rfl) ?_
            refine m_get_20 X G (by decide +kernel) dX5_calculates_265 ?_
            refine m_callv (As := [.int 2, .long m_50, .int n_50]) (rest := []) X hml G hA (c_M_put l dC dI cI cJ h ad _ (si (sm (si σ 16 f_50) m_50) 20 n_50) 2 m_50 n_50 (show 0 ≤ (σ.1 5).toInt - (2 : Int32).toInt from by omega) (show (σ.1 5).toInt - (2 : Int32).toInt < 82 from by omega)) (cwV 3 hts gX5_calculates_X5_put rfl rfl rfl (by decide +kernel) ⟨Nat.le_of_ble_eq_true rfl, Nat.le_of_ble_eq_true rfl⟩) rfl hl.1 rfl (Nat.le_of_ble_eq_true rfl) dX5_calculates_268 ⟨Nat.zero_le _, Nat.zero_le _⟩ (fun u_268 H locs hw_268 G => ?_)
            subst hw_268
            have G : mH dC dI h ad cI cJ (si (sa (sb (si (si (sm (si σ 16 f_50) m_50) 20 n_50) 5 ((σ.1 5) - 2)) 2 ((σ.1 5) - 2).toNatClampNeg m_50) 3 ((σ.1 5) - 2).toNatClampNeg n_50) 5 (((σ.1 5) - 2) + 1)) (mA h ad cI cJ σ sz) s.heap H locs := G
            refine lv_iconst (v := 1) hx hb dX5_calculates_271 (by decide) ?_
            exact m_zret X G hr hlocks rfl (by simp only [F_calculates, eq_false c_3, eq_false c_9, eq_false c_33, eq_true c_46, hw_50, eq_false c_89, ↓reduceIte, si_self, sm_self, si_snd, sm_fst, si20_16, not_false_eq_true, not_true_eq_false, eq_self, scp_2, scp_3, scp_4]) dX5_calculates_272
          · have c_89 : r_50 = 0 := c_89
            refine lv_iconst (v := 0) hx hb dX5_calculates_92 (by decide) ?_
            exact m_zret X G hr hlocks rfl (by simp only [F_calculates, eq_false c_3, eq_false c_9, eq_false c_33, eq_true c_46, hw_50, eq_true c_89, ↓reduceIte, si_self, sm_self, si_snd, sm_fst, si20_16, not_false_eq_true, not_true_eq_false, eq_self, scp_2, scp_3, scp_4]) dX5_calculates_93
      · have c_33 : c0 = 42 := c_33
        refine lv_aload_n hx hb dX5_calculates_36 rfl (lv_at hl 0 rfl) ?_
        refine m_calli (As := []) (rest := []) X hml G hA (c_M_times l dC dI cI cJ h ad _ σ hd) (cwV 0 hts gX5_calculates_X5_times rfl rfl rfl (by decide +kernel) ⟨Nat.le_of_ble_eq_true rfl, Nat.le_of_ble_eq_true rfl⟩) rfl hl.1 rfl (Nat.le_of_ble_eq_true rfl) dX5_calculates_37 ⟨Nat.zero_le _, Nat.zero_le _⟩ (fun r_37 u_37 H locs hw_37 G => ?_)
        obtain ⟨f_37, m_37, n_37, rfl⟩ := times_st hw_37
        refine lv_goto (tgt := 87) hx hb dX5_calculates_40 (by decide) ?_
        refine lv_istore_n (lv' := [(2, .int r_37), (0, .ref h), (1, .int c0)]) hx hb dX5_calculates_87 rfl hl (by decide) rfl (fun ls hl => ?_)
        refine lv_iload_n hx hb dX5_calculates_88 rfl (lv_at hl 0 rfl) ?_
        refine lv_if_ne (tgt := 94) hx hb dX5_calculates_89 (by decide) (fun c_89 => ?_) (fun c_89 => ?_)
        · have c_89 : ¬ (r_37 = 0) := c_89
          have hn := times_ok hw_37 c_89
          refine lv_iload_n hx hb dX5_calculates_94 rfl (lv_at hl 2 rfl) ?_
          refine lv_bipush (v := 126) hx hb dX5_calculates_95 (by decide) ?_
          refine lv_icmp_ne (tgt := 131) hx hb dX5_calculates_97 (by decide) (fun c9 => ?_) (fun c9 => absurd c9 (show ¬ (c0 = 126) from by rw [c_33] <;> decide))
          refine lv_iload_n hx hb dX5_calculates_131 rfl (lv_at hl 2 rfl) ?_
          refine lv_bipush (v := 88) hx hb dX5_calculates_132 (by decide) ?_
          refine lv_icmp_ne (tgt := 158) hx hb dX5_calculates_134 (by decide) (fun c9 => ?_) (fun c9 => absurd c9 (show ¬ (c0 = 88) from by rw [c_33] <;> decide))
          refine lv_iload_n hx hb dX5_calculates_158 rfl (lv_at hl 2 rfl) ?_
          refine lv_bipush (v := 107) hx hb dX5_calculates_159 (by decide) ?_
          refine lv_icmp_ne (tgt := 248) hx hb dX5_calculates_161 (by decide) (fun c9 => ?_) (fun c9 => absurd c9 (show ¬ (c0 = 107) from by rw [c_33] <;> decide))
          refine lv_aload_n hx hb dX5_calculates_248 rfl (lv_at hl 1 rfl) ?_
          refine lv_iload_n hx hb dX5_calculates_249 rfl (lv_at hl 2 rfl) ?_
          refine lv_bipush (v := 118) hx hb dX5_calculates_250 (by decide) ?_
          refine lv_icmp_ne (tgt := 259) hx hb dX5_calculates_252 (by decide) (fun c9 => ?_) (fun c9 => absurd c9 (show ¬ (c0 = 118) from by rw [c_33] <;> decide))
          refine lv_iconst (v := 2) hx hb dX5_calculates_259 (by decide) ?_
          refine lv_aload_n hx hb dX5_calculates_260 rfl (lv_at hl 1 rfl) ?_
          refine m_get_19 X G (by decide +kernel) dX5_calculates_261 ?_
          refine lv_aload_n hx hb dX5_calculates_264 rfl (lv_at hl 1 rfl) ?_
          refine m_get_20 X G (by decide +kernel) dX5_calculates_265 ?_
          refine m_callv (As := [.int 2, .long m_37, .int n_37]) (rest := []) X hml G hA (c_M_put l dC dI cI cJ h ad _ (si (sm (si σ 16 f_37) m_37) 20 n_37) 2 m_37 n_37 (show 0 ≤ (σ.1 5).toInt - (2 : Int32).toInt from by omega) (show (σ.1 5).toInt - (2 : Int32).toInt < 82 from by omega)) (cwV 3 hts gX5_calculates_X5_put rfl rfl rfl (by decide +kernel) ⟨Nat.le_of_ble_eq_true rfl, Nat.le_of_ble_eq_true rfl⟩) rfl hl.1 rfl (Nat.le_of_ble_eq_true rfl) dX5_calculates_268 ⟨Nat.zero_le _, Nat.zero_le _⟩ (fun u_268 H locs hw_268 G => ?_)
          subst hw_268
          have G : mH dC dI h ad cI cJ (si (sa (sb (si (si (sm (si σ 16 f_37) m_37) 20 n_37) 5 ((σ.1 5) - 2)) 2 ((σ.1 5) - 2).toNatClampNeg m_37) 3 ((σ.1 5) - 2).toNatClampNeg n_37) 5 (((σ.1 5) - 2) + 1)) (mA h ad cI cJ σ sz) s.heap H locs := G
          refine lv_iconst (v := 1) hx hb dX5_calculates_271 (by decide) ?_
          exact m_zret X G hr hlocks rfl (by simp only [F_calculates, eq_false c_3, eq_false c_9, eq_true c_33, hw_37, eq_false c_89, ↓reduceIte, si_self, sm_self, si_snd, sm_fst, si20_16, not_false_eq_true, not_true_eq_false, eq_self, scp_2, scp_3, scp_4]) dX5_calculates_272
        · have c_89 : r_37 = 0 := c_89
          refine lv_iconst (v := 0) hx hb dX5_calculates_92 (by decide) ?_
          exact m_zret X G hr hlocks rfl (by simp only [F_calculates, eq_false c_3, eq_false c_9, eq_true c_33, hw_37, eq_true c_89, ↓reduceIte, si_self, sm_self, si_snd, sm_fst, si20_16, not_false_eq_true, not_true_eq_false, eq_self, scp_2, scp_3, scp_4]) dX5_calculates_93
    · have c_9 : c0 = 45 := c_9
      refine lv_aload_n hx hb dX5_calculates_12 rfl (lv_at hl 0 rfl) ?_
      refine lv_iload_n hx hb dX5_calculates_13 rfl (lv_at hl 1 rfl) ?_
      refine lv_bipush (v := 45) hx hb dX5_calculates_14 (by decide) ?_
      refine lv_icmp_ne (tgt := 23) hx hb dX5_calculates_16 (by decide) (fun c9 => absurd (show c0 = 45 from by rw [c_9] <;> decide) c9) (fun c9 => ?_)
      refine lv_iconst (v := 1) hx hb dX5_calculates_19 (by decide) ?_
      refine lv_goto (tgt := 24) hx hb dX5_calculates_20 (by decide) ?_
      refine m_calli (As := [.int 1]) (rest := []) X hml G hA (c_M_sum l dC dI cI cJ h ad _ σ 1 hd) (cwV 1 hts gX5_calculates_X5_sum rfl rfl rfl (by decide +kernel) ⟨Nat.le_of_ble_eq_true rfl, Nat.le_of_ble_eq_true rfl⟩) rfl hl.1 rfl (Nat.le_of_ble_eq_true rfl) dX5_calculates_24 ⟨Nat.zero_le _, Nat.zero_le _⟩ (fun r_24 u_24 H locs hw_24 G => ?_)
      obtain ⟨f_24, m_24, n_24, rfl⟩ := sum_st hw_24
      refine lv_goto (tgt := 87) hx hb dX5_calculates_27 (by decide) ?_
      refine lv_istore_n (lv' := [(2, .int r_24), (0, .ref h), (1, .int c0)]) hx hb dX5_calculates_87 rfl hl (by decide) rfl (fun ls hl => ?_)
      refine lv_iload_n hx hb dX5_calculates_88 rfl (lv_at hl 0 rfl) ?_
      refine lv_if_ne (tgt := 94) hx hb dX5_calculates_89 (by decide) (fun c_89 => ?_) (fun c_89 => ?_)
      · have c_89 : ¬ (r_24 = 0) := c_89
        have hn := sum_ok hw_24 c_89
        refine lv_iload_n hx hb dX5_calculates_94 rfl (lv_at hl 2 rfl) ?_
        refine lv_bipush (v := 126) hx hb dX5_calculates_95 (by decide) ?_
        refine lv_icmp_ne (tgt := 131) hx hb dX5_calculates_97 (by decide) (fun c9 => ?_) (fun c9 => absurd c9 (show ¬ (c0 = 126) from by rw [c_9] <;> decide))
        refine lv_iload_n hx hb dX5_calculates_131 rfl (lv_at hl 2 rfl) ?_
        refine lv_bipush (v := 88) hx hb dX5_calculates_132 (by decide) ?_
        refine lv_icmp_ne (tgt := 158) hx hb dX5_calculates_134 (by decide) (fun c9 => ?_) (fun c9 => absurd c9 (show ¬ (c0 = 88) from by rw [c_9] <;> decide))
        refine lv_iload_n hx hb dX5_calculates_158 rfl (lv_at hl 2 rfl) ?_
        refine lv_bipush (v := 107) hx hb dX5_calculates_159 (by decide) ?_
        refine lv_icmp_ne (tgt := 248) hx hb dX5_calculates_161 (by decide) (fun c9 => ?_) (fun c9 => absurd c9 (show ¬ (c0 = 107) from by rw [c_9] <;> decide))
        refine lv_aload_n hx hb dX5_calculates_248 rfl (lv_at hl 1 rfl) ?_
        refine lv_iload_n hx hb dX5_calculates_249 rfl (lv_at hl 2 rfl) ?_
        refine lv_bipush (v := 118) hx hb dX5_calculates_250 (by decide) ?_
        refine lv_icmp_ne (tgt := 259) hx hb dX5_calculates_252 (by decide) (fun c9 => ?_) (fun c9 => absurd c9 (show ¬ (c0 = 118) from by rw [c_9] <;> decide))
        refine lv_iconst (v := 2) hx hb dX5_calculates_259 (by decide) ?_
        refine lv_aload_n hx hb dX5_calculates_260 rfl (lv_at hl 1 rfl) ?_
        refine m_get_19 X G (by decide +kernel) dX5_calculates_261 ?_
        refine lv_aload_n hx hb dX5_calculates_264 rfl (lv_at hl 1 rfl) ?_
        refine m_get_20 X G (by decide +kernel) dX5_calculates_265 ?_
        refine m_callv (As := [.int 2, .long m_24, .int n_24]) (rest := []) X hml G hA (c_M_put l dC dI cI cJ h ad _ (si (sm (si σ 16 f_24) m_24) 20 n_24) 2 m_24 n_24 (show 0 ≤ (σ.1 5).toInt - (2 : Int32).toInt from by omega) (show (σ.1 5).toInt - (2 : Int32).toInt < 82 from by omega)) (cwV 3 hts gX5_calculates_X5_put rfl rfl rfl (by decide +kernel) ⟨Nat.le_of_ble_eq_true rfl, Nat.le_of_ble_eq_true rfl⟩) rfl hl.1 rfl (Nat.le_of_ble_eq_true rfl) dX5_calculates_268 ⟨Nat.zero_le _, Nat.zero_le _⟩ (fun u_268 H locs hw_268 G => ?_)
        subst hw_268
        have G : mH dC dI h ad cI cJ (si (sa (sb (si (si (sm (si σ 16 f_24) m_24) 20 n_24) 5 ((σ.1 5) - 2)) 2 ((σ.1 5) - 2).toNatClampNeg m_24) 3 ((σ.1 5) - 2).toNatClampNeg n_24) 5 (((σ.1 5) - 2) + 1)) (mA h ad cI cJ σ sz) s.heap H locs := G
        refine lv_iconst (v := 1) hx hb dX5_calculates_271 (by decide) ?_
        exact m_zret X G hr hlocks rfl (by simp only [F_calculates, eq_false c_3, eq_true c_9, hw_24, eq_false c_89, ↓reduceIte, si_self, sm_self, si_snd, sm_fst, si20_16, not_false_eq_true, not_true_eq_false, eq_self, scp_2, scp_3, scp_4]) dX5_calculates_272
      · have c_89 : r_24 = 0 := c_89
        refine lv_iconst (v := 0) hx hb dX5_calculates_92 (by decide) ?_
        exact m_zret X G hr hlocks rfl (by simp only [F_calculates, eq_false c_3, eq_true c_9, hw_24, eq_true c_89, ↓reduceIte, si_self, sm_self, si_snd, sm_fst, si20_16, not_false_eq_true, not_true_eq_false, eq_self, scp_2, scp_3, scp_4]) dX5_calculates_93
