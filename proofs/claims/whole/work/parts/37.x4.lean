def Xdesk_putWrittenNumber_L43 : Nat → Int32 → Int64 → Int32 → Int32 → Int32 → Int32 → XS → (String × XS) ⊕ XS
  | 0, _, _, _, _, _, _, τ => .inr τ
  | f + 1, g0, b0, d0, p0, q0, i0, τ => if 160 ≤ i0 then (if d0 = 0 then (.inl ("java/lang/IllegalArgumentException", τ)) else if 18 < d0 then (.inl ("java/lang/IllegalArgumentException", τ)) else if p0 ≤ 9 then (if g0 = 0 then ((match Xsh_putNumber τ 6 b0 p0 with | .inl e9 => .inl e9 | .inr u186 => .inr u186)) else (match Xsh_putNumber τ 6 (-b0) p0 with | .inl e9 => .inl e9 | .inr u186 => .inr u186)) else .inl ("java/lang/IllegalArgumentException", τ)) else if (Xd_isDigit (Xnest_look τ)) = 0 then (if (Xnest_look τ) = 46 then (if q0 = 0 then (let q_132 := Xnest_pass τ; Xdesk_putWrittenNumber_L43 f g0 b0 d0 p0 1 (i0 + 1) q_132) else if d0 = 0 then (.inl ("java/lang/IllegalArgumentException", τ)) else if 18 < d0 then (.inl ("java/lang/IllegalArgumentException", τ)) else if p0 ≤ 9 then (if g0 = 0 then ((match Xsh_putNumber τ 6 b0 p0 with | .inl e9 => .inl e9 | .inr u186 => .inr u186)) else (match Xsh_putNumber τ 6 (-b0) p0 with | .inl e9 => .inl e9 | .inr u186 => .inr u186)) else .inl ("java/lang/IllegalArgumentException", τ)) else if d0 = 0 then (.inl ("java/lang/IllegalArgumentException", τ)) else if 18 < d0 then (.inl ("java/lang/IllegalArgumentException", τ)) else if p0 ≤ 9 then (if g0 = 0 then ((match Xsh_putNumber τ 6 b0 p0 with | .inl e9 => .inl e9 | .inr u186 => .inr u186)) else (match Xsh_putNumber τ 6 (-b0) p0 with | .inl e9 => .inl e9 | .inr u186 => .inr u186)) else .inl ("java/lang/IllegalArgumentException", τ)) else if q0 = 0 then (if (d0 + 1) ≤ 18 then (let q_132 := Xnest_pass τ; Xdesk_putWrittenNumber_L43 f g0 ((b0 * 10) + (((Xnest_look τ) - 48).toInt64)) (d0 + 1) (p0 + 0) q0 (i0 + 1) q_132) else let q_132 := Xnest_pass τ; Xdesk_putWrittenNumber_L43 f g0 b0 (d0 + 1) (p0 + 0) q0 (i0 + 1) q_132) else if (d0 + 1) ≤ 18 then (let q_132 := Xnest_pass τ; Xdesk_putWrittenNumber_L43 f g0 ((b0 * 10) + (((Xnest_look τ) - 48).toInt64)) (d0 + 1) (p0 + 1) q0 (i0 + 1) q_132) else let q_132 := Xnest_pass τ; Xdesk_putWrittenNumber_L43 f g0 b0 (d0 + 1) (p0 + 1) q0 (i0 + 1) q_132
def Xdesk_putWrittenNumber (σ : XS) : (String × XS) ⊕ XS := if (Xnest_look σ) = 95 then (let q_26 := Xnest_pass σ; Xdesk_putWrittenNumber_L43 (161) 1 0 0 0 0 0 q_26) else Xdesk_putWrittenNumber_L43 (161) 0 0 0 0 0 0 σ
set_option maxHeartbeats 4000000 in
set_option maxRecDepth 100000 in
theorem c_Xdesk_putWrittenNumber_L43 {p : Program} (l : Launch) (hl9 : l.stackTraces = false) {e : Env} {s : State} {m : MethodId} {below : List Frame} {meth : Method} {c : Code} {dC : Nat → ClassId} {dI : Nat → Nat → Nat} {kc : Nat → ClassId} {ad : Nat → Nat} {sz : Nat} (σ : XS) (hrv : xWF σ) (X : xX p s m ([.ref (ad 0)] : List Value).toArray c cX4_putWrittenNumber wsX4_putWrittenNumber dC dI kc RX4 (xA kc ad σ sz)) (hA : ∀ q : Nat, s.heap.size ≤ q → xA kc ad σ sz q) (hr : meth.sig.returnType = none) (hlocks : meth.locks = false) (hml : c.maxLocals = 9) (hEx : ∀ x ∈ c.exceptionTable.toList, False) :
    ∀ (fu : Nat) (g0 : Int32) (b0 : Int64) (d0 : Int32) (p0 : Int32) (q0 : Int32) (i0 : Int32) (τ : XS), Xdesk_putWrittenNumber σ = Xdesk_putWrittenNumber_L43 fu g0 b0 d0 p0 q0 i0 τ → (0 ≤ i0.toInt) → (i0.toInt ≤ 160) → (161 ≤ i0.toInt + (fu : Int)) → (xWF τ) → ∀ (H : Heap) (locs : List Loc), xH dC dI kc ad τ (xA kc ad σ sz) s.heap H locs → ∀ ls : Array Slot, lv_has ls 9 [(0, .ref (ad 0)), (1, .int g0), (2, .long b0), (4, .int d0), (5, .int p0), (6, .int q0), (7, .int i0)] → W p l e ({ frames := 8, cells := 1, slots := 6, locals := 130 } : Room) s m ([.ref (ad 0)] : List Value).toArray below meth c H locs 0 0 (xq_MQ below (va_Qv (fun u => Xdesk_putWrittenNumber σ = .inr u) (xAt dC dI kc ad (xA kc ad σ sz)) (xA kc ad σ sz)) (xE (Xdesk_putWrittenNumber σ) dC dI kc ad (xA kc ad σ sz)) ([.ref (ad 0)] : List Value).toArray s 0 0 1 6 (xA kc ad σ sz)) (F0 m 43 ls []) := by
  have hx := X.1
  have hb := X.2.1
  have hts := X.2.2.1
  have hown := X.2.2.2.1
  have hz := X.2.2.2.2.2
  have hin3 : ∀ w ∈ wsX30, w ∈ wsX4_putWrittenNumber := (fun w hw => List.mem_cons_of_mem _ (List.mem_append_left _ (List.mem_append_left _ (List.mem_append_right _ hw))))
  have hin2 : ∀ w ∈ wsX20, w ∈ wsX4_putWrittenNumber := (fun w hw => List.mem_cons_of_mem _ (List.mem_append_left _ (List.mem_append_left _ (List.mem_append_left _ (List.mem_append_right _ hw)))))
  have hin1 : ∀ w ∈ wsX10, w ∈ wsX4_putWrittenNumber := (fun w hw => List.mem_cons_of_mem _ (List.mem_append_left _ (List.mem_append_left _ (List.mem_append_left _ (List.mem_append_left _ (List.mem_append_right _ hw))))))
  have hin4 : ∀ w ∈ wsX40, w ∈ wsX4_putWrittenNumber := (fun w hw => List.mem_cons_of_mem _ (List.mem_append_left _ (List.mem_append_left _ (List.mem_append_left _ (List.mem_append_left _ (List.mem_append_left _ (List.mem_append_right _ hw)))))))
  intro fu
  induction fu with
  | zero =>
    intro g0 b0 d0 p0 q0 i0 τ hI hi0 hi1 hi2 hrv
    exact absurd hi2 (by omega)
  | succ fu ih =>
    intro g0 b0 d0 p0 q0 i0 τ hI hi0 hi1 hi2 hrv H locs G ls hl
    refine lv_iload hx hb dX4_putWrittenNumber_43 (lv_at hl 6 rfl) ?_
    refine lv_sipush (v := 160) hx hb dX4_putWrittenNumber_45 (by decide) ?_
    refine lv_icmp_ge (tgt := 141) hx hb dX4_putWrittenNumber_48 (by decide) (fun c_48 => ?_) (fun c_48 => ?_)
    · have c_48 : 160 ≤ i0 := c_48
      refine lv_iload hx hb dX4_putWrittenNumber_141 (lv_at hl 3 rfl) ?_
      refine lv_if_eq (tgt := 160) hx hb dX4_putWrittenNumber_143 (by decide) (fun c_143 => ?_) (fun c_143 => ?_)
      · have c_143 : d0 = 0 := c_143
        obtain ⟨sa, hstr⟩ := zstr hz (own := RX4) (k := 147) (text := "a number without a digit or with too many") (by decide +kernel)
        exact xq_thr (vx_throwS (own := RX4) (cls := "java/lang/IllegalArgumentException") (text := "a number without a digit or with too many") (names := ["java/lang/RuntimeException", "java/lang/Exception"]) hx hb hl9 hown (by decide +kernel) (by decide +kernel) (hts (.classLink RX4 56 "java/lang/IllegalArgumentException") (by decide +kernel)) (hts (.initialized "java/lang/IllegalArgumentException") (by decide +kernel)) hstr (zhat hz hts (by decide +kernel) (fun w hw => List.mem_cons_of_mem _ (List.mem_append_left _ (List.mem_append_right _ hw))) (by decide +kernel)) (by decide +kernel) hz.2.1 hz.2.2.1 G.2.2 (hl.1.trans hml.symm) dX4_putWrittenNumber_160 dX4_putWrittenNumber_163 dX4_putWrittenNumber_164 dX4_putWrittenNumber_166 dX4_putWrittenNumber_169 (fun x hx => (hEx x hx).elim) (Nat.le_of_ble_eq_true rfl) (Nat.le_of_ble_eq_true rfl) (Nat.le_of_ble_eq_true rfl) (Nat.le_of_ble_eq_true rfl) hlocks (fun t ha hsz hk => ⟨τ, trivial, ⟨(by rw [hI]; simp only [Xdesk_putWrittenNumber_L43, eq_true c_48, eq_true c_143, ↓reduceIte]), (y_kept X G ha hsz hk).1⟩, (y_kept X G ha hsz hk).2⟩) G.2.2.2.2 (Nat.le_of_ble_eq_true rfl) (Nat.le_of_ble_eq_true rfl))
      · have c_143 : ¬ (d0 = 0) := c_143
        refine lv_iload hx hb dX4_putWrittenNumber_146 (lv_at hl 3 rfl) ?_
        refine lv_bipush (v := 18) hx hb dX4_putWrittenNumber_148 (by decide) ?_
        refine lv_icmp_gt (tgt := 160) hx hb dX4_putWrittenNumber_150 (by decide) (fun c_150 => ?_) (fun c_150 => ?_)
        · have c_150 : 18 < d0 := c_150
          obtain ⟨sa, hstr⟩ := zstr hz (own := RX4) (k := 147) (text := "a number without a digit or with too many") (by decide +kernel)
          exact xq_thr (vx_throwS (own := RX4) (cls := "java/lang/IllegalArgumentException") (text := "a number without a digit or with too many") (names := ["java/lang/RuntimeException", "java/lang/Exception"]) hx hb hl9 hown (by decide +kernel) (by decide +kernel) (hts (.classLink RX4 56 "java/lang/IllegalArgumentException") (by decide +kernel)) (hts (.initialized "java/lang/IllegalArgumentException") (by decide +kernel)) hstr (zhat hz hts (by decide +kernel) (fun w hw => List.mem_cons_of_mem _ (List.mem_append_left _ (List.mem_append_right _ hw))) (by decide +kernel)) (by decide +kernel) hz.2.1 hz.2.2.1 G.2.2 (hl.1.trans hml.symm) dX4_putWrittenNumber_160 dX4_putWrittenNumber_163 dX4_putWrittenNumber_164 dX4_putWrittenNumber_166 dX4_putWrittenNumber_169 (fun x hx => (hEx x hx).elim) (Nat.le_of_ble_eq_true rfl) (Nat.le_of_ble_eq_true rfl) (Nat.le_of_ble_eq_true rfl) (Nat.le_of_ble_eq_true rfl) hlocks (fun t ha hsz hk => ⟨τ, trivial, ⟨(by rw [hI]; simp only [Xdesk_putWrittenNumber_L43, eq_true c_48, eq_false c_143, eq_true c_150, ↓reduceIte]), (y_kept X G ha hsz hk).1⟩, (y_kept X G ha hsz hk).2⟩) G.2.2.2.2 (Nat.le_of_ble_eq_true rfl) (Nat.le_of_ble_eq_true rfl))
        · have c_150 : ¬ (18 < d0) := c_150
          refine lv_iload hx hb dX4_putWrittenNumber_153 (lv_at hl 4 rfl) ?_
          refine lv_bipush (v := 9) hx hb dX4_putWrittenNumber_155 (by decide) ?_
          refine lv_icmp_le (tgt := 170) hx hb dX4_putWrittenNumber_157 (by decide) (fun c_157 => ?_) (fun c_157 => ?_)
          · have c_157 : p0 ≤ 9 := c_157
            refine lv_aload_n hx hb dX4_putWrittenNumber_170 rfl (lv_at hl 0 rfl) ?_
            refine x_dget_0 X G hin4 (by decide +kernel) dX4_putWrittenNumber_171 ?_
            refine lv_iload_n hx hb dX4_putWrittenNumber_174 rfl (lv_at hl 1 rfl) ?_
            refine lv_if_eq (tgt := 183) hx hb dX4_putWrittenNumber_175 (by decide) (fun c_175 => ?_) (fun c_175 => ?_)
            · have c_175 : g0 = 0 := c_175
              refine lv_lload_n hx hb dX4_putWrittenNumber_183 rfl (lv_at hl 2 rfl) ?_
              refine lv_iload hx hb dX4_putWrittenNumber_184 (lv_at hl 4 rfl) ?_
              refine y_callv (As := [.long b0, .int p0]) (rest := []) X hml G hA hEx hlocks (xW_sh (by decide)) rfl (c_Xsh_putNumber l hl9 dC dI kc ad _ τ 6 b0 p0 (by decide)) (cwV 2 hts gX4_putWrittenNumber_X3_putNumber rfl rfl rfl (by decide +kernel) ⟨Nat.le_of_ble_eq_true rfl, Nat.le_of_ble_eq_true rfl⟩) rfl hl.1 rfl (Nat.le_of_ble_eq_true rfl) dX4_putWrittenNumber_186 ⟨Nat.le_of_ble_eq_true rfl, Nat.le_of_ble_eq_true rfl⟩ (fun E u9 hw_186 => (by rw [hI]; simp only [Xdesk_putWrittenNumber_L43, eq_true c_48, eq_false c_143, eq_false c_150, eq_true c_157, eq_true c_175, hw_186, ↓reduceIte])) (fun u_186 H locs hw_186 G => ?_)
              have hv_186 : xWF u_186 := putNumber_wf hrv hw_186
              exact xq_ret (x_vret X G hr hlocks (by rw [hI]; simp only [Xdesk_putWrittenNumber_L43, eq_true c_48, eq_false c_143, eq_false c_150, eq_true c_157, eq_true c_175, hw_186, ↓reduceIte]) dX4_putWrittenNumber_189)
            · have c_175 : ¬ (g0 = 0) := c_175
              refine lv_lload_n hx hb dX4_putWrittenNumber_178 rfl (lv_at hl 2 rfl) ?_
              refine lv_lneg hx hb dX4_putWrittenNumber_179 ?_
              refine lv_goto (tgt := 184) hx hb dX4_putWrittenNumber_180 (by decide) ?_
              refine lv_iload hx hb dX4_putWrittenNumber_184 (lv_at hl 4 rfl) ?_
              refine y_callv (As := [.long (-b0), .int p0]) (rest := []) X hml G hA hEx hlocks (xW_sh (by decide)) rfl (c_Xsh_putNumber l hl9 dC dI kc ad _ τ 6 (-b0) p0 (by decide)) (cwV 2 hts gX4_putWrittenNumber_X3_putNumber rfl rfl rfl (by decide +kernel) ⟨Nat.le_of_ble_eq_true rfl, Nat.le_of_ble_eq_true rfl⟩) rfl hl.1 rfl (Nat.le_of_ble_eq_true rfl) dX4_putWrittenNumber_186 ⟨Nat.le_of_ble_eq_true rfl, Nat.le_of_ble_eq_true rfl⟩ (fun E u9 hw_186 => (by rw [hI]; simp only [Xdesk_putWrittenNumber_L43, eq_true c_48, eq_false c_143, eq_false c_150, eq_true c_157, eq_false c_175, hw_186, ↓reduceIte])) (fun u_186 H locs hw_186 G => ?_)
              have hv_186 : xWF u_186 := putNumber_wf hrv hw_186
              exact xq_ret (x_vret X G hr hlocks (by rw [hI]; simp only [Xdesk_putWrittenNumber_L43, eq_true c_48, eq_false c_143, eq_false c_150, eq_true c_157, eq_false c_175, hw_186, ↓reduceIte]) dX4_putWrittenNumber_189)
          · have c_157 : ¬ (p0 ≤ 9) := c_157
            obtain ⟨sa, hstr⟩ := zstr hz (own := RX4) (k := 147) (text := "a number without a digit or with too many") (by decide +kernel)
            exact xq_thr (vx_throwS (own := RX4) (cls := "java/lang/IllegalArgumentException") (text := "a number without a digit or with too many") (names := ["java/lang/RuntimeException", "java/lang/Exception"]) hx hb hl9 hown (by decide +kernel) (by decide +kernel) (hts (.classLink RX4 56 "java/lang/IllegalArgumentException") (by decide +kernel)) (hts (.initialized "java/lang/IllegalArgumentException") (by decide +kernel)) hstr (zhat hz hts (by decide +kernel) (fun w hw => List.mem_cons_of_mem _ (List.mem_append_left _ (List.mem_append_right _ hw))) (by decide +kernel)) (by decide +kernel) hz.2.1 hz.2.2.1 G.2.2 (hl.1.trans hml.symm) dX4_putWrittenNumber_160 dX4_putWrittenNumber_163 dX4_putWrittenNumber_164 dX4_putWrittenNumber_166 dX4_putWrittenNumber_169 (fun x hx => (hEx x hx).elim) (Nat.le_of_ble_eq_true rfl) (Nat.le_of_ble_eq_true rfl) (Nat.le_of_ble_eq_true rfl) (Nat.le_of_ble_eq_true rfl) hlocks (fun t ha hsz hk => ⟨τ, trivial, ⟨(by rw [hI]; simp only [Xdesk_putWrittenNumber_L43, eq_true c_48, eq_false c_143, eq_false c_150, eq_false c_157, ↓reduceIte]), (y_kept X G ha hsz hk).1⟩, (y_kept X G ha hsz hk).2⟩) G.2.2.2.2 (Nat.le_of_ble_eq_true rfl) (Nat.le_of_ble_eq_true rfl))
    · have c_48 : ¬ (160 ≤ i0) := c_48
      have k_48 : i0.toInt < 160 := by have h9 := c_48; rw [Int32.not_le, Int32.lt_iff_toInt_lt] at h9; exact h9
      have e_48 : (i0 + 1).toInt = i0.toInt + 1 := i_addE rfl (show (1 : Int32).toInt = 1 from rfl) (by omega) (by omega)
      refine lv_aload_n hx hb dX4_putWrittenNumber_51 rfl (lv_at hl 0 rfl) ?_
      refine x_dget_3 X G hin4 (by decide +kernel) dX4_putWrittenNumber_52 ?_
      refine x_calli (As := []) (rest := []) X hml G hA xW_nest rfl (c_Xnest_look l dC dI kc ad _ τ hrv) (cwV 0 hts gX4_putWrittenNumber_X1_look rfl rfl rfl (by decide +kernel) ⟨Nat.le_of_ble_eq_true rfl, Nat.le_of_ble_eq_true rfl⟩) rfl hl.1 rfl (Nat.le_of_ble_eq_true rfl) dX4_putWrittenNumber_55 ⟨Nat.zero_le _, Nat.zero_le _⟩ (fun r_55 u_55 H locs hw_55 G => ?_)
      obtain ⟨rfl, hu_55⟩ := hw_55
      rw [hu_55] at G
      refine lv_istore (lv' := [(8, .int (Xnest_look τ)), (0, .ref (ad 0)), (1, .int g0), (2, .long b0), (4, .int d0), (5, .int p0), (6, .int q0), (7, .int i0)]) hx hb dX4_putWrittenNumber_58 hl (by decide) rfl (fun ls hl => ?_)
      refine lv_iload hx hb dX4_putWrittenNumber_60 (lv_at hl 0 rfl) ?_
      refine W.callR (W.runS (As := [.int (Xnest_look τ)]) (rest := []) ⟨hx, hb, hml, hown, hts⟩ (c_Xd_isDigit l (Xnest_look τ)) (va_cwS 1 hts gX4_putWrittenNumber_X4_isDigit rfl rfl rfl (by decide +kernel) ⟨Nat.le_of_ble_eq_true rfl, Nat.le_of_ble_eq_true rfl⟩) ⟨fun a U g mk q => q, fun U _ _ => ⟨rfl, trivial⟩⟩ rfl rfl hl.1 rfl (lv_room (Nat.le_of_ble_eq_true rfl)) dX4_putWrittenNumber_62 ⟨Nat.zero_le _, Nat.zero_le _⟩) ?_
      refine W.eq (g2 := F0 m 65 ls [.int (Xd_isDigit (Xnest_look τ))]) rfl ?_
      refine lv_if_eq (tgt := 113) hx hb dX4_putWrittenNumber_65 (by decide) (fun c_65 => ?_) (fun c_65 => ?_)
      · have c_65 : (Xd_isDigit (Xnest_look τ)) = 0 := c_65
        refine lv_iload hx hb dX4_putWrittenNumber_113 (lv_at hl 0 rfl) ?_
        refine lv_bipush (v := 46) hx hb dX4_putWrittenNumber_115 (by decide) ?_
        refine lv_icmp_ne (tgt := 141) hx hb dX4_putWrittenNumber_117 (by decide) (fun c_117 => ?_) (fun c_117 => ?_)
        · have c_117 : ¬ ((Xnest_look τ) = 46) := c_117
          refine lv_iload hx hb dX4_putWrittenNumber_141 (lv_at hl 4 rfl) ?_
          refine lv_if_eq (tgt := 160) hx hb dX4_putWrittenNumber_143 (by decide) (fun c_143 => ?_) (fun c_143 => ?_)
          · have c_143 : d0 = 0 := c_143
            obtain ⟨sa, hstr⟩ := zstr hz (own := RX4) (k := 147) (text := "a number without a digit or with too many") (by decide +kernel)
            exact xq_thr (vx_throwS (own := RX4) (cls := "java/lang/IllegalArgumentException") (text := "a number without a digit or with too many") (names := ["java/lang/RuntimeException", "java/lang/Exception"]) hx hb hl9 hown (by decide +kernel) (by decide +kernel) (hts (.classLink RX4 56 "java/lang/IllegalArgumentException") (by decide +kernel)) (hts (.initialized "java/lang/IllegalArgumentException") (by decide +kernel)) hstr (zhat hz hts (by decide +kernel) (fun w hw => List.mem_cons_of_mem _ (List.mem_append_left _ (List.mem_append_right _ hw))) (by decide +kernel)) (by decide +kernel) hz.2.1 hz.2.2.1 G.2.2 (hl.1.trans hml.symm) dX4_putWrittenNumber_160 dX4_putWrittenNumber_163 dX4_putWrittenNumber_164 dX4_putWrittenNumber_166 dX4_putWrittenNumber_169 (fun x hx => (hEx x hx).elim) (Nat.le_of_ble_eq_true rfl) (Nat.le_of_ble_eq_true rfl) (Nat.le_of_ble_eq_true rfl) (Nat.le_of_ble_eq_true rfl) hlocks (fun t ha hsz hk => ⟨τ, trivial, ⟨(by rw [hI]; simp only [Xdesk_putWrittenNumber_L43, eq_false c_48, eq_true c_65, eq_false c_117, eq_true c_143, ↓reduceIte]), (y_kept X G ha hsz hk).1⟩, (y_kept X G ha hsz hk).2⟩) G.2.2.2.2 (Nat.le_of_ble_eq_true rfl) (Nat.le_of_ble_eq_true rfl))
          · have c_143 : ¬ (d0 = 0) := c_143
            refine lv_iload hx hb dX4_putWrittenNumber_146 (lv_at hl 4 rfl) ?_
            refine lv_bipush (v := 18) hx hb dX4_putWrittenNumber_148 (by decide) ?_
            refine lv_icmp_gt (tgt := 160) hx hb dX4_putWrittenNumber_150 (by decide) (fun c_150 => ?_) (fun c_150 => ?_)
            · have c_150 : 18 < d0 := c_150
              obtain ⟨sa, hstr⟩ := zstr hz (own := RX4) (k := 147) (text := "a number without a digit or with too many") (by decide +kernel)
              exact xq_thr (vx_throwS (own := RX4) (cls := "java/lang/IllegalArgumentException") (text := "a number without a digit or with too many") (names := ["java/lang/RuntimeException", "java/lang/Exception"]) hx hb hl9 hown (by decide +kernel) (by decide +kernel) (hts (.classLink RX4 56 "java/lang/IllegalArgumentException") (by decide +kernel)) (hts (.initialized "java/lang/IllegalArgumentException") (by decide +kernel)) hstr (zhat hz hts (by decide +kernel) (fun w hw => List.mem_cons_of_mem _ (List.mem_append_left _ (List.mem_append_right _ hw))) (by decide +kernel)) (by decide +kernel) hz.2.1 hz.2.2.1 G.2.2 (hl.1.trans hml.symm) dX4_putWrittenNumber_160 dX4_putWrittenNumber_163 dX4_putWrittenNumber_164 dX4_putWrittenNumber_166 dX4_putWrittenNumber_169 (fun x hx => (hEx x hx).elim) (Nat.le_of_ble_eq_true rfl) (Nat.le_of_ble_eq_true rfl) (Nat.le_of_ble_eq_true rfl) (Nat.le_of_ble_eq_true rfl) hlocks (fun t ha hsz hk => ⟨τ, trivial, ⟨(by rw [hI]; simp only [Xdesk_putWrittenNumber_L43, eq_false c_48, eq_true c_65, eq_false c_117, eq_false c_143, eq_true c_150, ↓reduceIte]), (y_kept X G ha hsz hk).1⟩, (y_kept X G ha hsz hk).2⟩) G.2.2.2.2 (Nat.le_of_ble_eq_true rfl) (Nat.le_of_ble_eq_true rfl))
            · have c_150 : ¬ (18 < d0) := c_150
              refine lv_iload hx hb dX4_putWrittenNumber_153 (lv_at hl 5 rfl) ?_
              refine lv_bipush (v := 9) hx hb dX4_putWrittenNumber_155 (by decide) ?_
              refine lv_icmp_le (tgt := 170) hx hb dX4_putWrittenNumber_157 (by decide) (fun c_157 => ?_) (fun c_157 => ?_)
              · have c_157 : p0 ≤ 9 := c_157
                refine lv_aload_n hx hb dX4_putWrittenNumber_170 rfl (lv_at hl 1 rfl) ?_
                refine x_dget_0 X G hin4 (by decide +kernel) dX4_putWrittenNumber_171 ?_
                refine lv_iload_n hx hb dX4_putWrittenNumber_174 rfl (lv_at hl 2 rfl) ?_
                refine lv_if_eq (tgt := 183) hx hb dX4_putWrittenNumber_175 (by decide) (fun c_175 => ?_) (fun c_175 => ?_)
                · have c_175 : g0 = 0 := c_175
                  refine lv_lload_n hx hb dX4_putWrittenNumber_183 rfl (lv_at hl 3 rfl) ?_
                  refine lv_iload hx hb dX4_putWrittenNumber_184 (lv_at hl 5 rfl) ?_
                  refine y_callv (As := [.long b0, .int p0]) (rest := []) X hml G hA hEx hlocks (xW_sh (by decide)) rfl (c_Xsh_putNumber l hl9 dC dI kc ad _ τ 6 b0 p0 (by decide)) (cwV 2 hts gX4_putWrittenNumber_X3_putNumber rfl rfl rfl (by decide +kernel) ⟨Nat.le_of_ble_eq_true rfl, Nat.le_of_ble_eq_true rfl⟩) rfl hl.1 rfl (Nat.le_of_ble_eq_true rfl) dX4_putWrittenNumber_186 ⟨Nat.le_of_ble_eq_true rfl, Nat.le_of_ble_eq_true rfl⟩ (fun E u9 hw_186 => (by rw [hI]; simp only [Xdesk_putWrittenNumber_L43, eq_false c_48, eq_true c_65, eq_false c_117, eq_false c_143, eq_false c_150, eq_true c_157, eq_true c_175, hw_186, ↓reduceIte])) (fun u_186 H locs hw_186 G => ?_)
                  have hv_186 : xWF u_186 := putNumber_wf hrv hw_186
                  exact xq_ret (x_vret X G hr hlocks (by rw [hI]; simp only [Xdesk_putWrittenNumber_L43, eq_false c_48, eq_true c_65, eq_false c_117, eq_false c_143, eq_false c_150, eq_true c_157, eq_true c_175, hw_186, ↓reduceIte]) dX4_putWrittenNumber_189)
                · have c_175 : ¬ (g0 = 0) := c_175
                  refine lv_lload_n hx hb dX4_putWrittenNumber_178 rfl (lv_at hl 3 rfl) ?_
                  refine lv_lneg hx hb dX4_putWrittenNumber_179 ?_
                  refine lv_goto (tgt := 184) hx hb dX4_putWrittenNumber_180 (by decide) ?_
                  refine lv_iload hx hb dX4_putWrittenNumber_184 (lv_at hl 5 rfl) ?_
                  refine y_callv (As := [.long (-b0), .int p0]) (rest := []) X hml G hA hEx hlocks (xW_sh (by decide)) rfl (c_Xsh_putNumber l hl9 dC dI kc ad _ τ 6 (-b0) p0 (by decide)) (cwV 2 hts gX4_putWrittenNumber_X3_putNumber rfl rfl rfl (by decide +kernel) ⟨Nat.le_of_ble_eq_true rfl, Nat.le_of_ble_eq_true rfl⟩) rfl hl.1 rfl (Nat.le_of_ble_eq_true rfl) dX4_putWrittenNumber_186 ⟨Nat.le_of_ble_eq_true rfl, Nat.le_of_ble_eq_true rfl⟩ (fun E u9 hw_186 => (by rw [hI]; simp only [Xdesk_putWrittenNumber_L43, eq_false c_48, eq_true c_65, eq_false c_117, eq_false c_143, eq_false c_150, eq_true c_157, eq_false c_175, hw_186, ↓reduceIte])) (fun u_186 H locs hw_186 G => ?_)
                  have hv_186 : xWF u_186 := putNumber_wf hrv hw_186
                  exact xq_ret (x_vret X G hr hlocks (by rw [hI]; simp only [Xdesk_putWrittenNumber_L43, eq_false c_48, eq_true c_65, eq_false c_117, eq_false c_143, eq_false c_150, eq_true c_157, eq_false c_175, hw_186, ↓reduceIte]) dX4_putWrittenNumber_189)
              · have c_157 : ¬ (p0 ≤ 9) := c_157
                obtain ⟨sa, hstr⟩ := zstr hz (own := RX4) (k := 147) (text := "a number without a digit or with too many") (by decide +kernel)
                exact xq_thr (vx_throwS (own := RX4) (cls := "java/lang/IllegalArgumentException") (text := "a number without a digit or with too many") (names := ["java/lang/RuntimeException", "java/lang/Exception"]) hx hb hl9 hown (by decide +kernel) (by decide +kernel) (hts (.classLink RX4 56 "java/lang/IllegalArgumentException") (by decide +kernel)) (hts (.initialized "java/lang/IllegalArgumentException") (by decide +kernel)) hstr (zhat hz hts (by decide +kernel) (fun w hw => List.mem_cons_of_mem _ (List.mem_append_left _ (List.mem_append_right _ hw))) (by decide +kernel)) (by decide +kernel) hz.2.1 hz.2.2.1 G.2.2 (hl.1.trans hml.symm) dX4_putWrittenNumber_160 dX4_putWrittenNumber_163 dX4_putWrittenNumber_164 dX4_putWrittenNumber_166 dX4_putWrittenNumber_169 (fun x hx => (hEx x hx).elim) (Nat.le_of_ble_eq_true rfl) (Nat.le_of_ble_eq_true rfl) (Nat.le_of_ble_eq_true rfl) (Nat.le_of_ble_eq_true rfl) hlocks (fun t ha hsz hk => ⟨τ, trivial, ⟨(by rw [hI]; simp only [Xdesk_putWrittenNumber_L43, eq_false c_48, eq_true c_65, eq_false c_117, eq_false c_143, eq_false c_150, eq_false c_157, ↓reduceIte]), (y_kept X G ha hsz hk).1⟩, (y_kept X G ha hsz hk).2⟩) G.2.2.2.2 (Nat.le_of_ble_eq_true rfl) (Nat.le_of_ble_eq_true rfl))
        · have c_117 : (Xnest_look τ) = 46 := c_117
          refine lv_iload hx hb dX4_putWrittenNumber_120 (lv_at hl 6 rfl) ?_
          refine lv_if_ne (tgt := 141) hx hb dX4_putWrittenNumber_122 (by decide) (fun c_122 => ?_) (fun c_122 => ?_)
          · have c_122 : ¬ (q0 = 0) := c_122
            refine lv_iload hx hb dX4_putWrittenNumber_141 (lv_at hl 4 rfl) ?_
            refine lv_if_eq (tgt := 160) hx hb dX4_putWrittenNumber_143 (by decide) (fun c_143 => ?_) (fun c_143 => ?_)
            · have c_143 : d0 = 0 := c_143
              obtain ⟨sa, hstr⟩ := zstr hz (own := RX4) (k := 147) (text := "a number without a digit or with too many") (by decide +kernel)
              exact xq_thr (vx_throwS (own := RX4) (cls := "java/lang/IllegalArgumentException") (text := "a number without a digit or with too many") (names := ["java/lang/RuntimeException", "java/lang/Exception"]) hx hb hl9 hown (by decide +kernel) (by decide +kernel) (hts (.classLink RX4 56 "java/lang/IllegalArgumentException") (by decide +kernel)) (hts (.initialized "java/lang/IllegalArgumentException") (by decide +kernel)) hstr (zhat hz hts (by decide +kernel) (fun w hw => List.mem_cons_of_mem _ (List.mem_append_left _ (List.mem_append_right _ hw))) (by decide +kernel)) (by decide +kernel) hz.2.1 hz.2.2.1 G.2.2 (hl.1.trans hml.symm) dX4_putWrittenNumber_160 dX4_putWrittenNumber_163 dX4_putWrittenNumber_164 dX4_putWrittenNumber_166 dX4_putWrittenNumber_169 (fun x hx => (hEx x hx).elim) (Nat.le_of_ble_eq_true rfl) (Nat.le_of_ble_eq_true rfl) (Nat.le_of_ble_eq_true rfl) (Nat.le_of_ble_eq_true rfl) hlocks (fun t ha hsz hk => ⟨τ, trivial, ⟨(by rw [hI]; simp only [Xdesk_putWrittenNumber_L43, eq_false c_48, eq_true c_65, eq_true c_117, eq_false c_122, eq_true c_143, ↓reduceIte]), (y_kept X G ha hsz hk).1⟩, (y_kept X G ha hsz hk).2⟩) G.2.2.2.2 (Nat.le_of_ble_eq_true rfl) (Nat.le_of_ble_eq_true rfl))
            · have c_143 : ¬ (d0 = 0) := c_143
              refine lv_iload hx hb dX4_putWrittenNumber_146 (lv_at hl 4 rfl) ?_
              refine lv_bipush (v := 18) hx hb dX4_putWrittenNumber_148 (by decide) ?_
              refine lv_icmp_gt (tgt := 160) hx hb dX4_putWrittenNumber_150 (by decide) (fun c_150 => ?_) (fun c_150 => ?_)
              · have c_150 : 18 < d0 := c_150
                obtain ⟨sa, hstr⟩ := zstr hz (own := RX4) (k := 147) (text := "a number without a digit or with too many") (by decide +kernel)
                exact xq_thr (vx_throwS (own := RX4) (cls := "java/lang/IllegalArgumentException") (text := "a number without a digit or with too many") (names := ["java/lang/RuntimeException", "java/lang/Exception"]) hx hb hl9 hown (by decide +kernel) (by decide +kernel) (hts (.classLink RX4 56 "java/lang/IllegalArgumentException") (by decide +kernel)) (hts (.initialized "java/lang/IllegalArgumentException") (by decide +kernel)) hstr (zhat hz hts (by decide +kernel) (fun w hw => List.mem_cons_of_mem _ (List.mem_append_left _ (List.mem_append_right _ hw))) (by decide +kernel)) (by decide +kernel) hz.2.1 hz.2.2.1 G.2.2 (hl.1.trans hml.symm) dX4_putWrittenNumber_160 dX4_putWrittenNumber_163 dX4_putWrittenNumber_164 dX4_putWrittenNumber_166 dX4_putWrittenNumber_169 (fun x hx => (hEx x hx).elim) (Nat.le_of_ble_eq_true rfl) (Nat.le_of_ble_eq_true rfl) (Nat.le_of_ble_eq_true rfl) (Nat.le_of_ble_eq_true rfl) hlocks (fun t ha hsz hk => ⟨τ, trivial, ⟨(by rw [hI]; simp only [Xdesk_putWrittenNumber_L43, eq_false c_48, eq_true c_65, eq_true c_117, eq_false c_122, eq_false c_143, eq_true c_150, ↓reduceIte]), (y_kept X G ha hsz hk).1⟩, (y_kept X G ha hsz hk).2⟩) G.2.2.2.2 (Nat.le_of_ble_eq_true rfl) (Nat.le_of_ble_eq_true rfl))
              · have c_150 : ¬ (18 < d0) := c_150
                refine lv_iload hx hb dX4_putWrittenNumber_153 (lv_at hl 5 rfl) ?_
                refine lv_bipush (v := 9) hx hb dX4_putWrittenNumber_155 (by decide) ?_
                refine lv_icmp_le (tgt := 170) hx hb dX4_putWrittenNumber_157 (by decide) (fun c_157 => ?_) (fun c_157 => ?_)
                · have c_157 : p0 ≤ 9 := c_157
                  refine lv_aload_n hx hb dX4_putWrittenNumber_170 rfl (lv_at hl 1 rfl) ?_
                  refine x_dget_0 X G hin4 (by decide +kernel) dX4_putWrittenNumber_171 ?_
                  refine lv_iload_n hx hb dX4_putWrittenNumber_174 rfl (lv_at hl 2 rfl) ?_
                  refine lv_if_eq (tgt := 183) hx hb dX4_putWrittenNumber_175 (by decide) (fun c_175 => ?_) (fun c_175 => ?_)
                  · have c_175 : g0 = 0 := c_175
                    refine lv_lload_n hx hb dX4_putWrittenNumber_183 rfl (lv_at hl 3 rfl) ?_
                    refine lv_iload hx hb dX4_putWrittenNumber_184 (lv_at hl 5 rfl) ?_
                    refine y_callv (As := [.long b0, .int p0]) (rest := []) X hml G hA hEx hlocks (xW_sh (by decide)) rfl (c_Xsh_putNumber l hl9 dC dI kc ad _ τ 6 b0 p0 (by decide)) (cwV 2 hts gX4_putWrittenNumber_X3_putNumber rfl rfl rfl (by decide +kernel) ⟨Nat.le_of_ble_eq_true rfl, Nat.le_of_ble_eq_true rfl⟩) rfl hl.1 rfl (Nat.le_of_ble_eq_true rfl) dX4_putWrittenNumber_186 ⟨Nat.le_of_ble_eq_true rfl, Nat.le_of_ble_eq_true rfl⟩ (fun E u9 hw_186 => (by rw [hI]; simp only [Xdesk_putWrittenNumber_L43, eq_false c_48, eq_true c_65, eq_true c_117, eq_false c_122, eq_false c_143, eq_false c_150, eq_true c_157, eq_true c_175, hw_186, ↓reduceIte])) (fun u_186 H locs hw_186 G => ?_)
                    have hv_186 : xWF u_186 := putNumber_wf hrv hw_186
                    exact xq_ret (x_vret X G hr hlocks (by rw [hI]; simp only [Xdesk_putWrittenNumber_L43, eq_false c_48, eq_true c_65, eq_true c_117, eq_false c_122, eq_false c_143, eq_false c_150, eq_true c_157, eq_true c_175, hw_186, ↓reduceIte]) dX4_putWrittenNumber_189)
                  · have c_175 : ¬ (g0 = 0) := c_175
                    refine lv_lload_n hx hb dX4_putWrittenNumber_178 rfl (lv_at hl 3 rfl) ?_
                    refine lv_lneg hx hb dX4_putWrittenNumber_179 ?_
                    refine lv_goto (tgt := 184) hx hb dX4_putWrittenNumber_180 (by decide) ?_
                    refine lv_iload hx hb dX4_putWrittenNumber_184 (lv_at hl 5 rfl) ?_
                    refine y_callv (As := [.long (-b0), .int p0]) (rest := []) X hml G hA hEx hlocks (xW_sh (by decide)) rfl (c_Xsh_putNumber l hl9 dC dI kc ad _ τ 6 (-b0) p0 (by decide)) (cwV 2 hts gX4_putWrittenNumber_X3_putNumber rfl rfl rfl (by decide +kernel) ⟨Nat.le_of_ble_eq_true rfl, Nat.le_of_ble_eq_true rfl⟩) rfl hl.1 rfl (Nat.le_of_ble_eq_true rfl) dX4_putWrittenNumber_186 ⟨Nat.le_of_ble_eq_true rfl, Nat.le_of_ble_eq_true rfl⟩ (fun E u9 hw_186 => (by rw [hI]; simp only [Xdesk_putWrittenNumber_L43, eq_false c_48, eq_true c_65, eq_true c_117, eq_false c_122, eq_false c_143, eq_false c_150, eq_true c_157, eq_false c_175, hw_186, ↓reduceIte])) (fun u_186 H locs hw_186 G => ?_)
                    have hv_186 : xWF u_186 := putNumber_wf hrv hw_186
                    exact xq_ret (x_vret X G hr hlocks (by rw [hI]; simp only [Xdesk_putWrittenNumber_L43, eq_false c_48, eq_true c_65, eq_true c_117, eq_false c_122, eq_false c_143, eq_false c_150, eq_true c_157, eq_false c_175, hw_186, ↓reduceIte]) dX4_putWrittenNumber_189)
                · have c_157 : ¬ (p0 ≤ 9) := c_157
                  obtain ⟨sa, hstr⟩ := zstr hz (own := RX4) (k := 147) (text := "a number without a digit or with too many") (by decide +kernel)
                  exact xq_thr (vx_throwS (own := RX4) (cls := "java/lang/IllegalArgumentException") (text := "a number without a digit or with too many") (names := ["java/lang/RuntimeException", "java/lang/Exception"]) hx hb hl9 hown (by decide +kernel) (by decide +kernel) (hts (.classLink RX4 56 "java/lang/IllegalArgumentException") (by decide +kernel)) (hts (.initialized "java/lang/IllegalArgumentException") (by decide +kernel)) hstr (zhat hz hts (by decide +kernel) (fun w hw => List.mem_cons_of_mem _ (List.mem_append_left _ (List.mem_append_right _ hw))) (by decide +kernel)) (by decide +kernel) hz.2.1 hz.2.2.1 G.2.2 (hl.1.trans hml.symm) dX4_putWrittenNumber_160 dX4_putWrittenNumber_163 dX4_putWrittenNumber_164 dX4_putWrittenNumber_166 dX4_putWrittenNumber_169 (fun x hx => (hEx x hx).elim) (Nat.le_of_ble_eq_true rfl) (Nat.le_of_ble_eq_true rfl) (Nat.le_of_ble_eq_true rfl) (Nat.le_of_ble_eq_true rfl) hlocks (fun t ha hsz hk => ⟨τ, trivial, ⟨(by rw [hI]; simp only [Xdesk_putWrittenNumber_L43, eq_false c_48, eq_true c_65, eq_true c_117, eq_false c_122, eq_false c_143, eq_false c_150, eq_false c_157, ↓reduceIte]), (y_kept X G ha hsz hk).1⟩, (y_kept X G ha hsz hk).2⟩) G.2.2.2.2 (Nat.le_of_ble_eq_true rfl) (Nat.le_of_ble_eq_true rfl))
          · have c_122 : q0 = 0 := c_122
            refine lv_iconst (v := 1) hx hb dX4_putWrittenNumber_125 (by decide) ?_
            refine lv_istore (lv' := [(6, .int 1), (8, .int (Xnest_look τ)), (0, .ref (ad 0)), (1, .int g0), (2, .long b0), (4, .int d0), (5, .int p0), (7, .int i0)]) hx hb dX4_putWrittenNumber_126 hl (by decide) rfl (fun ls hl => ?_)
            refine lv_aload_n hx hb dX4_putWrittenNumber_128 rfl (lv_at hl 2 rfl) ?_
            refine x_dget_3 X G hin4 (by decide +kernel) dX4_putWrittenNumber_129 ?_
            refine x_callv (As := []) (rest := []) X hml G hA xW_nest rfl (c_Xnest_pass l dC dI kc ad _ τ) (cwV 0 hts gX4_putWrittenNumber_X1_pass rfl rfl rfl (by decide +kernel) ⟨Nat.le_of_ble_eq_true rfl, Nat.le_of_ble_eq_true rfl⟩) rfl hl.1 rfl (Nat.le_of_ble_eq_true rfl) dX4_putWrittenNumber_132 ⟨Nat.zero_le _, Nat.zero_le _⟩ (fun u_132 H locs hw_132 G => ?_)
            have hv_132 : xWF u_132 := by have h9 : xWF (Xnest_pass τ) := pass_wf hrv; rw [hw_132] at h9; exact h9
            refine lv_iinc (v := (i0 + 1)) (lv' := [(7, .int (i0 + 1)), (6, .int 1), (8, .int (Xnest_look τ)), (0, .ref (ad 0)), (1, .int g0), (2, .long b0), (4, .int d0), (5, .int p0)]) hx hb dX4_putWrittenNumber_135 hl (k := 7) rfl rfl (by decide) rfl (fun ls hl => ?_)
            refine lv_goto (tgt := 43) hx hb dX4_putWrittenNumber_138 (by decide) ?_
            exact ih g0 b0 d0 p0 1 (i0 + 1) u_132 (by rw [hI]; simp only [Xdesk_putWrittenNumber_L43, eq_false c_48, eq_true c_65, eq_true c_117, eq_true c_122, hw_132, ↓reduceIte]) (by omega) (by omega) (by omega) hv_132 H locs G ls (lv_sub hl [3, 4, 5, 6, 7, 1, 0] rfl)
      · have c_65 : ¬ ((Xd_isDigit (Xnest_look τ)) = 0) := c_65
        refine lv_iinc (v := (d0 + 1)) (lv' := [(4, .int (d0 + 1)), (8, .int (Xnest_look τ)), (0, .ref (ad 0)), (1, .int g0), (2, .long b0), (5, .int p0), (6, .int q0), (7, .int i0)]) hx hb dX4_putWrittenNumber_68 hl (k := 4) rfl rfl (by decide) rfl (fun ls hl => ?_)
        refine lv_iload hx hb dX4_putWrittenNumber_71 (lv_at hl 5 rfl) ?_
        refine lv_iload hx hb dX4_putWrittenNumber_73 (lv_at hl 6 rfl) ?_
        refine lv_if_eq (tgt := 82) hx hb dX4_putWrittenNumber_75 (by decide) (fun c_75 => ?_) (fun c_75 => ?_)
        · have c_75 : q0 = 0 := c_75
          refine lv_iconst (v := 0) hx hb dX4_putWrittenNumber_82 (by decide) ?_
          refine lv_iadd hx hb dX4_putWrittenNumber_83 ?_
          refine lv_istore (lv' := [(5, .int (p0 + 0)), (4, .int (d0 + 1)), (8, .int (Xnest_look τ)), (0, .ref (ad 0)), (1, .int g0), (2, .long b0), (6, .int q0), (7, .int i0)]) hx hb dX4_putWrittenNumber_84 hl (by decide) rfl (fun ls hl => ?_)
          refine lv_iload hx hb dX4_putWrittenNumber_86 (lv_at hl 1 rfl) ?_
          refine lv_bipush (v := 18) hx hb dX4_putWrittenNumber_88 (by decide) ?_
          refine lv_icmp_le (tgt := 97) hx hb dX4_putWrittenNumber_90 (by decide) (fun c_90 => ?_) (fun c_90 => ?_)
          · have c_90 : (d0 + 1) ≤ 18 := c_90
            refine lv_lload_n hx hb dX4_putWrittenNumber_97 rfl (lv_at hl 5 rfl) ?_
            refine lv_ldc2 (v := 10) hx hb hown (hts (.constantLong RX4 145 (10)) (by decide +kernel)) dX4_putWrittenNumber_98 ?_
            refine lv_lmul hx hb dX4_putWrittenNumber_101 ?_
            refine lv_iload hx hb dX4_putWrittenNumber_102 (lv_at hl 2 rfl) ?_
            refine lv_bipush (v := 48) hx hb dX4_putWrittenNumber_104 (by decide) ?_
            refine lv_isub hx hb dX4_putWrittenNumber_106 ?_
            refine lv_i2l hx hb dX4_putWrittenNumber_107 rfl ?_
            refine lv_ladd hx hb dX4_putWrittenNumber_108 ?_
            refine lv_lstore_n (lv' := [(2, .long ((b0 * 10) + (((Xnest_look τ) - 48).toInt64))), (5, .int (p0 + 0)), (4, .int (d0 + 1)), (8, .int (Xnest_look τ)), (0, .ref (ad 0)), (1, .int g0), (6, .int q0), (7, .int i0)]) hx hb dX4_putWrittenNumber_109 rfl hl (by decide) rfl (fun ls hl => ?_)
            refine lv_goto (tgt := 128) hx hb dX4_putWrittenNumber_110 (by decide) ?_
            refine lv_aload_n hx hb dX4_putWrittenNumber_128 rfl (lv_at hl 4 rfl) ?_
            refine x_dget_3 X G hin4 (by decide +kernel) dX4_putWrittenNumber_129 ?_
            refine x_callv (As := []) (rest := []) X hml G hA xW_nest rfl (c_Xnest_pass l dC dI kc ad _ τ) (cwV 0 hts gX4_putWrittenNumber_X1_pass rfl rfl rfl (by decide +kernel) ⟨Nat.le_of_ble_eq_true rfl, Nat.le_of_ble_eq_true rfl⟩) rfl hl.1 rfl (Nat.le_of_ble_eq_true rfl) dX4_putWrittenNumber_132 ⟨Nat.zero_le _, Nat.zero_le _⟩ (fun u_132 H locs hw_132 G => ?_)
            have hv_132 : xWF u_132 := by have h9 : xWF (Xnest_pass τ) := pass_wf hrv; rw [hw_132] at h9; exact h9
            refine lv_iinc (v := (i0 + 1)) (lv' := [(7, .int (i0 + 1)), (2, .long ((b0 * 10) + (((Xnest_look τ) - 48).toInt64))), (5, .int (p0 + 0)), (4, .int (d0 + 1)), (8, .int (Xnest_look τ)), (0, .ref (ad 0)), (1, .int g0), (6, .int q0)]) hx hb dX4_putWrittenNumber_135 hl (k := 7) rfl rfl (by decide) rfl (fun ls hl => ?_)
            refine lv_goto (tgt := 43) hx hb dX4_putWrittenNumber_138 (by decide) ?_
            exact ih g0 ((b0 * 10) + (((Xnest_look τ) - 48).toInt64)) (d0 + 1) (p0 + 0) q0 (i0 + 1) u_132 (by rw [hI]; simp only [Xdesk_putWrittenNumber_L43, eq_false c_48, eq_false c_65, eq_true c_75, eq_true c_90, hw_132, ↓reduceIte]) (by omega) (by omega) (by omega) hv_132 H locs G ls (lv_sub hl [5, 6, 1, 3, 2, 7, 0] rfl)
          · have c_90 : ¬ ((d0 + 1) ≤ 18) := c_90
            refine lv_lload_n hx hb dX4_putWrittenNumber_93 rfl (lv_at hl 5 rfl) ?_
            refine lv_goto (tgt := 109) hx hb dX4_putWrittenNumber_94 (by decide) ?_
            refine lv_lstore_n (lv' := [(2, .long b0), (5, .int (p0 + 0)), (4, .int (d0 + 1)), (8, .int (Xnest_look τ)), (0, .ref (ad 0)), (1, .int g0), (6, .int q0), (7, .int i0)]) hx hb dX4_putWrittenNumber_109 rfl hl (by decide) rfl (fun ls hl => ?_)
            refine lv_goto (tgt := 128) hx hb dX4_putWrittenNumber_110 (by decide) ?_
            refine lv_aload_n hx hb dX4_putWrittenNumber_128 rfl (lv_at hl 4 rfl) ?_
            refine x_dget_3 X G hin4 (by decide +kernel) dX4_putWrittenNumber_129 ?_
            refine x_callv (As := []) (rest := []) X hml G hA xW_nest rfl (c_Xnest_pass l dC dI kc ad _ τ) (cwV 0 hts gX4_putWrittenNumber_X1_pass rfl rfl rfl (by decide +kernel) ⟨Nat.le_of_ble_eq_true rfl, Nat.le_of_ble_eq_true rfl⟩) rfl hl.1 rfl (Nat.le_of_ble_eq_true rfl) dX4_putWrittenNumber_132 ⟨Nat.zero_le _, Nat.zero_le _⟩ (fun u_132 H locs hw_132 G => ?_)
            have hv_132 : xWF u_132 := by have h9 : xWF (Xnest_pass τ) := pass_wf hrv; rw [hw_132] at h9; exact h9
            refine lv_iinc (v := (i0 + 1)) (lv' := [(7, .int (i0 + 1)), (2, .long b0), (5, .int (p0 + 0)), (4, .int (d0 + 1)), (8, .int (Xnest_look τ)), (0, .ref (ad 0)), (1, .int g0), (6, .int q0)]) hx hb dX4_putWrittenNumber_135 hl (k := 7) rfl rfl (by decide) rfl (fun ls hl => ?_)
            refine lv_goto (tgt := 43) hx hb dX4_putWrittenNumber_138 (by decide) ?_
            exact ih g0 b0 (d0 + 1) (p0 + 0) q0 (i0 + 1) u_132 (by rw [hI]; simp only [Xdesk_putWrittenNumber_L43, eq_false c_48, eq_false c_65, eq_true c_75, eq_false c_90, hw_132, ↓reduceIte]) (by omega) (by omega) (by omega) hv_132 H locs G ls (lv_sub hl [5, 6, 1, 3, 2, 7, 0] rfl)
        · have c_75 : ¬ (q0 = 0) := c_75
          refine lv_iconst (v := 1) hx hb dX4_putWrittenNumber_78 (by decide) ?_
          refine lv_goto (tgt := 83) hx hb dX4_putWrittenNumber_79 (by decide) ?_
          refine lv_iadd hx hb dX4_putWrittenNumber_83 ?_
          refine lv_istore (lv' := [(5, .int (p0 + 1)), (4, .int (d0 + 1)), (8, .int (Xnest_look τ)), (0, .ref (ad 0)), (1, .int g0), (2, .long b0), (6, .int q0), (7, .int i0)]) hx hb dX4_putWrittenNumber_84 hl (by decide) rfl (fun ls hl => ?_)
          refine lv_iload hx hb dX4_putWrittenNumber_86 (lv_at hl 1 rfl) ?_
          refine lv_bipush (v := 18) hx hb dX4_putWrittenNumber_88 (by decide) ?_
          refine lv_icmp_le (tgt := 97) hx hb dX4_putWrittenNumber_90 (by decide) (fun c_90 => ?_) (fun c_90 => ?_)
          · have c_90 : (d0 + 1) ≤ 18 := c_90
            refine lv_lload_n hx hb dX4_putWrittenNumber_97 rfl (lv_at hl 5 rfl) ?_
            refine lv_ldc2 (v := 10) hx hb hown (hts (.constantLong RX4 145 (10)) (by decide +kernel)) dX4_putWrittenNumber_98 ?_
            refine lv_lmul hx hb dX4_putWrittenNumber_101 ?_
            refine lv_iload hx hb dX4_putWrittenNumber_102 (lv_at hl 2 rfl) ?_
            refine lv_bipush (v := 48) hx hb dX4_putWrittenNumber_104 (by decide) ?_
            refine lv_isub hx hb dX4_putWrittenNumber_106 ?_
            refine lv_i2l hx hb dX4_putWrittenNumber_107 rfl ?_
            refine lv_ladd hx hb dX4_putWrittenNumber_108 ?_
            refine lv_lstore_n (lv' := [(2, .long ((b0 * 10) + (((Xnest_look τ) - 48).toInt64))), (5, .int (p0 + 1)), (4, .int (d0 + 1)), (8, .int (Xnest_look τ)), (0, .ref (ad 0)), (1, .int g0), (6, .int q0), (7, .int i0)]) hx hb dX4_putWrittenNumber_109 rfl hl (by decide) rfl (fun ls hl => ?_)
            refine lv_goto (tgt := 128) hx hb dX4_putWrittenNumber_110 (by decide) ?_
            refine lv_aload_n hx hb dX4_putWrittenNumber_128 rfl (lv_at hl 4 rfl) ?_
            refine x_dget_3 X G hin4 (by decide +kernel) dX4_putWrittenNumber_129 ?_
            refine x_callv (As := []) (rest := []) X hml G hA xW_nest rfl (c_Xnest_pass l dC dI kc ad _ τ) (cwV 0 hts gX4_putWrittenNumber_X1_pass rfl rfl rfl (by decide +kernel) ⟨Nat.le_of_ble_eq_true rfl, Nat.le_of_ble_eq_true rfl⟩) rfl hl.1 rfl (Nat.le_of_ble_eq_true rfl) dX4_putWrittenNumber_132 ⟨Nat.zero_le _, Nat.zero_le _⟩ (fun u_132 H locs hw_132 G => ?_)
            have hv_132 : xWF u_132 := by have h9 : xWF (Xnest_pass τ) := pass_wf hrv; rw [hw_132] at h9; exact h9
            refine lv_iinc (v := (i0 + 1)) (lv' := [(7, .int (i0 + 1)), (2, .long ((b0 * 10) + (((Xnest_look τ) - 48).toInt64))), (5, .int (p0 + 1)), (4, .int (d0 + 1)), (8, .int (Xnest_look τ)), (0, .ref (ad 0)), (1, .int g0), (6, .int q0)]) hx hb dX4_putWrittenNumber_135 hl (k := 7) rfl rfl (by decide) rfl (fun ls hl => ?_)
            refine lv_goto (tgt := 43) hx hb dX4_putWrittenNumber_138 (by decide) ?_
            exact ih g0 ((b0 * 10) + (((Xnest_look τ) - 48).toInt64)) (d0 + 1) (p0 + 1) q0 (i0 + 1) u_132 (by rw [hI]; simp only [Xdesk_putWrittenNumber_L43, eq_false c_48, eq_false c_65, eq_false c_75, eq_true c_90, hw_132, ↓reduceIte]) (by omega) (by omega) (by omega) hv_132 H locs G ls (lv_sub hl [5, 6, 1, 3, 2, 7, 0] rfl)
          · have c_90 : ¬ ((d0 + 1) ≤ 18) := c_90
            refine lv_lload_n hx hb dX4_putWrittenNumber_93 rfl (lv_at hl 5 rfl) ?_
            refine lv_goto (tgt := 109) hx hb dX4_putWrittenNumber_94 (by decide) ?_
            refine lv_lstore_n (lv' := [(2, .long b0), (5, .int (p0 + 1)), (4, .int (d0 + 1)), (8, .int (Xnest_look τ)), (0, .ref (ad 0)), (1, .int g0), (6, .int q0), (7, .int i0)]) hx hb dX4_putWrittenNumber_109 rfl hl (by decide) rfl (fun ls hl => ?_)
            refine lv_goto (tgt := 128) hx hb dX4_putWrittenNumber_110 (by decide) ?_
            refine lv_aload_n hx hb dX4_putWrittenNumber_128 rfl (lv_at hl 4 rfl) ?_
            refine x_dget_3 X G hin4 (by decide +kernel) dX4_putWrittenNumber_129 ?_
            refine x_callv (As := []) (rest := []) X hml G hA xW_nest rfl (c_Xnest_pass l dC dI kc ad _ τ) (cwV 0 hts gX4_putWrittenNumber_X1_pass rfl rfl rfl (by decide +kernel) ⟨Nat.le_of_ble_eq_true rfl, Nat.le_of_ble_eq_true rfl⟩) rfl hl.1 rfl (Nat.le_of_ble_eq_true rfl) dX4_putWrittenNumber_132 ⟨Nat.zero_le _, Nat.zero_le _⟩ (fun u_132 H locs hw_132 G => ?_)
            have hv_132 : xWF u_132 := by have h9 : xWF (Xnest_pass τ) := pass_wf hrv; rw [hw_132] at h9; exact h9
            refine lv_iinc (v := (i0 + 1)) (lv' := [(7, .int (i0 + 1)), (2, .long b0), (5, .int (p0 + 1)), (4, .int (d0 + 1)), (8, .int (Xnest_look τ)), (0, .ref (ad 0)), (1, .int g0), (6, .int q0)]) hx hb dX4_putWrittenNumber_135 hl (k := 7) rfl rfl (by decide) rfl (fun ls hl => ?_)
            refine lv_goto (tgt := 43) hx hb dX4_putWrittenNumber_138 (by decide) ?_
            exact ih g0 b0 (d0 + 1) (p0 + 1) q0 (i0 + 1) u_132 (by rw [hI]; simp only [Xdesk_putWrittenNumber_L43, eq_false c_48, eq_false c_65, eq_false c_75, eq_false c_90, hw_132, ↓reduceIte]) (by omega) (by omega) (by omega) hv_132 H locs G ls (lv_sub hl [5, 6, 1, 3, 2, 7, 0] rfl)
set_option maxHeartbeats 4000000 in
set_option maxRecDepth 100000 in
theorem c_Xdesk_putWrittenNumber (l : Launch) (hl9 : l.stackTraces = false) (dC : Nat → ClassId) (dI : Nat → Nat → Nat) (kc : Nat → ClassId) (ad : Nat → Nat) (sz : Nat) (σ : XS) (hrv : xWF σ) : xq_Met l yX4_putWrittenNumber wsX4_putWrittenNumber ({ frames := 8, cells := 1, slots := 6, locals := 130 } : Room) (va_Pc [.ref (ad 0)] (xPre dC dI kc ad sz σ)) (va_Qv (fun u => Xdesk_putWrittenNumber σ = .inr u) (xAt dC dI kc ad (xA kc ad σ sz)) (xA kc ad σ sz)) (xE (Xdesk_putWrittenNumber σ) dC dI kc ad (xA kc ad σ sz)) 0 0 1 6 (xA kc ad σ sz) := by
  refine y_ofW (cc := cX4_putWrittenNumber) (maxL := 9) (ret := none) (by decide) rfl rfl (Nat.le_of_ble_eq_true rfl) ?_
  intro p e s m below meth c X G hA hr hlocks hml hEx ls hl
  have hl : lv_has ls 9 [(0, .ref (ad 0))] := hl
  have hx := X.1
  have hb := X.2.1
  have hts := X.2.2.1
  have hown := X.2.2.2.1
  have hz := X.2.2.2.2.2
  have hin3 : ∀ w ∈ wsX30, w ∈ wsX4_putWrittenNumber := (fun w hw => List.mem_cons_of_mem _ (List.mem_append_left _ (List.mem_append_left _ (List.mem_append_right _ hw))))
  have hin2 : ∀ w ∈ wsX20, w ∈ wsX4_putWrittenNumber := (fun w hw => List.mem_cons_of_mem _ (List.mem_append_left _ (List.mem_append_left _ (List.mem_append_left _ (List.mem_append_right _ hw)))))
  have hin1 : ∀ w ∈ wsX10, w ∈ wsX4_putWrittenNumber := (fun w hw => List.mem_cons_of_mem _ (List.mem_append_left _ (List.mem_append_left _ (List.mem_append_left _ (List.mem_append_left _ (List.mem_append_right _ hw))))))
  have hin4 : ∀ w ∈ wsX40, w ∈ wsX4_putWrittenNumber := (fun w hw => List.mem_cons_of_mem _ (List.mem_append_left _ (List.mem_append_left _ (List.mem_append_left _ (List.mem_append_left _ (List.mem_append_left _ (List.mem_append_right _ hw)))))))
  refine lv_aload_n hx hb dX4_putWrittenNumber_0 rfl (lv_at hl 0 rfl) ?_
  refine x_dget_3 X G hin4 (by decide +kernel) dX4_putWrittenNumber_1 ?_
  refine x_calli (As := []) (rest := []) X hml G hA xW_nest rfl (c_Xnest_look l dC dI kc ad _ σ hrv) (cwV 0 hts gX4_putWrittenNumber_X1_look rfl rfl rfl (by decide +kernel) ⟨Nat.le_of_ble_eq_true rfl, Nat.le_of_ble_eq_true rfl⟩) rfl hl.1 rfl (Nat.le_of_ble_eq_true rfl) dX4_putWrittenNumber_4 ⟨Nat.zero_le _, Nat.zero_le _⟩ (fun r_4 u_4 H locs hw_4 G => ?_)
  obtain ⟨rfl, hu_4⟩ := hw_4
  rw [hu_4] at G
  refine lv_bipush (v := 95) hx hb dX4_putWrittenNumber_7 (by decide) ?_
  refine lv_icmp_ne (tgt := 16) hx hb dX4_putWrittenNumber_9 (by decide) (fun c_9 => ?_) (fun c_9 => ?_)
  · have c_9 : ¬ ((Xnest_look σ) = 95) := c_9
    refine lv_iconst (v := 0) hx hb dX4_putWrittenNumber_16 (by decide) ?_
    refine lv_istore_n (lv' := [(1, .int 0), (0, .ref (ad 0))]) hx hb dX4_putWrittenNumber_17 rfl hl (by decide) rfl (fun ls hl => ?_)
    refine lv_iload_n hx hb dX4_putWrittenNumber_18 rfl (lv_at hl 0 rfl) ?_
    refine lv_if_eq (tgt := 29) hx hb dX4_putWrittenNumber_19 (by decide) (fun c9 => ?_) (fun c9 => absurd (show (0 : Int32) = 0 from by decide) c9)
    refine lv_lconst (v := 0) hx hb dX4_putWrittenNumber_29 (by decide) ?_
    refine lv_lstore_n (lv' := [(2, .long 0), (1, .int 0), (0, .ref (ad 0))]) hx hb dX4_putWrittenNumber_30 rfl hl (by decide) rfl (fun ls hl => ?_)
    refine lv_iconst (v := 0) hx hb dX4_putWrittenNumber_31 (by decide) ?_
    refine lv_istore (lv' := [(4, .int 0), (2, .long 0), (1, .int 0), (0, .ref (ad 0))]) hx hb dX4_putWrittenNumber_32 hl (by decide) rfl (fun ls hl => ?_)
    refine lv_iconst (v := 0) hx hb dX4_putWrittenNumber_34 (by decide) ?_
    refine lv_istore (lv' := [(5, .int 0), (4, .int 0), (2, .long 0), (1, .int 0), (0, .ref (ad 0))]) hx hb dX4_putWrittenNumber_35 hl (by decide) rfl (fun ls hl => ?_)
    refine lv_iconst (v := 0) hx hb dX4_putWrittenNumber_37 (by decide) ?_
    refine lv_istore (lv' := [(6, .int 0), (5, .int 0), (4, .int 0), (2, .long 0), (1, .int 0), (0, .ref (ad 0))]) hx hb dX4_putWrittenNumber_38 hl (by decide) rfl (fun ls hl => ?_)
    refine lv_iconst (v := 0) hx hb dX4_putWrittenNumber_40 (by decide) ?_
    refine lv_istore (lv' := [(7, .int 0), (6, .int 0), (5, .int 0), (4, .int 0), (2, .long 0), (1, .int 0), (0, .ref (ad 0))]) hx hb dX4_putWrittenNumber_41 hl (by decide) rfl (fun ls hl => ?_)
    exact c_Xdesk_putWrittenNumber_L43 l hl9 σ hrv X hA hr hlocks hml hEx 161 0 0 0 0 0 0 σ (by unfold Xdesk_putWrittenNumber; first | simp only [eq_false c_9, ↓reduceIte] | rfl) (by decide) (by decide) (by decide) hrv _ _ G ls (lv_sub hl [6, 5, 4, 3, 2, 1, 0] rfl)
  · have c_9 : (Xnest_look σ) = 95 := c_9
    refine lv_iconst (v := 1) hx hb dX4_putWrittenNumber_12 (by decide) ?_
    refine lv_goto (tgt := 17) hx hb dX4_putWrittenNumber_13 (by decide) ?_
    refine lv_istore_n (lv' := [(1, .int 1), (0, .ref (ad 0))]) hx hb dX4_putWrittenNumber_17 rfl hl (by decide) rfl (fun ls hl => ?_)
    refine lv_iload_n hx hb dX4_putWrittenNumber_18 rfl (lv_at hl 0 rfl) ?_
    refine lv_if_eq (tgt := 29) hx hb dX4_putWrittenNumber_19 (by decide) (fun c9 => absurd c9 (show ¬ ((1 : Int32) = 0) from by decide)) (fun c9 => ?_)
    refine lv_aload_n hx hb dX4_putWrittenNumber_22 rfl (lv_at hl 1 rfl) ?_
    refine x_dget_3 X G hin4 (by decide +kernel) dX4_putWrittenNumber_23 ?_
    refine x_callv (As := []) (rest := []) X hml G hA xW_nest rfl (c_Xnest_pass l dC dI kc ad _ σ) (cwV 0 hts gX4_putWrittenNumber_X1_pass rfl rfl rfl (by decide +kernel) ⟨Nat.le_of_ble_eq_true rfl, Nat.le_of_ble_eq_true rfl⟩) rfl hl.1 rfl (Nat.le_of_ble_eq_true rfl) dX4_putWrittenNumber_26 ⟨Nat.zero_le _, Nat.zero_le _⟩ (fun u_26 H locs hw_26 G => ?_)
    have hv_26 : xWF u_26 := by have h9 : xWF (Xnest_pass σ) := pass_wf hrv; rw [hw_26] at h9; exact h9
    refine lv_lconst (v := 0) hx hb dX4_putWrittenNumber_29 (by decide) ?_
    refine lv_lstore_n (lv' := [(2, .long 0), (1, .int 1), (0, .ref (ad 0))]) hx hb dX4_putWrittenNumber_30 rfl hl (by decide) rfl (fun ls hl => ?_)
    refine lv_iconst (v := 0) hx hb dX4_putWrittenNumber_31 (by decide) ?_
    refine lv_istore (lv' := [(4, .int 0), (2, .long 0), (1, .int 1), (0, .ref (ad 0))]) hx hb dX4_putWrittenNumber_32 hl (by decide) rfl (fun ls hl => ?_)
    refine lv_iconst (v := 0) hx hb dX4_putWrittenNumber_34 (by decide) ?_
    refine lv_istore (lv' := [(5, .int 0), (4, .int 0), (2, .long 0), (1, .int 1), (0, .ref (ad 0))]) hx hb dX4_putWrittenNumber_35 hl (by decide) rfl (fun ls hl => ?_)
    refine lv_iconst (v := 0) hx hb dX4_putWrittenNumber_37 (by decide) ?_
    refine lv_istore (lv' := [(6, .int 0), (5, .int 0), (4, .int 0), (2, .long 0), (1, .int 1), (0, .ref (ad 0))]) hx hb dX4_putWrittenNumber_38 hl (by decide) rfl (fun ls hl => ?_)
    refine lv_iconst (v := 0) hx hb dX4_putWrittenNumber_40 (by decide) ?_
    refine lv_istore (lv' := [(7, .int 0), (6, .int 0), (5, .int 0), (4, .int 0), (2, .long 0), (1, .int 1), (0, .ref (ad 0))]) hx hb dX4_putWrittenNumber_41 hl (by decide) rfl (fun ls hl => ?_)
    exact c_Xdesk_putWrittenNumber_L43 l hl9 σ hrv X hA hr hlocks hml hEx 161 1 0 0 0 0 0 u_26 (by unfold Xdesk_putWrittenNumber; first | simp only [eq_true c_9, hw_26, ↓reduceIte] | rfl) (by decide) (by decide) (by decide) hv_26 _ _ G ls (lv_sub hl [6, 5, 4, 3, 2, 1, 0] rfl)
theorem pass_n {σ : XS} : (Xnest_pass σ).2.2.2.2 = σ.2.2.2.2 := by unfold Xnest_pass; split <;> rfl
def Xdesk_putWrittenText_L21 : Nat → Option Nat → Int32 → Int32 → Int32 → XS → (String × XS) ⊕ XS
  | 0, _, _, _, _, τ => .inr τ
  | f + 1, r0, s0, o0, i0, τ => if 160 ≤ i0 then (if 0 < o0 then (.inl ("java/lang/IllegalArgumentException", τ)) else (match r0 with | none => .inl ("java/lang/IllegalArgumentException", τ) | some n91 => (match Xsh_putText τ 6 ((some n91)) s0 (((Xnest_position τ) - 1) - s0) with | .inl e9 => .inl e9 | .inr u121 => .inr u121))) else if o0 ≤ 0 then ((match r0 with | none => .inl ("java/lang/IllegalArgumentException", τ) | some n91 => (match Xsh_putText τ 6 ((some n91)) s0 (((Xnest_position τ) - 1) - s0) with | .inl e9 => .inl e9 | .inr u121 => .inr u121))) else if (Xnest_look τ) = 0 then (.inl ("java/lang/IllegalArgumentException", τ)) else if (Xnest_look τ) = 91 then (let q_77 := Xnest_pass τ; Xdesk_putWrittenText_L21 f r0 s0 (o0 + 1) (i0 + 1) q_77) else if (Xnest_look τ) = 93 then (let q_77 := Xnest_pass τ; Xdesk_putWrittenText_L21 f r0 s0 (o0 + (-1)) (i0 + 1) q_77) else let q_77 := Xnest_pass τ; Xdesk_putWrittenText_L21 f r0 s0 o0 (i0 + 1) q_77
def Xdesk_putWrittenText (σ : XS) : (String × XS) ⊕ XS := Xdesk_putWrittenText_L21 (161) ((Xnest_innermostRow σ)) (Xnest_position σ) 1 0 σ
set_option maxHeartbeats 4000000 in
set_option maxRecDepth 100000 in
theorem c_Xdesk_putWrittenText_L21 {p : Program} (l : Launch) (hl9 : l.stackTraces = false) {e : Env} {s : State} {m : MethodId} {below : List Frame} {meth : Method} {c : Code} {dC : Nat → ClassId} {dI : Nat → Nat → Nat} {kc : Nat → ClassId} {ad : Nat → Nat} {sz : Nat} (σ : XS) (hrv : xWF σ) (X : xX p s m ([.ref (ad 0)] : List Value).toArray c cX4_putWrittenText wsX4_putWrittenText dC dI kc RX4 (xA kc ad σ sz)) (hA : ∀ q : Nat, s.heap.size ≤ q → xA kc ad σ sz q) (hr : meth.sig.returnType = none) (hlocks : meth.locks = false) (hml : c.maxLocals = 6) (hEx : ∀ x ∈ c.exceptionTable.toList, False) :
    ∀ (fu : Nat) (r0 : Option Nat) (s0 : Int32) (o0 : Int32) (i0 : Int32) (τ : XS), Xdesk_putWrittenText σ = Xdesk_putWrittenText_L21 fu r0 s0 o0 i0 τ → (0 ≤ i0.toInt) → (i0.toInt ≤ 160) → (161 ≤ i0.toInt + (fu : Int)) → (xWF τ) → (∀ n, r0 = some n → xv τ n) → ∀ (H : Heap) (locs : List Loc), xH dC dI kc ad τ (xA kc ad σ sz) s.heap H locs → ∀ ls : Array Slot, lv_has ls 6 [(0, .ref (ad 0)), (1, va_rf (r0.map ad)), (2, .int s0), (3, .int o0), (4, .int i0)] → W p l e ({ frames := 8, cells := 1, slots := 6, locals := 130 } : Room) s m ([.ref (ad 0)] : List Value).toArray below meth c H locs 0 0 (xq_MQ below (va_Qv (fun u => Xdesk_putWrittenText σ = .inr u) (xAt dC dI kc ad (xA kc ad σ sz)) (xA kc ad σ sz)) (xE (Xdesk_putWrittenText σ) dC dI kc ad (xA kc ad σ sz)) ([.ref (ad 0)] : List Value).toArray s 0 0 1 6 (xA kc ad σ sz)) (F0 m 21 ls []) := by
  have hx := X.1
  have hb := X.2.1
  have hts := X.2.2.1
  have hown := X.2.2.2.1
  have hz := X.2.2.2.2.2
  have hin3 : ∀ w ∈ wsX30, w ∈ wsX4_putWrittenText := (fun w hw => List.mem_cons_of_mem _ (List.mem_append_left _ (List.mem_append_left _ (List.mem_append_right _ hw))))
  have hin2 : ∀ w ∈ wsX20, w ∈ wsX4_putWrittenText := (fun w hw => List.mem_cons_of_mem _ (List.mem_append_left _ (List.mem_append_left _ (List.mem_append_left _ (List.mem_append_right _ hw)))))
  have hin1 : ∀ w ∈ wsX10, w ∈ wsX4_putWrittenText := (fun w hw => List.mem_cons_of_mem _ (List.mem_append_left _ (List.mem_append_left _ (List.mem_append_left _ (List.mem_append_left _ (List.mem_append_right _ hw))))))
  have hin4 : ∀ w ∈ wsX40, w ∈ wsX4_putWrittenText := (fun w hw => List.mem_cons_of_mem _ (List.mem_append_left _ (List.mem_append_left _ (List.mem_append_left _ (List.mem_append_left _ (List.mem_append_left _ (List.mem_append_right _ hw)))))))
  intro fu
  induction fu with
  | zero =>
    intro r0 s0 o0 i0 τ hI hi0 hi1 hi2 hrt hrw
    exact absurd hi2 (by omega)
  | succ fu ih =>
    intro r0 s0 o0 i0 τ hI hi0 hi1 hi2 hrt hrw H locs G ls hl
    refine lv_iload hx hb dX4_putWrittenText_21 (lv_at hl 4 rfl) ?_
    refine lv_sipush (v := 160) hx hb dX4_putWrittenText_23 (by decide) ?_
    refine lv_icmp_ge (tgt := 86) hx hb dX4_putWrittenText_26 (by decide) (fun c_26 => ?_) (fun c_26 => ?_)
    · have c_26 : 160 ≤ i0 := c_26
      refine lv_iload_n hx hb dX4_putWrittenText_86 rfl (lv_at hl 3 rfl) ?_
      refine lv_if_gt (tgt := 94) hx hb dX4_putWrittenText_87 (by decide) (fun c_87 => ?_) (fun c_87 => ?_)
      · have c_87 : 0 < o0 := c_87
        obtain ⟨sa, hstr⟩ := zstr hz (own := RX4) (k := 160) (text := "a text in brackets does not end") (by decide +kernel)
        exact xq_thr (vx_throwS (own := RX4) (cls := "java/lang/IllegalArgumentException") (text := "a text in brackets does not end") (names := ["java/lang/RuntimeException", "java/lang/Exception"]) hx hb hl9 hown (by decide +kernel) (by decide +kernel) (hts (.classLink RX4 56 "java/lang/IllegalArgumentException") (by decide +kernel)) (hts (.initialized "java/lang/IllegalArgumentException") (by decide +kernel)) hstr (zhat hz hts (by decide +kernel) (fun w hw => List.mem_cons_of_mem _ (List.mem_append_left _ (List.mem_append_right _ hw))) (by decide +kernel)) (by decide +kernel) hz.2.1 hz.2.2.1 G.2.2 (hl.1.trans hml.symm) dX4_putWrittenText_94 dX4_putWrittenText_97 dX4_putWrittenText_98 dX4_putWrittenText_100 dX4_putWrittenText_103 (fun x hx => (hEx x hx).elim) (Nat.le_of_ble_eq_true rfl) (Nat.le_of_ble_eq_true rfl) (Nat.le_of_ble_eq_true rfl) (Nat.le_of_ble_eq_true rfl) hlocks (fun t ha hsz hk => ⟨τ, trivial, ⟨(by rw [hI]; simp only [Xdesk_putWrittenText_L21, eq_true c_26, eq_true c_87, ↓reduceIte]), (y_kept X G ha hsz hk).1⟩, (y_kept X G ha hsz hk).2⟩) G.2.2.2.2 (Nat.le_of_ble_eq_true rfl) (Nat.le_of_ble_eq_true rfl))
      · have c_87 : ¬ (0 < o0) := c_87
        refine x_aload_nq hx hb dX4_putWrittenText_90 rfl (lv_at hl 1 rfl) ?_
        refine x_ifnonnull (o := r0) (tgt := 104) hx hb dX4_putWrittenText_91 (by decide) (fun n_91x n_91 => ?_) (fun n_91 => ?_)
        · have n_91 := n_91
          have hl : lv_has ls 6 [(0, .ref (ad 0)), (1, .ref (ad n_91x)), (2, .int s0), (3, .int o0), (4, .int i0)] := by rw [n_91] at hl; exact hl
          refine lv_aload_n hx hb dX4_putWrittenText_104 rfl (lv_at hl 0 rfl) ?_
          refine x_dget_0 X G hin4 (by decide +kernel) dX4_putWrittenText_105 ?_
          refine lv_aload_n hx hb dX4_putWrittenText_108 rfl (lv_at hl 1 rfl) ?_
          refine lv_iload_n hx hb dX4_putWrittenText_109 rfl (lv_at hl 2 rfl) ?_
          refine lv_aload_n hx hb dX4_putWrittenText_110 rfl (lv_at hl 0 rfl) ?_
          refine x_dget_3 X G hin4 (by decide +kernel) dX4_putWrittenText_111 ?_
          refine x_calli (As := []) (rest := [.int s0, .ref (ad n_91x), .ref (ad 6)]) X hml G hA xW_nest rfl (c_Xnest_position l dC dI kc ad _ τ) (cwV 0 hts gX4_putWrittenText_X1_position rfl rfl rfl (by decide +kernel) ⟨Nat.le_of_ble_eq_true rfl, Nat.le_of_ble_eq_true rfl⟩) rfl hl.1 rfl (Nat.le_of_ble_eq_true rfl) dX4_putWrittenText_114 ⟨Nat.zero_le _, Nat.zero_le _⟩ (fun r_114 u_114 H locs hw_114 G => ?_)
          obtain ⟨rfl, hu_114⟩ := hw_114
          rw [hu_114] at G
          refine lv_iconst (v := 1) hx hb dX4_putWrittenText_117 (by decide) ?_
          refine lv_isub hx hb dX4_putWrittenText_118 ?_
          refine lv_iload_n hx hb dX4_putWrittenText_119 rfl (lv_at hl 2 rfl) ?_
          refine lv_isub hx hb dX4_putWrittenText_120 ?_
          refine y_callv (As := [va_rf (((some n_91x)).map ad), .int s0, .int (((Xnest_position τ) - 1) - s0)]) (rest := []) X hml G hA hEx hlocks (xW_sh (by decide)) rfl (c_Xsh_putText l hl9 dC dI kc ad _ τ 6 ((some n_91x)) s0 (((Xnest_position τ) - 1) - s0) (by decide) (fun n h9 => by cases h9; exact hrw _ n_91)) (cwV 3 hts gX4_putWrittenText_X3_putText rfl rfl rfl (by decide +kernel) ⟨Nat.le_of_ble_eq_true rfl, Nat.le_of_ble_eq_true rfl⟩) rfl hl.1 rfl (Nat.le_of_ble_eq_true rfl) dX4_putWrittenText_121 ⟨Nat.le_of_ble_eq_true rfl, Nat.le_of_ble_eq_true rfl⟩ (fun E u9 hw_121 => (by rw [hI]; simp only [Xdesk_putWrittenText_L21, eq_true c_26, eq_false c_87, n_91, hw_121, ↓reduceIte])) (fun u_121 H locs hw_121 G => ?_)
          have hv_121 : xWF u_121 := putText_wf hrt (fun n h9 => by cases h9; exact hrw _ n_91) hw_121
          exact xq_ret (x_vret X G hr hlocks (by rw [hI]; simp only [Xdesk_putWrittenText_L21, eq_true c_26, eq_false c_87, n_91, hw_121, ↓reduceIte]) dX4_putWrittenText_124)
        · have n_91 := n_91
          obtain ⟨sa, hstr⟩ := zstr hz (own := RX4) (k := 160) (text := "a text in brackets does not end") (by decide +kernel)
          exact xq_thr (vx_throwS (own := RX4) (cls := "java/lang/IllegalArgumentException") (text := "a text in brackets does not end") (names := ["java/lang/RuntimeException", "java/lang/Exception"]) hx hb hl9 hown (by decide +kernel) (by decide +kernel) (hts (.classLink RX4 56 "java/lang/IllegalArgumentException") (by decide +kernel)) (hts (.initialized "java/lang/IllegalArgumentException") (by decide +kernel)) hstr (zhat hz hts (by decide +kernel) (fun w hw => List.mem_cons_of_mem _ (List.mem_append_left _ (List.mem_append_right _ hw))) (by decide +kernel)) (by decide +kernel) hz.2.1 hz.2.2.1 G.2.2 (hl.1.trans hml.symm) dX4_putWrittenText_94 dX4_putWrittenText_97 dX4_putWrittenText_98 dX4_putWrittenText_100 dX4_putWrittenText_103 (fun x hx => (hEx x hx).elim) (Nat.le_of_ble_eq_true rfl) (Nat.le_of_ble_eq_true rfl) (Nat.le_of_ble_eq_true rfl) (Nat.le_of_ble_eq_true rfl) hlocks (fun t ha hsz hk => ⟨τ, trivial, ⟨(by rw [hI]; simp only [Xdesk_putWrittenText_L21, eq_true c_26, eq_false c_87, n_91, ↓reduceIte]), (y_kept X G ha hsz hk).1⟩, (y_kept X G ha hsz hk).2⟩) G.2.2.2.2 (Nat.le_of_ble_eq_true rfl) (Nat.le_of_ble_eq_true rfl))
    · have c_26 : ¬ (160 ≤ i0) := c_26
      have k_26 : i0.toInt < 160 := by have h9 := c_26; rw [Int32.not_le, Int32.lt_iff_toInt_lt] at h9; exact h9
      have e_26 : (i0 + 1).toInt = i0.toInt + 1 := i_addE rfl (show (1 : Int32).toInt = 1 from rfl) (by omega) (by omega)
      refine lv_iload_n hx hb dX4_putWrittenText_29 rfl (lv_at hl 3 rfl) ?_
      refine lv_if_le (tgt := 86) hx hb dX4_putWrittenText_30 (by decide) (fun c_30 => ?_) (fun c_30 => ?_)
      · have c_30 : o0 ≤ 0 := c_30
        refine lv_iload_n hx hb dX4_putWrittenText_86 rfl (lv_at hl 3 rfl) ?_
        refine lv_if_gt (tgt := 94) hx hb dX4_putWrittenText_87 (by decide) (fun c9 => absurd c9 (show ¬ (0 < o0) from (Int32.not_lt.mpr c_30))) (fun c9 => ?_)
        refine x_aload_nq hx hb dX4_putWrittenText_90 rfl (lv_at hl 1 rfl) ?_
        refine x_ifnonnull (o := r0) (tgt := 104) hx hb dX4_putWrittenText_91 (by decide) (fun n_91x n_91 => ?_) (fun n_91 => ?_)
        · have n_91 := n_91
          have hl : lv_has ls 6 [(0, .ref (ad 0)), (1, .ref (ad n_91x)), (2, .int s0), (3, .int o0), (4, .int i0)] := by rw [n_91] at hl; exact hl
          refine lv_aload_n hx hb dX4_putWrittenText_104 rfl (lv_at hl 0 rfl) ?_
          refine x_dget_0 X G hin4 (by decide +kernel) dX4_putWrittenText_105 ?_
          refine lv_aload_n hx hb dX4_putWrittenText_108 rfl (lv_at hl 1 rfl) ?_
          refine lv_iload_n hx hb dX4_putWrittenText_109 rfl (lv_at hl 2 rfl) ?_
          refine lv_aload_n hx hb dX4_putWrittenText_110 rfl (lv_at hl 0 rfl) ?_
          refine x_dget_3 X G hin4 (by decide +kernel) dX4_putWrittenText_111 ?_
          refine x_calli (As := []) (rest := [.int s0, .ref (ad n_91x), .ref (ad 6)]) X hml G hA xW_nest rfl (c_Xnest_position l dC dI kc ad _ τ) (cwV 0 hts gX4_putWrittenText_X1_position rfl rfl rfl (by decide +kernel) ⟨Nat.le_of_ble_eq_true rfl, Nat.le_of_ble_eq_true rfl⟩) rfl hl.1 rfl (Nat.le_of_ble_eq_true rfl) dX4_putWrittenText_114 ⟨Nat.zero_le _, Nat.zero_le _⟩ (fun r_114 u_114 H locs hw_114 G => ?_)
          obtain ⟨rfl, hu_114⟩ := hw_114
          rw [hu_114] at G
          refine lv_iconst (v := 1) hx hb dX4_putWrittenText_117 (by decide) ?_
          refine lv_isub hx hb dX4_putWrittenText_118 ?_
          refine lv_iload_n hx hb dX4_putWrittenText_119 rfl (lv_at hl 2 rfl) ?_
          refine lv_isub hx hb dX4_putWrittenText_120 ?_
          refine y_callv (As := [va_rf (((some n_91x)).map ad), .int s0, .int (((Xnest_position τ) - 1) - s0)]) (rest := []) X hml G hA hEx hlocks (xW_sh (by decide)) rfl (c_Xsh_putText l hl9 dC dI kc ad _ τ 6 ((some n_91x)) s0 (((Xnest_position τ) - 1) - s0) (by decide) (fun n h9 => by cases h9; exact hrw _ n_91)) (cwV 3 hts gX4_putWrittenText_X3_putText rfl rfl rfl (by decide +kernel) ⟨Nat.le_of_ble_eq_true rfl, Nat.le_of_ble_eq_true rfl⟩) rfl hl.1 rfl (Nat.le_of_ble_eq_true rfl) dX4_putWrittenText_121 ⟨Nat.le_of_ble_eq_true rfl, Nat.le_of_ble_eq_true rfl⟩ (fun E u9 hw_121 => (by rw [hI]; simp only [Xdesk_putWrittenText_L21, eq_false c_26, eq_true c_30, n_91, hw_121, ↓reduceIte])) (fun u_121 H locs hw_121 G => ?_)
          have hv_121 : xWF u_121 := putText_wf hrt (fun n h9 => by cases h9; exact hrw _ n_91) hw_121
          exact xq_ret (x_vret X G hr hlocks (by rw [hI]; simp only [Xdesk_putWrittenText_L21, eq_false c_26, eq_true c_30, n_91, hw_121, ↓reduceIte]) dX4_putWrittenText_124)
        · have n_91 := n_91
          obtain ⟨sa, hstr⟩ := zstr hz (own := RX4) (k := 160) (text := "a text in brackets does not end") (by decide +kernel)
          exact xq_thr (vx_throwS (own := RX4) (cls := "java/lang/IllegalArgumentException") (text := "a text in brackets does not end") (names := ["java/lang/RuntimeException", "java/lang/Exception"]) hx hb hl9 hown (by decide +kernel) (by decide +kernel) (hts (.classLink RX4 56 "java/lang/IllegalArgumentException") (by decide +kernel)) (hts (.initialized "java/lang/IllegalArgumentException") (by decide +kernel)) hstr (zhat hz hts (by decide +kernel) (fun w hw => List.mem_cons_of_mem _ (List.mem_append_left _ (List.mem_append_right _ hw))) (by decide +kernel)) (by decide +kernel) hz.2.1 hz.2.2.1 G.2.2 (hl.1.trans hml.symm) dX4_putWrittenText_94 dX4_putWrittenText_97 dX4_putWrittenText_98 dX4_putWrittenText_100 dX4_putWrittenText_103 (fun x hx => (hEx x hx).elim) (Nat.le_of_ble_eq_true rfl) (Nat.le_of_ble_eq_true rfl) (Nat.le_of_ble_eq_true rfl) (Nat.le_of_ble_eq_true rfl) hlocks (fun t ha hsz hk => ⟨τ, trivial, ⟨(by rw [hI]; simp only [Xdesk_putWrittenText_L21, eq_false c_26, eq_true c_30, n_91, ↓reduceIte]), (y_kept X G ha hsz hk).1⟩, (y_kept X G ha hsz hk).2⟩) G.2.2.2.2 (Nat.le_of_ble_eq_true rfl) (Nat.le_of_ble_eq_true rfl))
      · have c_30 : ¬ (o0 ≤ 0) := c_30
        refine lv_aload_n hx hb dX4_putWrittenText_33 rfl (lv_at hl 0 rfl) ?_
        refine x_dget_3 X G hin4 (by decide +kernel) dX4_putWrittenText_34 ?_
        refine x_calli (As := []) (rest := []) X hml G hA xW_nest rfl (c_Xnest_look l dC dI kc ad _ τ hrt) (cwV 0 hts gX4_putWrittenText_X1_look rfl rfl rfl (by decide +kernel) ⟨Nat.le_of_ble_eq_true rfl, Nat.le_of_ble_eq_true rfl⟩) rfl hl.1 rfl (Nat.le_of_ble_eq_true rfl) dX4_putWrittenText_37 ⟨Nat.zero_le _, Nat.zero_le _⟩ (fun r_37 u_37 H locs hw_37 G => ?_)
        obtain ⟨rfl, hu_37⟩ := hw_37
        rw [hu_37] at G
        refine lv_istore (lv' := [(5, .int (Xnest_look τ)), (0, .ref (ad 0)), (1, va_rf (r0.map ad)), (2, .int s0), (3, .int o0), (4, .int i0)]) hx hb dX4_putWrittenText_40 hl (by decide) rfl (fun ls hl => ?_)
        refine lv_iload hx hb dX4_putWrittenText_42 (lv_at hl 0 rfl) ?_
        refine lv_if_ne (tgt := 50) hx hb dX4_putWrittenText_44 (by decide) (fun c_44 => ?_) (fun c_44 => ?_)
        · have c_44 : ¬ ((Xnest_look τ) = 0) := c_44
          refine lv_iload hx hb dX4_putWrittenText_50 (lv_at hl 0 rfl) ?_
          refine lv_bipush (v := 91) hx hb dX4_putWrittenText_52 (by decide) ?_
          refine lv_icmp_ne (tgt := 63) hx hb dX4_putWrittenText_54 (by decide) (fun c_54 => ?_) (fun c_54 => ?_)
          · have c_54 : ¬ ((Xnest_look τ) = 91) := c_54
            refine lv_iload hx hb dX4_putWrittenText_63 (lv_at hl 0 rfl) ?_
            refine lv_bipush (v := 93) hx hb dX4_putWrittenText_65 (by decide) ?_
            refine lv_icmp_ne (tgt := 73) hx hb dX4_putWrittenText_67 (by decide) (fun c_67 => ?_) (fun c_67 => ?_)
            · have c_67 : ¬ ((Xnest_look τ) = 93) := c_67
              refine lv_aload_n hx hb dX4_putWrittenText_73 rfl (lv_at hl 1 rfl) ?_
              refine x_dget_3 X G hin4 (by decide +kernel) dX4_putWrittenText_74 ?_
              refine x_callv (As := []) (rest := []) X hml G hA xW_nest rfl (c_Xnest_pass l dC dI kc ad _ τ) (cwV 0 hts gX4_putWrittenText_X1_pass rfl rfl rfl (by decide +kernel) ⟨Nat.le_of_ble_eq_true rfl, Nat.le_of_ble_eq_true rfl⟩) rfl hl.1 rfl (Nat.le_of_ble_eq_true rfl) dX4_putWrittenText_77 ⟨Nat.zero_le _, Nat.zero_le _⟩ (fun u_77 H locs hw_77 G => ?_)
              have hv_77 : xWF u_77 := by have h9 : xWF (Xnest_pass τ) := pass_wf hrt; rw [hw_77] at h9; exact h9
              refine lv_iinc (v := (i0 + 1)) (lv' := [(4, .int (i0 + 1)), (5, .int (Xnest_look τ)), (0, .ref (ad 0)), (1, va_rf (r0.map ad)), (2, .int s0), (3, .int o0)]) hx hb dX4_putWrittenText_80 hl (k := 5) rfl rfl (by decide) rfl (fun ls hl => ?_)
              refine lv_goto (tgt := 21) hx hb dX4_putWrittenText_83 (by decide) ?_
              exact ih r0 s0 o0 (i0 + 1) u_77 (by rw [hI]; simp only [Xdesk_putWrittenText_L21, eq_false c_26, eq_false c_30, eq_false c_44, eq_false c_54, eq_false c_67, hw_77, ↓reduceIte]) (by omega) (by omega) (by omega) hv_77 (fun n h9 => by rw [← hw_77]; exact xv_same (by rw [pass_n]) (hrw n h9)) H locs G ls (lv_sub hl [2, 3, 4, 5, 0] rfl)
            · have c_67 : (Xnest_look τ) = 93 := c_67
              refine lv_iinc (v := (o0 + (-1))) (lv' := [(3, .int (o0 + (-1))), (5, .int (Xnest_look τ)), (0, .ref (ad 0)), (1, va_rf (r0.map ad)), (2, .int s0), (4, .int i0)]) hx hb dX4_putWrittenText_70 hl (k := 4) rfl rfl (by decide) rfl (fun ls hl => ?_)
              refine lv_aload_n hx hb dX4_putWrittenText_73 rfl (lv_at hl 2 rfl) ?_
              refine x_dget_3 X G hin4 (by decide +kernel) dX4_putWrittenText_74 ?_
              refine x_callv (As := []) (rest := []) X hml G hA xW_nest rfl (c_Xnest_pass l dC dI kc ad _ τ) (cwV 0 hts gX4_putWrittenText_X1_pass rfl rfl rfl (by decide +kernel) ⟨Nat.le_of_ble_eq_true rfl, Nat.le_of_ble_eq_true rfl⟩) rfl hl.1 rfl (Nat.le_of_ble_eq_true rfl) dX4_putWrittenText_77 ⟨Nat.zero_le _, Nat.zero_le _⟩ (fun u_77 H locs hw_77 G => ?_)
              have hv_77 : xWF u_77 := by have h9 : xWF (Xnest_pass τ) := pass_wf hrt; rw [hw_77] at h9; exact h9
              refine lv_iinc (v := (i0 + 1)) (lv' := [(4, .int (i0 + 1)), (3, .int (o0 + (-1))), (5, .int (Xnest_look τ)), (0, .ref (ad 0)), (1, va_rf (r0.map ad)), (2, .int s0)]) hx hb dX4_putWrittenText_80 hl (k := 5) rfl rfl (by decide) rfl (fun ls hl => ?_)
              refine lv_goto (tgt := 21) hx hb dX4_putWrittenText_83 (by decide) ?_
              exact ih r0 s0 (o0 + (-1)) (i0 + 1) u_77 (by rw [hI]; simp only [Xdesk_putWrittenText_L21, eq_false c_26, eq_false c_30, eq_false c_44, eq_false c_54, eq_true c_67, hw_77, ↓reduceIte]) (by omega) (by omega) (by omega) hv_77 (fun n h9 => by rw [← hw_77]; exact xv_same (by rw [pass_n]) (hrw n h9)) H locs G ls (lv_sub hl [3, 4, 5, 1, 0] rfl)
          · have c_54 : (Xnest_look τ) = 91 := c_54
            refine lv_iinc (v := (o0 + 1)) (lv' := [(3, .int (o0 + 1)), (5, .int (Xnest_look τ)), (0, .ref (ad 0)), (1, va_rf (r0.map ad)), (2, .int s0), (4, .int i0)]) hx hb dX4_putWrittenText_57 hl (k := 4) rfl rfl (by decide) rfl (fun ls hl => ?_)
            refine lv_goto (tgt := 73) hx hb dX4_putWrittenText_60 (by decide) ?_
            refine lv_aload_n hx hb dX4_putWrittenText_73 rfl (lv_at hl 2 rfl) ?_
            refine x_dget_3 X G hin4 (by decide +kernel) dX4_putWrittenText_74 ?_
            refine x_callv (As := []) (rest := []) X hml G hA xW_nest rfl (c_Xnest_pass l dC dI kc ad _ τ) (cwV 0 hts gX4_putWrittenText_X1_pass rfl rfl rfl (by decide +kernel) ⟨Nat.le_of_ble_eq_true rfl, Nat.le_of_ble_eq_true rfl⟩) rfl hl.1 rfl (Nat.le_of_ble_eq_true rfl) dX4_putWrittenText_77 ⟨Nat.zero_le _, Nat.zero_le _⟩ (fun u_77 H locs hw_77 G => ?_)
            have hv_77 : xWF u_77 := by have h9 : xWF (Xnest_pass τ) := pass_wf hrt; rw [hw_77] at h9; exact h9
            refine lv_iinc (v := (i0 + 1)) (lv' := [(4, .int (i0 + 1)), (3, .int (o0 + 1)), (5, .int (Xnest_look τ)), (0, .ref (ad 0)), (1, va_rf (r0.map ad)), (2, .int s0)]) hx hb dX4_putWrittenText_80 hl (k := 5) rfl rfl (by decide) rfl (fun ls hl => ?_)
            refine lv_goto (tgt := 21) hx hb dX4_putWrittenText_83 (by decide) ?_
            exact ih r0 s0 (o0 + 1) (i0 + 1) u_77 (by rw [hI]; simp only [Xdesk_putWrittenText_L21, eq_false c_26, eq_false c_30, eq_false c_44, eq_true c_54, hw_77, ↓reduceIte]) (by omega) (by omega) (by omega) hv_77 (fun n h9 => by rw [← hw_77]; exact xv_same (by rw [pass_n]) (hrw n h9)) H locs G ls (lv_sub hl [3, 4, 5, 1, 0] rfl)
        · have c_44 : (Xnest_look τ) = 0 := c_44
          refine lv_goto (tgt := 86) hx hb dX4_putWrittenText_47 (by decide) ?_
          refine lv_iload_n hx hb dX4_putWrittenText_86 rfl (lv_at hl 4 rfl) ?_
          refine lv_if_gt (tgt := 94) hx hb dX4_putWrittenText_87 (by decide) (fun c9 => ?_) (fun c9 => absurd (show 0 < o0 from (Int32.not_le.mp c_30)) c9)
          obtain ⟨sa, hstr⟩ := zstr hz (own := RX4) (k := 160) (text := "a text in brackets does not end") (by decide +kernel)
          exact xq_thr (vx_throwS (own := RX4) (cls := "java/lang/IllegalArgumentException") (text := "a text in brackets does not end") (names := ["java/lang/RuntimeException", "java/lang/Exception"]) hx hb hl9 hown (by decide +kernel) (by decide +kernel) (hts (.classLink RX4 56 "java/lang/IllegalArgumentException") (by decide +kernel)) (hts (.initialized "java/lang/IllegalArgumentException") (by decide +kernel)) hstr (zhat hz hts (by decide +kernel) (fun w hw => List.mem_cons_of_mem _ (List.mem_append_left _ (List.mem_append_right _ hw))) (by decide +kernel)) (by decide +kernel) hz.2.1 hz.2.2.1 G.2.2 (hl.1.trans hml.symm) dX4_putWrittenText_94 dX4_putWrittenText_97 dX4_putWrittenText_98 dX4_putWrittenText_100 dX4_putWrittenText_103 (fun x hx => (hEx x hx).elim) (Nat.le_of_ble_eq_true rfl) (Nat.le_of_ble_eq_true rfl) (Nat.le_of_ble_eq_true rfl) (Nat.le_of_ble_eq_true rfl) hlocks (fun t ha hsz hk => ⟨τ, trivial, ⟨(by rw [hI]; simp only [Xdesk_putWrittenText_L21, eq_false c_26, eq_false c_30, eq_true c_44, ↓reduceIte]), (y_kept X G ha hsz hk).1⟩, (y_kept X G ha hsz hk).2⟩) G.2.2.2.2 (Nat.le_of_ble_eq_true rfl) (Nat.le_of_ble_eq_true rfl))
set_option maxHeartbeats 4000000 in
set_option maxRecDepth 100000 in
theorem c_Xdesk_putWrittenText (l : Launch) (hl9 : l.stackTraces = false) (dC : Nat → ClassId) (dI : Nat → Nat → Nat) (kc : Nat → ClassId) (ad : Nat → Nat) (sz : Nat) (σ : XS) (hrv : xWF σ) : xq_Met l yX4_putWrittenText wsX4_putWrittenText ({ frames := 8, cells := 1, slots := 6, locals := 130 } : Room) (va_Pc [.ref (ad 0)] (xPre dC dI kc ad sz σ)) (va_Qv (fun u => Xdesk_putWrittenText σ = .inr u) (xAt dC dI kc ad (xA kc ad σ sz)) (xA kc ad σ sz)) (xE (Xdesk_putWrittenText σ) dC dI kc ad (xA kc ad σ sz)) 0 0 1 6 (xA kc ad σ sz) := by
  refine y_ofW (cc := cX4_putWrittenText) (maxL := 6) (ret := none) (by decide) rfl rfl (Nat.le_of_ble_eq_true rfl) ?_
  intro p e s m below meth c X G hA hr hlocks hml hEx ls hl
  have hl : lv_has ls 6 [(0, .ref (ad 0))] := hl
  have hx := X.1
  have hb := X.2.1
  have hts := X.2.2.1
  have hown := X.2.2.2.1
  have hz := X.2.2.2.2.2
  have hin3 : ∀ w ∈ wsX30, w ∈ wsX4_putWrittenText := (fun w hw => List.mem_cons_of_mem _ (List.mem_append_left _ (List.mem_append_left _ (List.mem_append_right _ hw))))
  have hin2 : ∀ w ∈ wsX20, w ∈ wsX4_putWrittenText := (fun w hw => List.mem_cons_of_mem _ (List.mem_append_left _ (List.mem_append_left _ (List.mem_append_left _ (List.mem_append_right _ hw)))))
  have hin1 : ∀ w ∈ wsX10, w ∈ wsX4_putWrittenText := (fun w hw => List.mem_cons_of_mem _ (List.mem_append_left _ (List.mem_append_left _ (List.mem_append_left _ (List.mem_append_left _ (List.mem_append_right _ hw))))))
  have hin4 : ∀ w ∈ wsX40, w ∈ wsX4_putWrittenText := (fun w hw => List.mem_cons_of_mem _ (List.mem_append_left _ (List.mem_append_left _ (List.mem_append_left _ (List.mem_append_left _ (List.mem_append_left _ (List.mem_append_right _ hw)))))))
  refine lv_aload_n hx hb dX4_putWrittenText_0 rfl (lv_at hl 0 rfl) ?_
  refine x_dget_3 X G hin4 (by decide +kernel) dX4_putWrittenText_1 ?_
  refine x_callq (As := []) (rest := []) X hml G hA xW_nest rfl (c_Xnest_innermostRow l dC dI kc ad _ σ) (cwV 0 hts gX4_putWrittenText_X1_innermostRow rfl rfl rfl (by decide +kernel) ⟨Nat.le_of_ble_eq_true rfl, Nat.le_of_ble_eq_true rfl⟩) rfl hl.1 rfl (Nat.le_of_ble_eq_true rfl) dX4_putWrittenText_4 ⟨Nat.zero_le _, Nat.zero_le _⟩ (fun r_4 u_4 H locs hw_4 G => ?_)
  obtain ⟨_, rfl, rfl, hu_4⟩ := hw_4
  rw [hu_4] at G
  refine x_astore_nq (lv' := [(1, va_rf ((Xnest_innermostRow σ).map ad)), (0, .ref (ad 0))]) hx hb dX4_putWrittenText_7 rfl hl (by decide) rfl (fun ls hl => ?_)
  refine lv_aload_n hx hb dX4_putWrittenText_8 rfl (lv_at hl 1 rfl) ?_
  refine x_dget_3 X G hin4 (by decide +kernel) dX4_putWrittenText_9 ?_
  refine x_calli (As := []) (rest := []) X hml G hA xW_nest rfl (c_Xnest_position l dC dI kc ad _ σ) (cwV 0 hts gX4_putWrittenText_X1_position rfl rfl rfl (by decide +kernel) ⟨Nat.le_of_ble_eq_true rfl, Nat.le_of_ble_eq_true rfl⟩) rfl hl.1 rfl (Nat.le_of_ble_eq_true rfl) dX4_putWrittenText_12 ⟨Nat.zero_le _, Nat.zero_le _⟩ (fun r_12 u_12 H locs hw_12 G => ?_)
  obtain ⟨rfl, hu_12⟩ := hw_12
  rw [hu_12] at G
  refine lv_istore_n (lv' := [(2, .int (Xnest_position σ)), (1, va_rf ((Xnest_innermostRow σ).map ad)), (0, .ref (ad 0))]) hx hb dX4_putWrittenText_15 rfl hl (by decide) (by simp [List.filter_cons, va_rf_cat]) (fun ls hl => ?_)
  refine lv_iconst (v := 1) hx hb dX4_putWrittenText_16 (by decide) ?_
  refine lv_istore_n (lv' := [(3, .int 1), (2, .int (Xnest_position σ)), (1, va_rf ((Xnest_innermostRow σ).map ad)), (0, .ref (ad 0))]) hx hb dX4_putWrittenText_17 rfl hl (by decide) rfl (fun ls hl => ?_)
  refine lv_iconst (v := 0) hx hb dX4_putWrittenText_18 (by decide) ?_
  refine lv_istore (lv' := [(4, .int 0), (3, .int 1), (2, .int (Xnest_position σ)), (1, va_rf ((Xnest_innermostRow σ).map ad)), (0, .ref (ad 0))]) hx hb dX4_putWrittenText_19 hl (by decide) rfl (fun ls hl => ?_)
  exact c_Xdesk_putWrittenText_L21 l hl9 σ hrv X hA hr hlocks hml hEx 161 ((Xnest_innermostRow σ)) (Xnest_position σ) 1 0 σ (by unfold Xdesk_putWrittenText; first | simp only [↓reduceIte] | rfl) (by decide) (by decide) (by decide) hrv (inner_v hrv) _ _ G ls (lv_sub hl [4, 3, 2, 1, 0] rfl)
def Xdesk_doCommand (σ : XS) : (String × XS) ⊕ XS := if (Xd_beginsNumber (Xnest_look σ)) = 0 then (let q_24 := Xnest_pass σ; if (Xnest_look σ) = 37 then ((match Xdesk_calculate q_24 (Xnest_look σ) with | .inl e9 => .inl e9 | .inr u201 => .inr u201)) else if (Xnest_look σ) = 42 then ((match Xdesk_calculate q_24 (Xnest_look σ) with | .inl e9 => .inl e9 | .inr u201 => .inr u201)) else if (Xnest_look σ) = 43 then ((match Xdesk_calculate q_24 (Xnest_look σ) with | .inl e9 => .inl e9 | .inr u201 => .inr u201)) else if (Xnest_look σ) = 45 then ((match Xdesk_calculate q_24 (Xnest_look σ) with | .inl e9 => .inl e9 | .inr u201 => .inr u201)) else if (Xnest_look σ) = 47 then ((match Xdesk_calculate q_24 (Xnest_look σ) with | .inl e9 => .inl e9 | .inr u201 => .inr u201)) else if (Xnest_look σ) = 60 then ((match Xdesk_runIfOrdered q_24 (Xnest_look σ) with | .inl e9 => .inl e9 | .inr u225 => .inr u225)) else if (Xnest_look σ) = 61 then ((match Xdesk_runIfOrdered q_24 (Xnest_look σ) with | .inl e9 => .inl e9 | .inr u225 => .inr u225)) else if (Xnest_look σ) = 62 then ((match Xdesk_runIfOrdered q_24 (Xnest_look σ) with | .inl e9 => .inl e9 | .inr u225 => .inr u225)) else if (Xnest_look σ) = 76 then ((match Xdesk_moveToOrFromRegister q_24 (Xnest_look σ) with | .inl e9 => .inl e9 | .inr u217 => .inr u217)) else if (Xnest_look σ) = 83 then ((match Xdesk_moveToOrFromRegister q_24 (Xnest_look σ) with | .inl e9 => .inl e9 | .inr u217 => .inr u217)) else if (Xnest_look σ) = 88 then ((match Xdesk_changeNumber q_24 (Xnest_look σ) with | .inl e9 => .inl e9 | .inr u209 => .inr u209)) else if (Xnest_look σ) = 91 then ((match Xdesk_putWrittenText q_24 with | .inl e9 => .inl e9 | .inr u193 => .inr u193)) else if (Xnest_look σ) = 107 then ((match Xdesk_changeNumber q_24 (Xnest_look σ) with | .inl e9 => .inl e9 | .inr u209 => .inr u209)) else if (Xnest_look σ) = 108 then ((match Xdesk_moveToOrFromRegister q_24 (Xnest_look σ) with | .inl e9 => .inl e9 | .inr u217 => .inr u217)) else if (Xnest_look σ) = 113 then (let q_242 := Xnest_leaveAll q_24; .inr q_242) else if (Xnest_look σ) = 115 then ((match Xdesk_moveToOrFromRegister q_24 (Xnest_look σ) with | .inl e9 => .inl e9 | .inr u217 => .inr u217)) else if (Xnest_look σ) = 118 then ((match Xdesk_changeNumber q_24 (Xnest_look σ) with | .inl e9 => .inl e9 | .inr u209 => .inr u209)) else if (Xnest_look σ) = 120 then ((match Xdesk_runTop q_24 with | .inl e9 => .inl e9 | .inr u232 => .inr u232)) else if (Xnest_look σ) = 126 then ((match Xdesk_changeNumber q_24 (Xnest_look σ) with | .inl e9 => .inl e9 | .inr u209 => .inr u209)) else (match Xdesk_arrangeStack q_24 (Xnest_look σ) with | .inl e9 => .inl e9 | .inr u250 => .inr u250)) else (match Xdesk_putWrittenNumber σ with | .inl e9 => .inl e9 | .inr u16 => .inr u16)
set_option maxHeartbeats 4000000 in
set_option maxRecDepth 100000 in
theorem c_Xdesk_doCommand (l : Launch) (hl9 : l.stackTraces = false) (dC : Nat → ClassId) (dI : Nat → Nat → Nat) (kc : Nat → ClassId) (ad : Nat → Nat) (sz : Nat) (σ : XS) (hrv : xWF σ) : xq_Met l yX4_doCommand wsX4_doCommand ({ frames := 11, cells := 1, slots := 6, locals := 217 } : Room) (va_Pc [.ref (ad 0)] (xPre dC dI kc ad sz σ)) (va_Qv (fun u => Xdesk_doCommand σ = .inr u) (xAt dC dI kc ad (xA kc ad σ sz)) (xA kc ad σ sz)) (xE (Xdesk_doCommand σ) dC dI kc ad (xA kc ad σ sz)) 0 0 1 6 (xA kc ad σ sz) := by
  refine y_ofW (cc := cX4_doCommand) (maxL := 2) (ret := none) (by decide) rfl rfl (Nat.le_of_ble_eq_true rfl) ?_
  intro p e s m below meth c X G hA hr hlocks hml hEx ls hl
  have hl : lv_has ls 2 [(0, .ref (ad 0))] := hl
  have hx := X.1
  have hb := X.2.1
  have hts := X.2.2.1
  have hown := X.2.2.2.1
  have hz := X.2.2.2.2.2
  have hin3 : ∀ w ∈ wsX30, w ∈ wsX4_doCommand := (fun w hw => List.mem_cons_of_mem _ (List.mem_append_left _ (List.mem_append_left _ (List.mem_append_left _ (List.mem_append_left _ (List.mem_append_left _ (List.mem_append_left _ (List.mem_append_left _ (List.mem_append_right _ hw)))))))))
  have hin2 : ∀ w ∈ wsX20, w ∈ wsX4_doCommand := (fun w hw => List.mem_cons_of_mem _ (List.mem_append_left _ (List.mem_append_left _ (List.mem_append_left _ (List.mem_append_left _ (List.mem_append_left _ (List.mem_append_left _ (List.mem_append_left _ (List.mem_append_left _ (List.mem_append_right _ hw))))))))))
  have hin1 : ∀ w ∈ wsX10, w ∈ wsX4_doCommand := (fun w hw => List.mem_cons_of_mem _ (List.mem_append_left _ (List.mem_append_left _ (List.mem_append_left _ (List.mem_append_left _ (List.mem_append_left _ (List.mem_append_left _ (List.mem_append_left _ (List.mem_append_left _ (List.mem_append_left _ (List.mem_append_right _ hw)))))))))))
  have hin4 : ∀ w ∈ wsX40, w ∈ wsX4_doCommand := (fun w hw => List.mem_cons_of_mem _ (List.mem_append_left _ (List.mem_append_left _ (List.mem_append_left _ (List.mem_append_left _ (List.mem_append_left _ (List.mem_append_left _ (List.mem_append_left _ (List.mem_append_left _ (List.mem_append_left _ (List.mem_append_left _ (List.mem_append_right _ hw))))))))))))
  refine lv_aload_n hx hb dX4_doCommand_0 rfl (lv_at hl 0 rfl) ?_
  refine x_dget_3 X G hin4 (by decide +kernel) dX4_doCommand_1 ?_
  refine x_calli (As := []) (rest := []) X hml G hA xW_nest rfl (c_Xnest_look l dC dI kc ad _ σ hrv) (cwV 0 hts gX4_doCommand_X1_look rfl rfl rfl (by decide +kernel) ⟨Nat.le_of_ble_eq_true rfl, Nat.le_of_ble_eq_true rfl⟩) rfl hl.1 rfl (Nat.le_of_ble_eq_true rfl) dX4_doCommand_4 ⟨Nat.zero_le _, Nat.zero_le _⟩ (fun r_4 u_4 H locs hw_4 G => ?_)
  obtain ⟨rfl, hu_4⟩ := hw_4
  rw [hu_4] at G
  refine lv_istore_n (lv' := [(1, .int (Xnest_look σ)), (0, .ref (ad 0))]) hx hb dX4_doCommand_7 rfl hl (by decide) rfl (fun ls hl => ?_)
  refine lv_iload_n hx hb dX4_doCommand_8 rfl (lv_at hl 0 rfl) ?_
  refine W.callR (W.runS (As := [.int (Xnest_look σ)]) (rest := []) ⟨hx, hb, hml, hown, hts⟩ (c_Xd_beginsNumber l (Xnest_look σ)) (va_cwS 1 hts gX4_doCommand_X4_beginsNumber rfl rfl rfl (by decide +kernel) ⟨Nat.le_of_ble_eq_true rfl, Nat.le_of_ble_eq_true rfl⟩) ⟨fun a U g mk q => q, fun U _ _ => ⟨rfl, trivial⟩⟩ rfl rfl hl.1 rfl (lv_room (Nat.le_of_ble_eq_true rfl)) dX4_doCommand_9 ⟨Nat.zero_le _, Nat.zero_le _⟩) ?_
  refine W.eq (g2 := F0 m 12 ls [.int (Xd_beginsNumber (Xnest_look σ))]) rfl ?_
  refine lv_if_eq (tgt := 20) hx hb dX4_doCommand_12 (by decide) (fun c_12 => ?_) (fun c_12 => ?_)
  · have c_12 : (Xd_beginsNumber (Xnest_look σ)) = 0 := c_12
    refine lv_aload_n hx hb dX4_doCommand_20 rfl (lv_at hl 1 rfl) ?_
    refine x_dget_3 X G hin4 (by decide +kernel) dX4_doCommand_21 ?_
    refine x_callv (As := []) (rest := []) X hml G hA xW_nest rfl (c_Xnest_pass l dC dI kc ad _ σ) (cwV 0 hts gX4_doCommand_X1_pass rfl rfl rfl (by decide +kernel) ⟨Nat.le_of_ble_eq_true rfl, Nat.le_of_ble_eq_true rfl⟩) rfl hl.1 rfl (Nat.le_of_ble_eq_true rfl) dX4_doCommand_24 ⟨Nat.zero_le _, Nat.zero_le _⟩ (fun u_24 H locs hw_24 G => ?_)
    have hv_24 : xWF u_24 := by have h9 : xWF (Xnest_pass σ) := pass_wf hrv; rw [hw_24] at h9; exact h9
    refine lv_iload_n hx hb dX4_doCommand_27 rfl (lv_at hl 0 rfl) ?_
    by_cases s_28_37 : (Xnest_look σ) = 37
    · refine lv_lookup (off := 171) (tgt := 199) hx hb dX4_doCommand_28 (by decide) (by rw [s_28_37]; rfl) (by decide) ?_
      refine lv_aload_n hx hb dX4_doCommand_199 rfl (lv_at hl 1 rfl) ?_
      refine lv_iload_n hx hb dX4_doCommand_200 rfl (lv_at hl 0 rfl) ?_
      refine y_callv (As := [.int (Xnest_look σ)]) (rest := []) X hml G hA hEx hlocks xW_desk rfl (c_Xdesk_calculate l hl9 dC dI kc ad _ u_24 (Xnest_look σ) hv_24) (cwV 1 hts gX4_doCommand_X4_calculate rfl rfl rfl (by decide +kernel) ⟨Nat.le_of_ble_eq_true rfl, Nat.le_of_ble_eq_true rfl⟩) rfl hl.1 rfl (Nat.le_of_ble_eq_true rfl) dX4_doCommand_201 ⟨Nat.le_of_ble_eq_true rfl, Nat.le_of_ble_eq_true rfl⟩ (fun E u9 hw_201 => (by unfold Xdesk_doCommand; first | simp only [eq_true c_12, hw_24, eq_true s_28_37, hw_201, ↓reduceIte] | rfl)) (fun u_201 H locs hw_201 G => ?_)
      refine lv_goto (tgt := 253) hx hb dX4_doCommand_204 (by decide) ?_
      exact xq_ret (x_vret X G hr hlocks (by unfold Xdesk_doCommand; first | simp only [eq_true c_12, hw_24, eq_true s_28_37, hw_201, ↓reduceIte] | rfl) dX4_doCommand_253)
    by_cases s_28_42 : (Xnest_look σ) = 42
    · refine lv_lookup (off := 171) (tgt := 199) hx hb dX4_doCommand_28 (by decide) (by rw [s_28_42]; rfl) (by decide) ?_
      refine lv_aload_n hx hb dX4_doCommand_199 rfl (lv_at hl 1 rfl) ?_
      refine lv_iload_n hx hb dX4_doCommand_200 rfl (lv_at hl 0 rfl) ?_
      refine y_callv (As := [.int (Xnest_look σ)]) (rest := []) X hml G hA hEx hlocks xW_desk rfl (c_Xdesk_calculate l hl9 dC dI kc ad _ u_24 (Xnest_look σ) hv_24) (cwV 1 hts gX4_doCommand_X4_calculate rfl rfl rfl (by decide +kernel) ⟨Nat.le_of_ble_eq_true rfl, Nat.le_of_ble_eq_true rfl⟩) rfl hl.1 rfl (Nat.le_of_ble_eq_true rfl) dX4_doCommand_201 ⟨Nat.le_of_ble_eq_true rfl, Nat.le_of_ble_eq_true rfl⟩ (fun E u9 hw_201 => (by unfold Xdesk_doCommand; first | simp only [eq_true c_12, hw_24, eq_false s_28_37, eq_true s_28_42, hw_201, ↓reduceIte] | rfl)) (fun u_201 H locs hw_201 G => ?_)
      refine lv_goto (tgt := 253) hx hb dX4_doCommand_204 (by decide) ?_
      exact xq_ret (x_vret X G hr hlocks (by unfold Xdesk_doCommand; first | simp only [eq_true c_12, hw_24, eq_false s_28_37, eq_true s_28_42, hw_201, ↓reduceIte] | rfl) dX4_doCommand_253)
    by_cases s_28_43 : (Xnest_look σ) = 43
    · refine lv_lookup (off := 171) (tgt := 199) hx hb dX4_doCommand_28 (by decide) (by rw [s_28_43]; rfl) (by decide) ?_
      refine lv_aload_n hx hb dX4_doCommand_199 rfl (lv_at hl 1 rfl) ?_
      refine lv_iload_n hx hb dX4_doCommand_200 rfl (lv_at hl 0 rfl) ?_
      refine y_callv (As := [.int (Xnest_look σ)]) (rest := []) X hml G hA hEx hlocks xW_desk rfl (c_Xdesk_calculate l hl9 dC dI kc ad _ u_24 (Xnest_look σ) hv_24) (cwV 1 hts gX4_doCommand_X4_calculate rfl rfl rfl (by decide +kernel) ⟨Nat.le_of_ble_eq_true rfl, Nat.le_of_ble_eq_true rfl⟩) rfl hl.1 rfl (Nat.le_of_ble_eq_true rfl) dX4_doCommand_201 ⟨Nat.le_of_ble_eq_true rfl, Nat.le_of_ble_eq_true rfl⟩ (fun E u9 hw_201 => (by unfold Xdesk_doCommand; first | simp only [eq_true c_12, hw_24, eq_false s_28_37, eq_false s_28_42, eq_true s_28_43, hw_201, ↓reduceIte] | rfl)) (fun u_201 H locs hw_201 G => ?_)
      refine lv_goto (tgt := 253) hx hb dX4_doCommand_204 (by decide) ?_
      exact xq_ret (x_vret X G hr hlocks (by unfold Xdesk_doCommand; first | simp only [eq_true c_12, hw_24, eq_false s_28_37, eq_false s_28_42, eq_true s_28_43, hw_201, ↓reduceIte] | rfl) dX4_doCommand_253)
    by_cases s_28_45 : (Xnest_look σ) = 45
    · refine lv_lookup (off := 171) (tgt := 199) hx hb dX4_doCommand_28 (by decide) (by rw [s_28_45]; rfl) (by decide) ?_
      refine lv_aload_n hx hb dX4_doCommand_199 rfl (lv_at hl 1 rfl) ?_
      refine lv_iload_n hx hb dX4_doCommand_200 rfl (lv_at hl 0 rfl) ?_
      refine y_callv (As := [.int (Xnest_look σ)]) (rest := []) X hml G hA hEx hlocks xW_desk rfl (c_Xdesk_calculate l hl9 dC dI kc ad _ u_24 (Xnest_look σ) hv_24) (cwV 1 hts gX4_doCommand_X4_calculate rfl rfl rfl (by decide +kernel) ⟨Nat.le_of_ble_eq_true rfl, Nat.le_of_ble_eq_true rfl⟩) rfl hl.1 rfl (Nat.le_of_ble_eq_true rfl) dX4_doCommand_201 ⟨Nat.le_of_ble_eq_true rfl, Nat.le_of_ble_eq_true rfl⟩ (fun E u9 hw_201 => (by unfold Xdesk_doCommand; first | simp only [eq_true c_12, hw_24, eq_false s_28_37, eq_false s_28_42, eq_false s_28_43, eq_true s_28_45, hw_201, ↓reduceIte] | rfl)) (fun u_201 H locs hw_201 G => ?_)
      refine lv_goto (tgt := 253) hx hb dX4_doCommand_204 (by decide) ?_
      exact xq_ret (x_vret X G hr hlocks (by unfold Xdesk_doCommand; first | simp only [eq_true c_12, hw_24, eq_false s_28_37, eq_false s_28_42, eq_false s_28_43, eq_true s_28_45, hw_201, ↓reduceIte] | rfl) dX4_doCommand_253)
    by_cases s_28_47 : (Xnest_look σ) = 47
    · refine lv_lookup (off := 171) (tgt := 199) hx hb dX4_doCommand_28 (by decide) (by rw [s_28_47]; rfl) (by decide) ?_
      refine lv_aload_n hx hb dX4_doCommand_199 rfl (lv_at hl 1 rfl) ?_
      refine lv_iload_n hx hb dX4_doCommand_200 rfl (lv_at hl 0 rfl) ?_
      refine y_callv (As := [.int (Xnest_look σ)]) (rest := []) X hml G hA hEx hlocks xW_desk rfl (c_Xdesk_calculate l hl9 dC dI kc ad _ u_24 (Xnest_look σ) hv_24) (cwV 1 hts gX4_doCommand_X4_calculate rfl rfl rfl (by decide +kernel) ⟨Nat.le_of_ble_eq_true rfl, Nat.le_of_ble_eq_true rfl⟩) rfl hl.1 rfl (Nat.le_of_ble_eq_true rfl) dX4_doCommand_201 ⟨Nat.le_of_ble_eq_true rfl, Nat.le_of_ble_eq_true rfl⟩ (fun E u9 hw_201 => (by unfold Xdesk_doCommand; first | simp only [eq_true c_12, hw_24, eq_false s_28_37, eq_false s_28_42, eq_false s_28_43, eq_false s_28_45, eq_true s_28_47, hw_201, ↓reduceIte] | rfl)) (fun u_201 H locs hw_201 G => ?_)
      refine lv_goto (tgt := 253) hx hb dX4_doCommand_204 (by decide) ?_
      exact xq_ret (x_vret X G hr hlocks (by unfold Xdesk_doCommand; first | simp only [eq_true c_12, hw_24, eq_false s_28_37, eq_false s_28_42, eq_false s_28_43, eq_false s_28_45, eq_true s_28_47, hw_201, ↓reduceIte] | rfl) dX4_doCommand_253)
    by_cases s_28_60 : (Xnest_look σ) = 60
    · refine lv_lookup (off := 195) (tgt := 223) hx hb dX4_doCommand_28 (by decide) (by rw [s_28_60]; rfl) (by decide) ?_
      refine lv_aload_n hx hb dX4_doCommand_223 rfl (lv_at hl 1 rfl) ?_
      refine lv_iload_n hx hb dX4_doCommand_224 rfl (lv_at hl 0 rfl) ?_
      refine y_callv (As := [.int (Xnest_look σ)]) (rest := []) X hml G hA hEx hlocks xW_desk rfl (c_Xdesk_runIfOrdered l hl9 dC dI kc ad _ u_24 (Xnest_look σ) hv_24) (cwV 1 hts gX4_doCommand_X4_runIfOrdered rfl rfl rfl (by decide +kernel) ⟨Nat.le_of_ble_eq_true rfl, Nat.le_of_ble_eq_true rfl⟩) rfl hl.1 rfl (Nat.le_of_ble_eq_true rfl) dX4_doCommand_225 ⟨Nat.le_of_ble_eq_true rfl, Nat.le_of_ble_eq_true rfl⟩ (fun E u9 hw_225 => (by unfold Xdesk_doCommand; first | simp only [eq_true c_12, hw_24, eq_false s_28_37, eq_false s_28_42, eq_false s_28_43, eq_false s_28_45, eq_false s_28_47, eq_true s_28_60, hw_225, ↓reduceIte] | rfl)) (fun u_225 H locs hw_225 G => ?_)
      refine lv_goto (tgt := 253) hx hb dX4_doCommand_228 (by decide) ?_
      exact xq_ret (x_vret X G hr hlocks (by unfold Xdesk_doCommand; first | simp only [eq_true c_12, hw_24, eq_false s_28_37, eq_false s_28_42, eq_false s_28_43, eq_false s_28_45, eq_false s_28_47, eq_true s_28_60, hw_225, ↓reduceIte] | rfl) dX4_doCommand_253)
    by_cases s_28_61 : (Xnest_look σ) = 61
    · refine lv_lookup (off := 195) (tgt := 223) hx hb dX4_doCommand_28 (by decide) (by rw [s_28_61]; rfl) (by decide) ?_
      refine lv_aload_n hx hb dX4_doCommand_223 rfl (lv_at hl 1 rfl) ?_
      refine lv_iload_n hx hb dX4_doCommand_224 rfl (lv_at hl 0 rfl) ?_
      refine y_callv (As := [.int (Xnest_look σ)]) (rest := []) X hml G hA hEx hlocks xW_desk rfl (c_Xdesk_runIfOrdered l hl9 dC dI kc ad _ u_24 (Xnest_look σ) hv_24) (cwV 1 hts gX4_doCommand_X4_runIfOrdered rfl rfl rfl (by decide +kernel) ⟨Nat.le_of_ble_eq_true rfl, Nat.le_of_ble_eq_true rfl⟩) rfl hl.1 rfl (Nat.le_of_ble_eq_true rfl) dX4_doCommand_225 ⟨Nat.le_of_ble_eq_true rfl, Nat.le_of_ble_eq_true rfl⟩ (fun E u9 hw_225 => (by unfold Xdesk_doCommand; first | simp only [eq_true c_12, hw_24, eq_false s_28_37, eq_false s_28_42, eq_false s_28_43, eq_false s_28_45, eq_false s_28_47, eq_false s_28_60, eq_true s_28_61, hw_225, ↓reduceIte] | rfl)) (fun u_225 H locs hw_225 G => ?_)
      refine lv_goto (tgt := 253) hx hb dX4_doCommand_228 (by decide) ?_
      exact xq_ret (x_vret X G hr hlocks (by unfold Xdesk_doCommand; first | simp only [eq_true c_12, hw_24, eq_false s_28_37, eq_false s_28_42, eq_false s_28_43, eq_false s_28_45, eq_false s_28_47, eq_false s_28_60, eq_true s_28_61, hw_225, ↓reduceIte] | rfl) dX4_doCommand_253)
    by_cases s_28_62 : (Xnest_look σ) = 62
    · refine lv_lookup (off := 195) (tgt := 223) hx hb dX4_doCommand_28 (by decide) (by rw [s_28_62]; rfl) (by decide) ?_
      refine lv_aload_n hx hb dX4_doCommand_223 rfl (lv_at hl 1 rfl) ?_
      refine lv_iload_n hx hb dX4_doCommand_224 rfl (lv_at hl 0 rfl) ?_
      refine y_callv (As := [.int (Xnest_look σ)]) (rest := []) X hml G hA hEx hlocks xW_desk rfl (c_Xdesk_runIfOrdered l hl9 dC dI kc ad _ u_24 (Xnest_look σ) hv_24) (cwV 1 hts gX4_doCommand_X4_runIfOrdered rfl rfl rfl (by decide +kernel) ⟨Nat.le_of_ble_eq_true rfl, Nat.le_of_ble_eq_true rfl⟩) rfl hl.1 rfl (Nat.le_of_ble_eq_true rfl) dX4_doCommand_225 ⟨Nat.le_of_ble_eq_true rfl, Nat.le_of_ble_eq_true rfl⟩ (fun E u9 hw_225 => (by unfold Xdesk_doCommand; first | simp only [eq_true c_12, hw_24, eq_false s_28_37, eq_false s_28_42, eq_false s_28_43, eq_false s_28_45, eq_false s_28_47, eq_false s_28_60, eq_false s_28_61, eq_true s_28_62, hw_225, ↓reduceIte] | rfl)) (fun u_225 H locs hw_225 G => ?_)
      refine lv_goto (tgt := 253) hx hb dX4_doCommand_228 (by decide) ?_
      exact xq_ret (x_vret X G hr hlocks (by unfold Xdesk_doCommand; first | simp only [eq_true c_12, hw_24, eq_false s_28_37, eq_false s_28_42, eq_false s_28_43, eq_false s_28_45, eq_false s_28_47, eq_false s_28_60, eq_false s_28_61, eq_true s_28_62, hw_225, ↓reduceIte] | rfl) dX4_doCommand_253)
    by_cases s_28_76 : (Xnest_look σ) = 76
    · refine lv_lookup (off := 187) (tgt := 215) hx hb dX4_doCommand_28 (by decide) (by rw [s_28_76]; rfl) (by decide) ?_
      refine lv_aload_n hx hb dX4_doCommand_215 rfl (lv_at hl 1 rfl) ?_
      refine lv_iload_n hx hb dX4_doCommand_216 rfl (lv_at hl 0 rfl) ?_
      refine y_callv (As := [.int (Xnest_look σ)]) (rest := []) X hml G hA hEx hlocks xW_desk rfl (c_Xdesk_moveToOrFromRegister l hl9 dC dI kc ad _ u_24 (Xnest_look σ) hv_24) (cwV 1 hts gX4_doCommand_X4_moveToOrFromRegister rfl rfl rfl (by decide +kernel) ⟨Nat.le_of_ble_eq_true rfl, Nat.le_of_ble_eq_true rfl⟩) rfl hl.1 rfl (Nat.le_of_ble_eq_true rfl) dX4_doCommand_217 ⟨Nat.le_of_ble_eq_true rfl, Nat.le_of_ble_eq_true rfl⟩ (fun E u9 hw_217 => (by unfold Xdesk_doCommand; first | simp only [eq_true c_12, hw_24, eq_false s_28_37, eq_false s_28_42, eq_false s_28_43, eq_false s_28_45, eq_false s_28_47, eq_false s_28_60, eq_false s_28_61, eq_false s_28_62, eq_true s_28_76, hw_217, ↓reduceIte] | rfl)) (fun u_217 H locs hw_217 G => ?_)
      refine lv_goto (tgt := 253) hx hb dX4_doCommand_220 (by decide) ?_
      exact xq_ret (x_vret X G hr hlocks (by unfold Xdesk_doCommand; first | simp only [eq_true c_12, hw_24, eq_false s_28_37, eq_false s_28_42, eq_false s_28_43, eq_false s_28_45, eq_false s_28_47, eq_false s_28_60, eq_false s_28_61, eq_false s_28_62, eq_true s_28_76, hw_217, ↓reduceIte] | rfl) dX4_doCommand_253)
    by_cases s_28_83 : (Xnest_look σ) = 83
    · refine lv_lookup (off := 187) (tgt := 215) hx hb dX4_doCommand_28 (by decide) (by rw [s_28_83]; rfl) (by decide) ?_
      refine lv_aload_n hx hb dX4_doCommand_215 rfl (lv_at hl 1 rfl) ?_
      refine lv_iload_n hx hb dX4_doCommand_216 rfl (lv_at hl 0 rfl) ?_
      refine y_callv (As := [.int (Xnest_look σ)]) (rest := []) X hml G hA hEx hlocks xW_desk rfl (c_Xdesk_moveToOrFromRegister l hl9 dC dI kc ad _ u_24 (Xnest_look σ) hv_24) (cwV 1 hts gX4_doCommand_X4_moveToOrFromRegister rfl rfl rfl (by decide +kernel) ⟨Nat.le_of_ble_eq_true rfl, Nat.le_of_ble_eq_true rfl⟩) rfl hl.1 rfl (Nat.le_of_ble_eq_true rfl) dX4_doCommand_217 ⟨Nat.le_of_ble_eq_true rfl, Nat.le_of_ble_eq_true rfl⟩ (fun E u9 hw_217 => (by unfold Xdesk_doCommand; first | simp only [eq_true c_12, hw_24, eq_false s_28_37, eq_false s_28_42, eq_false s_28_43, eq_false s_28_45, eq_false s_28_47, eq_false s_28_60, eq_false s_28_61, eq_false s_28_62, eq_false s_28_76, eq_true s_28_83, hw_217, ↓reduceIte] | rfl)) (fun u_217 H locs hw_217 G => ?_)
      refine lv_goto (tgt := 253) hx hb dX4_doCommand_220 (by decide) ?_
      exact xq_ret (x_vret X G hr hlocks (by unfold Xdesk_doCommand; first | simp only [eq_true c_12, hw_24, eq_false s_28_37, eq_false s_28_42, eq_false s_28_43, eq_false s_28_45, eq_false s_28_47, eq_false s_28_60, eq_false s_28_61, eq_false s_28_62, eq_false s_28_76, eq_true s_28_83, hw_217, ↓reduceIte] | rfl) dX4_doCommand_253)
    by_cases s_28_88 : (Xnest_look σ) = 88
    · refine lv_lookup (off := 179) (tgt := 207) hx hb dX4_doCommand_28 (by decide) (by rw [s_28_88]; rfl) (by decide) ?_
      refine lv_aload_n hx hb dX4_doCommand_207 rfl (lv_at hl 1 rfl) ?_
      refine lv_iload_n hx hb dX4_doCommand_208 rfl (lv_at hl 0 rfl) ?_
      refine y_callv (As := [.int (Xnest_look σ)]) (rest := []) X hml G hA hEx hlocks xW_desk rfl (c_Xdesk_changeNumber l hl9 dC dI kc ad _ u_24 (Xnest_look σ) hv_24) (cwV 1 hts gX4_doCommand_X4_changeNumber rfl rfl rfl (by decide +kernel) ⟨Nat.le_of_ble_eq_true rfl, Nat.le_of_ble_eq_true rfl⟩) rfl hl.1 rfl (Nat.le_of_ble_eq_true rfl) dX4_doCommand_209 ⟨Nat.le_of_ble_eq_true rfl, Nat.le_of_ble_eq_true rfl⟩ (fun E u9 hw_209 => (by unfold Xdesk_doCommand; first | simp only [eq_true c_12, hw_24, eq_false s_28_37, eq_false s_28_42, eq_false s_28_43, eq_false s_28_45, eq_false s_28_47, eq_false s_28_60, eq_false s_28_61, eq_false s_28_62, eq_false s_28_76, eq_false s_28_83, eq_true s_28_88, hw_209, ↓reduceIte] | rfl)) (fun u_209 H locs hw_209 G => ?_)
      refine lv_goto (tgt := 253) hx hb dX4_doCommand_212 (by decide) ?_
      exact xq_ret (x_vret X G hr hlocks (by unfold Xdesk_doCommand; first | simp only [eq_true c_12, hw_24, eq_false s_28_37, eq_false s_28_42, eq_false s_28_43, eq_false s_28_45, eq_false s_28_47, eq_false s_28_60, eq_false s_28_61, eq_false s_28_62, eq_false s_28_76, eq_false s_28_83, eq_true s_28_88, hw_209, ↓reduceIte] | rfl) dX4_doCommand_253)
    by_cases s_28_91 : (Xnest_look σ) = 91
    · refine lv_lookup (off := 164) (tgt := 192) hx hb dX4_doCommand_28 (by decide) (by rw [s_28_91]; rfl) (by decide) ?_
      refine lv_aload_n hx hb dX4_doCommand_192 rfl (lv_at hl 1 rfl) ?_
      refine y_callv (As := []) (rest := []) X hml G hA hEx hlocks xW_desk rfl (c_Xdesk_putWrittenText l hl9 dC dI kc ad _ u_24 hv_24) (cwV 0 hts gX4_doCommand_X4_putWrittenText rfl rfl rfl (by decide +kernel) ⟨Nat.le_of_ble_eq_true rfl, Nat.le_of_ble_eq_true rfl⟩) rfl hl.1 rfl (Nat.le_of_ble_eq_true rfl) dX4_doCommand_193 ⟨Nat.le_of_ble_eq_true rfl, Nat.le_of_ble_eq_true rfl⟩ (fun E u9 hw_193 => (by unfold Xdesk_doCommand; first | simp only [eq_true c_12, hw_24, eq_false s_28_37, eq_false s_28_42, eq_false s_28_43, eq_false s_28_45, eq_false s_28_47, eq_false s_28_60, eq_false s_28_61, eq_false s_28_62, eq_false s_28_76, eq_false s_28_83, eq_false s_28_88, eq_true s_28_91, hw_193, ↓reduceIte] | rfl)) (fun u_193 H locs hw_193 G => ?_)
      refine lv_goto (tgt := 253) hx hb dX4_doCommand_196 (by decide) ?_
      exact xq_ret (x_vret X G hr hlocks (by unfold Xdesk_doCommand; first | simp only [eq_true c_12, hw_24, eq_false s_28_37, eq_false s_28_42, eq_false s_28_43, eq_false s_28_45, eq_false s_28_47, eq_false s_28_60, eq_false s_28_61, eq_false s_28_62, eq_false s_28_76, eq_false s_28_83, eq_false s_28_88, eq_true s_28_91, hw_193, ↓reduceIte] | rfl) dX4_doCommand_253)
    by_cases s_28_107 : (Xnest_look σ) = 107
    · refine lv_lookup (off := 179) (tgt := 207) hx hb dX4_doCommand_28 (by decide) (by rw [s_28_107]; rfl) (by decide) ?_
      refine lv_aload_n hx hb dX4_doCommand_207 rfl (lv_at hl 1 rfl) ?_
      refine lv_iload_n hx hb dX4_doCommand_208 rfl (lv_at hl 0 rfl) ?_
      refine y_callv (As := [.int (Xnest_look σ)]) (rest := []) X hml G hA hEx hlocks xW_desk rfl (c_Xdesk_changeNumber l hl9 dC dI kc ad _ u_24 (Xnest_look σ) hv_24) (cwV 1 hts gX4_doCommand_X4_changeNumber rfl rfl rfl (by decide +kernel) ⟨Nat.le_of_ble_eq_true rfl, Nat.le_of_ble_eq_true rfl⟩) rfl hl.1 rfl (Nat.le_of_ble_eq_true rfl) dX4_doCommand_209 ⟨Nat.le_of_ble_eq_true rfl, Nat.le_of_ble_eq_true rfl⟩ (fun E u9 hw_209 => (by unfold Xdesk_doCommand; first | simp only [eq_true c_12, hw_24, eq_false s_28_37, eq_false s_28_42, eq_false s_28_43, eq_false s_28_45, eq_false s_28_47, eq_false s_28_60, eq_false s_28_61, eq_false s_28_62, eq_false s_28_76, eq_false s_28_83, eq_false s_28_88, eq_false s_28_91, eq_true s_28_107, hw_209, ↓reduceIte] | rfl)) (fun u_209 H locs hw_209 G => ?_)
      refine lv_goto (tgt := 253) hx hb dX4_doCommand_212 (by decide) ?_
      exact xq_ret (x_vret X G hr hlocks (by unfold Xdesk_doCommand; first | simp only [eq_true c_12, hw_24, eq_false s_28_37, eq_false s_28_42, eq_false s_28_43, eq_false s_28_45, eq_false s_28_47, eq_false s_28_60, eq_false s_28_61, eq_false s_28_62, eq_false s_28_76, eq_false s_28_83, eq_false s_28_88, eq_false s_28_91, eq_true s_28_107, hw_209, ↓reduceIte] | rfl) dX4_doCommand_253)
    by_cases s_28_108 : (Xnest_look σ) = 108
    · refine lv_lookup (off := 187) (tgt := 215) hx hb dX4_doCommand_28 (by decide) (by rw [s_28_108]; rfl) (by decide) ?_
      refine lv_aload_n hx hb dX4_doCommand_215 rfl (lv_at hl 1 rfl) ?_
      refine lv_iload_n hx hb dX4_doCommand_216 rfl (lv_at hl 0 rfl) ?_
      refine y_callv (As := [.int (Xnest_look σ)]) (rest := []) X hml G hA hEx hlocks xW_desk rfl (c_Xdesk_moveToOrFromRegister l hl9 dC dI kc ad _ u_24 (Xnest_look σ) hv_24) (cwV 1 hts gX4_doCommand_X4_moveToOrFromRegister rfl rfl rfl (by decide +kernel) ⟨Nat.le_of_ble_eq_true rfl, Nat.le_of_ble_eq_true rfl⟩) rfl hl.1 rfl (Nat.le_of_ble_eq_true rfl) dX4_doCommand_217 ⟨Nat.le_of_ble_eq_true rfl, Nat.le_of_ble_eq_true rfl⟩ (fun E u9 hw_217 => (by unfold Xdesk_doCommand; first | simp only [eq_true c_12, hw_24, eq_false s_28_37, eq_false s_28_42, eq_false s_28_43, eq_false s_28_45, eq_false s_28_47, eq_false s_28_60, eq_false s_28_61, eq_false s_28_62, eq_false s_28_76, eq_false s_28_83, eq_false s_28_88, eq_false s_28_91, eq_false s_28_107, eq_true s_28_108, hw_217, ↓reduceIte] | rfl)) (fun u_217 H locs hw_217 G => ?_)
      refine lv_goto (tgt := 253) hx hb dX4_doCommand_220 (by decide) ?_
      exact xq_ret (x_vret X G hr hlocks (by unfold Xdesk_doCommand; first | simp only [eq_true c_12, hw_24, eq_false s_28_37, eq_false s_28_42, eq_false s_28_43, eq_false s_28_45, eq_false s_28_47, eq_false s_28_60, eq_false s_28_61, eq_false s_28_62, eq_false s_28_76, eq_false s_28_83, eq_false s_28_88, eq_false s_28_91, eq_false s_28_107, eq_true s_28_108, hw_217, ↓reduceIte] | rfl) dX4_doCommand_253)
    by_cases s_28_113 : (Xnest_look σ) = 113
    · refine lv_lookup (off := 210) (tgt := 238) hx hb dX4_doCommand_28 (by decide) (by rw [s_28_113]; rfl) (by decide) ?_
      refine lv_aload_n hx hb dX4_doCommand_238 rfl (lv_at hl 1 rfl) ?_
      refine x_dget_3 X G hin4 (by decide +kernel) dX4_doCommand_239 ?_
      refine x_callv (As := []) (rest := []) X hml G hA xW_nest rfl (c_Xnest_leaveAll l dC dI kc ad _ u_24) (cwV 0 hts gX4_doCommand_X1_leaveAll rfl rfl rfl (by decide +kernel) ⟨Nat.le_of_ble_eq_true rfl, Nat.le_of_ble_eq_true rfl⟩) rfl hl.1 rfl (Nat.le_of_ble_eq_true rfl) dX4_doCommand_242 ⟨Nat.zero_le _, Nat.zero_le _⟩ (fun u_242 H locs hw_242 G => ?_)
      have hv_242 : xWF u_242 := by have h9 : xWF (Xnest_leaveAll u_24) := leaveAll_wf hv_24; rw [hw_242] at h9; exact h9
      refine lv_goto (tgt := 253) hx hb dX4_doCommand_245 (by decide) ?_
      exact xq_ret (x_vret X G hr hlocks (by unfold Xdesk_doCommand; first | simp only [eq_true c_12, hw_24, eq_false s_28_37, eq_false s_28_42, eq_false s_28_43, eq_false s_28_45, eq_false s_28_47, eq_false s_28_60, eq_false s_28_61, eq_false s_28_62, eq_false s_28_76, eq_false s_28_83, eq_false s_28_88, eq_false s_28_91, eq_false s_28_107, eq_false s_28_108, eq_true s_28_113, hw_242, ↓reduceIte] | rfl) dX4_doCommand_253)
    by_cases s_28_115 : (Xnest_look σ) = 115
    · refine lv_lookup (off := 187) (tgt := 215) hx hb dX4_doCommand_28 (by decide) (by rw [s_28_115]; rfl) (by decide) ?_
      refine lv_aload_n hx hb dX4_doCommand_215 rfl (lv_at hl 1 rfl) ?_
      refine lv_iload_n hx hb dX4_doCommand_216 rfl (lv_at hl 0 rfl) ?_
      refine y_callv (As := [.int (Xnest_look σ)]) (rest := []) X hml G hA hEx hlocks xW_desk rfl (c_Xdesk_moveToOrFromRegister l hl9 dC dI kc ad _ u_24 (Xnest_look σ) hv_24) (cwV 1 hts gX4_doCommand_X4_moveToOrFromRegister rfl rfl rfl (by decide +kernel) ⟨Nat.le_of_ble_eq_true rfl, Nat.le_of_ble_eq_true rfl⟩) rfl hl.1 rfl (Nat.le_of_ble_eq_true rfl) dX4_doCommand_217 ⟨Nat.le_of_ble_eq_true rfl, Nat.le_of_ble_eq_true rfl⟩ (fun E u9 hw_217 => (by unfold Xdesk_doCommand; first | simp only [eq_true c_12, hw_24, eq_false s_28_37, eq_false s_28_42, eq_false s_28_43, eq_false s_28_45, eq_false s_28_47, eq_false s_28_60, eq_false s_28_61, eq_false s_28_62, eq_false s_28_76, eq_false s_28_83, eq_false s_28_88, eq_false s_28_91, eq_false s_28_107, eq_false s_28_108, eq_false s_28_113, eq_true s_28_115, hw_217, ↓reduceIte] | rfl)) (fun u_217 H locs hw_217 G => ?_)
      refine lv_goto (tgt := 253) hx hb dX4_doCommand_220 (by decide) ?_
      exact xq_ret (x_vret X G hr hlocks (by unfold Xdesk_doCommand; first | simp only [eq_true c_12, hw_24, eq_false s_28_37, eq_false s_28_42, eq_false s_28_43, eq_false s_28_45, eq_false s_28_47, eq_false s_28_60, eq_false s_28_61, eq_false s_28_62, eq_false s_28_76, eq_false s_28_83, eq_false s_28_88, eq_false s_28_91, eq_false s_28_107, eq_false s_28_108, eq_false s_28_113, eq_true s_28_115, hw_217, ↓reduceIte] | rfl) dX4_doCommand_253)
    by_cases s_28_118 : (Xnest_look σ) = 118
    · refine lv_lookup (off := 179) (tgt := 207) hx hb dX4_doCommand_28 (by decide) (by rw [s_28_118]; rfl) (by decide) ?_
      refine lv_aload_n hx hb dX4_doCommand_207 rfl (lv_at hl 1 rfl) ?_
      refine lv_iload_n hx hb dX4_doCommand_208 rfl (lv_at hl 0 rfl) ?_
      refine y_callv (As := [.int (Xnest_look σ)]) (rest := []) X hml G hA hEx hlocks xW_desk rfl (c_Xdesk_changeNumber l hl9 dC dI kc ad _ u_24 (Xnest_look σ) hv_24) (cwV 1 hts gX4_doCommand_X4_changeNumber rfl rfl rfl (by decide +kernel) ⟨Nat.le_of_ble_eq_true rfl, Nat.le_of_ble_eq_true rfl⟩) rfl hl.1 rfl (Nat.le_of_ble_eq_true rfl) dX4_doCommand_209 ⟨Nat.le_of_ble_eq_true rfl, Nat.le_of_ble_eq_true rfl⟩ (fun E u9 hw_209 => (by unfold Xdesk_doCommand; first | simp only [eq_true c_12, hw_24, eq_false s_28_37, eq_false s_28_42, eq_false s_28_43, eq_false s_28_45, eq_false s_28_47, eq_false s_28_60, eq_false s_28_61, eq_false s_28_62, eq_false s_28_76, eq_false s_28_83, eq_false s_28_88, eq_false s_28_91, eq_false s_28_107, eq_false s_28_108, eq_false s_28_113, eq_false s_28_115, eq_true s_28_118, hw_209, ↓reduceIte] | rfl)) (fun u_209 H locs hw_209 G => ?_)
      refine lv_goto (tgt := 253) hx hb dX4_doCommand_212 (by decide) ?_
      exact xq_ret (x_vret X G hr hlocks (by unfold Xdesk_doCommand; first | simp only [eq_true c_12, hw_24, eq_false s_28_37, eq_false s_28_42, eq_false s_28_43, eq_false s_28_45, eq_false s_28_47, eq_false s_28_60, eq_false s_28_61, eq_false s_28_62, eq_false s_28_76, eq_false s_28_83, eq_false s_28_88, eq_false s_28_91, eq_false s_28_107, eq_false s_28_108, eq_false s_28_113, eq_false s_28_115, eq_true s_28_118, hw_209, ↓reduceIte] | rfl) dX4_doCommand_253)
    by_cases s_28_120 : (Xnest_look σ) = 120
    · refine lv_lookup (off := 203) (tgt := 231) hx hb dX4_doCommand_28 (by decide) (by rw [s_28_120]; rfl) (by decide) ?_
      refine lv_aload_n hx hb dX4_doCommand_231 rfl (lv_at hl 1 rfl) ?_
      refine y_callv (As := []) (rest := []) X hml G hA hEx hlocks xW_desk rfl (c_Xdesk_runTop l hl9 dC dI kc ad _ u_24 hv_24) (cwV 0 hts gX4_doCommand_X4_runTop rfl rfl rfl (by decide +kernel) ⟨Nat.le_of_ble_eq_true rfl, Nat.le_of_ble_eq_true rfl⟩) rfl hl.1 rfl (Nat.le_of_ble_eq_true rfl) dX4_doCommand_232 ⟨Nat.le_of_ble_eq_true rfl, Nat.le_of_ble_eq_true rfl⟩ (fun E u9 hw_232 => (by unfold Xdesk_doCommand; first | simp only [eq_true c_12, hw_24, eq_false s_28_37, eq_false s_28_42, eq_false s_28_43, eq_false s_28_45, eq_false s_28_47, eq_false s_28_60, eq_false s_28_61, eq_false s_28_62, eq_false s_28_76, eq_false s_28_83, eq_false s_28_88, eq_false s_28_91, eq_false s_28_107, eq_false s_28_108, eq_false s_28_113, eq_false s_28_115, eq_false s_28_118, eq_true s_28_120, hw_232, ↓reduceIte] | rfl)) (fun u_232 H locs hw_232 G => ?_)
      refine lv_goto (tgt := 253) hx hb dX4_doCommand_235 (by decide) ?_
      exact xq_ret (x_vret X G hr hlocks (by unfold Xdesk_doCommand; first | simp only [eq_true c_12, hw_24, eq_false s_28_37, eq_false s_28_42, eq_false s_28_43, eq_false s_28_45, eq_false s_28_47, eq_false s_28_60, eq_false s_28_61, eq_false s_28_62, eq_false s_28_76, eq_false s_28_83, eq_false s_28_88, eq_false s_28_91, eq_false s_28_107, eq_false s_28_108, eq_false s_28_113, eq_false s_28_115, eq_false s_28_118, eq_true s_28_120, hw_232, ↓reduceIte] | rfl) dX4_doCommand_253)
    by_cases s_28_126 : (Xnest_look σ) = 126
    · refine lv_lookup (off := 179) (tgt := 207) hx hb dX4_doCommand_28 (by decide) (by rw [s_28_126]; rfl) (by decide) ?_
      refine lv_aload_n hx hb dX4_doCommand_207 rfl (lv_at hl 1 rfl) ?_
      refine lv_iload_n hx hb dX4_doCommand_208 rfl (lv_at hl 0 rfl) ?_
      refine y_callv (As := [.int (Xnest_look σ)]) (rest := []) X hml G hA hEx hlocks xW_desk rfl (c_Xdesk_changeNumber l hl9 dC dI kc ad _ u_24 (Xnest_look σ) hv_24) (cwV 1 hts gX4_doCommand_X4_changeNumber rfl rfl rfl (by decide +kernel) ⟨Nat.le_of_ble_eq_true rfl, Nat.le_of_ble_eq_true rfl⟩) rfl hl.1 rfl (Nat.le_of_ble_eq_true rfl) dX4_doCommand_209 ⟨Nat.le_of_ble_eq_true rfl, Nat.le_of_ble_eq_true rfl⟩ (fun E u9 hw_209 => (by unfold Xdesk_doCommand; first | simp only [eq_true c_12, hw_24, eq_false s_28_37, eq_false s_28_42, eq_false s_28_43, eq_false s_28_45, eq_false s_28_47, eq_false s_28_60, eq_false s_28_61, eq_false s_28_62, eq_false s_28_76, eq_false s_28_83, eq_false s_28_88, eq_false s_28_91, eq_false s_28_107, eq_false s_28_108, eq_false s_28_113, eq_false s_28_115, eq_false s_28_118, eq_false s_28_120, eq_true s_28_126, hw_209, ↓reduceIte] | rfl)) (fun u_209 H locs hw_209 G => ?_)
      refine lv_goto (tgt := 253) hx hb dX4_doCommand_212 (by decide) ?_
      exact xq_ret (x_vret X G hr hlocks (by unfold Xdesk_doCommand; first | simp only [eq_true c_12, hw_24, eq_false s_28_37, eq_false s_28_42, eq_false s_28_43, eq_false s_28_45, eq_false s_28_47, eq_false s_28_60, eq_false s_28_61, eq_false s_28_62, eq_false s_28_76, eq_false s_28_83, eq_false s_28_88, eq_false s_28_91, eq_false s_28_107, eq_false s_28_108, eq_false s_28_113, eq_false s_28_115, eq_false s_28_118, eq_false s_28_120, eq_true s_28_126, hw_209, ↓reduceIte] | rfl) dX4_doCommand_253)
    refine lv_lookup (off := 220) (tgt := 248) hx hb dX4_doCommand_28 (by decide) (show Op.lookupswitch.offset [(37, 171), (42, 171), (43, 171), (45, 171), (47, 171), (60, 195), (61, 195), (62, 195), (76, 187), (83, 187), (88, 179), (91, 164), (107, 179), (108, 187), (113, 210), (115, 187), (118, 179), (120, 203), (126, 179)] 220 (Xnest_look σ).toInt = 220 by rw [lv_osw s_28_37 (by decide), lv_osw s_28_42 (by decide), lv_osw s_28_43 (by decide), lv_osw s_28_45 (by decide), lv_osw s_28_47 (by decide), lv_osw s_28_60 (by decide), lv_osw s_28_61 (by decide), lv_osw s_28_62 (by decide), lv_osw s_28_76 (by decide), lv_osw s_28_83 (by decide), lv_osw s_28_88 (by decide), lv_osw s_28_91 (by decide), lv_osw s_28_107 (by decide), lv_osw s_28_108 (by decide), lv_osw s_28_113 (by decide), lv_osw s_28_115 (by decide), lv_osw s_28_118 (by decide), lv_osw s_28_120 (by decide), lv_osw s_28_126 (by decide)]; rfl) (by decide) ?_
    refine lv_aload_n hx hb dX4_doCommand_248 rfl (lv_at hl 1 rfl) ?_
    refine lv_iload_n hx hb dX4_doCommand_249 rfl (lv_at hl 0 rfl) ?_
    refine y_callv (As := [.int (Xnest_look σ)]) (rest := []) X hml G hA hEx hlocks xW_desk rfl (c_Xdesk_arrangeStack l hl9 dC dI kc ad _ u_24 (Xnest_look σ) hv_24) (cwV 1 hts gX4_doCommand_X4_arrangeStack rfl rfl rfl (by decide +kernel) ⟨Nat.le_of_ble_eq_true rfl, Nat.le_of_ble_eq_true rfl⟩) rfl hl.1 rfl (Nat.le_of_ble_eq_true rfl) dX4_doCommand_250 ⟨Nat.le_of_ble_eq_true rfl, Nat.le_of_ble_eq_true rfl⟩ (fun E u9 hw_250 => (by unfold Xdesk_doCommand; first | simp only [eq_true c_12, hw_24, eq_false s_28_37, eq_false s_28_42, eq_false s_28_43, eq_false s_28_45, eq_false s_28_47, eq_false s_28_60, eq_false s_28_61, eq_false s_28_62, eq_false s_28_76, eq_false s_28_83, eq_false s_28_88, eq_false s_28_91, eq_false s_28_107, eq_false s_28_108, eq_false s_28_113, eq_false s_28_115, eq_false s_28_118, eq_false s_28_120, eq_false s_28_126, hw_250, ↓reduceIte] | rfl)) (fun u_250 H locs hw_250 G => ?_)
    exact xq_ret (x_vret X G hr hlocks (by unfold Xdesk_doCommand; first | simp only [eq_true c_12, hw_24, eq_false s_28_37, eq_false s_28_42, eq_false s_28_43, eq_false s_28_45, eq_false s_28_47, eq_false s_28_60, eq_false s_28_61, eq_false s_28_62, eq_false s_28_76, eq_false s_28_83, eq_false s_28_88, eq_false s_28_91, eq_false s_28_107, eq_false s_28_108, eq_false s_28_113, eq_false s_28_115, eq_false s_28_118, eq_false s_28_120, eq_false s_28_126, hw_250, ↓reduceIte] | rfl) dX4_doCommand_253)
  · have c_12 : ¬ ((Xd_beginsNumber (Xnest_look σ)) = 0) := c_12
    refine lv_aload_n hx hb dX4_doCommand_15 rfl (lv_at hl 1 rfl) ?_
    refine y_callv (As := []) (rest := []) X hml G hA hEx hlocks xW_desk rfl (c_Xdesk_putWrittenNumber l hl9 dC dI kc ad _ σ hrv) (cwV 0 hts gX4_doCommand_X4_putWrittenNumber rfl rfl rfl (by decide +kernel) ⟨Nat.le_of_ble_eq_true rfl, Nat.le_of_ble_eq_true rfl⟩) rfl hl.1 rfl (Nat.le_of_ble_eq_true rfl) dX4_doCommand_16 ⟨Nat.le_of_ble_eq_true rfl, Nat.le_of_ble_eq_true rfl⟩ (fun E u9 hw_16 => (by unfold Xdesk_doCommand; first | simp only [eq_false c_12, hw_16, ↓reduceIte] | rfl)) (fun u_16 H locs hw_16 G => ?_)
    exact xq_ret (x_vret X G hr hlocks (by unfold Xdesk_doCommand; first | simp only [eq_false c_12, hw_16, ↓reduceIte] | rfl) dX4_doCommand_19)
set_option maxHeartbeats 2000000 in
theorem moveTo_wf {σ u : XS} {k0 : Int32} (h : xWF σ) (hw : Xdesk_moveToOrFromRegister σ k0 = .inr u) : xWF u := by
  unfold Xdesk_moveToOrFromRegister at hw
  simp only at hw
  repeat' split at hw
  all_goals first
    | with_reducible exact no_lr hw
    | (have hw := Sum.inr.inj hw; subst hw; first
      | with_reducible exact drop_wf (putTopOf_wf (drop_wf (regOf_wf h (by assumption))) (by assumption))
      | with_reducible exact drop_wf (putTopOf_wf (regOf_wf h (by assumption)) (by assumption)))
theorem runTop_wf {σ u : XS} (h : xWF σ) (hw : Xdesk_runTop σ = .inr u) : xWF u := by
  unfold Xdesk_runTop at hw
  simp only at hw
  split at hw
  · cases hw
  · split at hw
    · injection hw with hw; subst hw; exact h
    · rename_i h9
      split at hw
      · cases hw
      · rename_i h8; injection hw with hw; subst hw; exact drop_wf (enterMacro_wf h (fun n hn => by cases hn; exact rowAt_v h _ h9) h8)
set_option maxHeartbeats 2000000 in
theorem runIfOrdered_wf {σ u : XS} {k0 : Int32} (h : xWF σ) (hw : Xdesk_runIfOrdered σ k0 = .inr u) : xWF u := by
  unfold Xdesk_runIfOrdered at hw
  simp only at hw
  split at hw
  · exact no_lr hw
  · rename_i h1
    have h := regOf_wf h h1
    repeat' split at hw
    all_goals first
      | with_reducible exact no_lr hw
      | (have hw := Sum.inr.inj hw; subst hw; first
        | with_reducible exact drop_wf h
        | (rename_i n9 h9 x9 u9 h8; exact drop_wf (enterMacro_wf h (fun n hn => by cases hn; exact rowAt_v h _ h9) h8)))
set_option maxHeartbeats 2000000 in
theorem pwnL_wf : ∀ (fu : Nat) (g0 : Int32) (b0 : Int64) (d0 p0 q0 i0 : Int32) (τ u : XS), xWF τ → Xdesk_putWrittenNumber_L43 fu g0 b0 d0 p0 q0 i0 τ = .inr u → xWF u := by
  intro fu
  induction fu with
  | zero => intro g0 b0 d0 p0 q0 i0 τ u h hw; simp only [Xdesk_putWrittenNumber_L43] at hw; injection hw with hw; subst hw; exact h
  | succ fu ih =>
    intro g0 b0 d0 p0 q0 i0 τ u h hw
    simp only [Xdesk_putWrittenNumber_L43] at hw
    repeat' split at hw
    all_goals first
      | with_reducible exact no_lr hw
      | exact ih _ _ _ _ _ _ _ _ (pass_wf h) hw
      | (have hw := Sum.inr.inj hw; subst hw; exact putNumber_wf h (by assumption))
theorem putWrittenNumber_wf {σ u : XS} (h : xWF σ) (hw : Xdesk_putWrittenNumber σ = .inr u) : xWF u := by
  unfold Xdesk_putWrittenNumber at hw
  simp only at hw
  split at hw
  · exact pwnL_wf _ _ _ _ _ _ _ _ _ (pass_wf h) hw
  · exact pwnL_wf _ _ _ _ _ _ _ _ _ h hw
set_option maxHeartbeats 2000000 in
theorem pwtL_wf : ∀ (fu : Nat) (r0 : Option Nat) (s0 o0 i0 : Int32) (τ u : XS), xWF τ → (∀ n, r0 = some n → xv τ n) → Xdesk_putWrittenText_L21 fu r0 s0 o0 i0 τ = .inr u → xWF u := by
  intro fu
  induction fu with
  | zero => intro r0 s0 o0 i0 τ u h hr hw; simp only [Xdesk_putWrittenText_L21] at hw; injection hw with hw; subst hw; exact h
  | succ fu ih =>
    intro r0 s0 o0 i0 τ u h hr hw
    simp only [Xdesk_putWrittenText_L21] at hw
    repeat' split at hw
    all_goals first
      | with_reducible exact no_lr hw
      | exact ih _ _ _ _ _ _ (pass_wf h) (fun n h9 => xv_same (by rw [pass_n]) (hr n h9)) hw
      | (have hw := Sum.inr.inj hw; subst hw; exact putText_wf h hr (by assumption))
theorem putWrittenText_wf {σ u : XS} (h : xWF σ) (hw : Xdesk_putWrittenText σ = .inr u) : xWF u := by
  unfold Xdesk_putWrittenText at hw
  exact pwtL_wf _ _ _ _ _ _ _ h (inner_v h) hw
theorem doCommand_wf {σ u : XS} (h : xWF σ) (hw : Xdesk_doCommand σ = .inr u) : xWF u := by
  unfold Xdesk_doCommand at hw
  have hp := pass_wf h
  by_cases c0 : Xd_beginsNumber (Xnest_look σ) = 0
  · rw [if_pos c0] at hw
    revert hw
    generalize Xnest_pass σ = q at hp
    intro hw
    have hw := hw
    by_cases c37 : Xnest_look σ = 37
    · rw [if_pos c37] at hw
      split at hw
      · exact no_lr hw
      · rename_i h9; have hw := Sum.inr.inj hw; rw [← hw]; exact calculate_wf hp h9
    rw [if_neg c37] at hw
    by_cases c42 : Xnest_look σ = 42
    · rw [if_pos c42] at hw
      split at hw
      · exact no_lr hw
      · rename_i h9; have hw := Sum.inr.inj hw; rw [← hw]; exact calculate_wf hp h9
    rw [if_neg c42] at hw
    by_cases c43 : Xnest_look σ = 43
    · rw [if_pos c43] at hw
      split at hw
      · exact no_lr hw
      · rename_i h9; have hw := Sum.inr.inj hw; rw [← hw]; exact calculate_wf hp h9
    rw [if_neg c43] at hw
    by_cases c45 : Xnest_look σ = 45
    · rw [if_pos c45] at hw
      split at hw
      · exact no_lr hw
      · rename_i h9; have hw := Sum.inr.inj hw; rw [← hw]; exact calculate_wf hp h9
    rw [if_neg c45] at hw
    by_cases c47 : Xnest_look σ = 47
    · rw [if_pos c47] at hw
      split at hw
      · exact no_lr hw
      · rename_i h9; have hw := Sum.inr.inj hw; rw [← hw]; exact calculate_wf hp h9
    rw [if_neg c47] at hw
    by_cases c60 : Xnest_look σ = 60
    · rw [if_pos c60] at hw
      split at hw
      · exact no_lr hw
      · rename_i h9; have hw := Sum.inr.inj hw; rw [← hw]; exact runIfOrdered_wf hp h9
    rw [if_neg c60] at hw
    by_cases c61 : Xnest_look σ = 61
    · rw [if_pos c61] at hw
      split at hw
      · exact no_lr hw
      · rename_i h9; have hw := Sum.inr.inj hw; rw [← hw]; exact runIfOrdered_wf hp h9
    rw [if_neg c61] at hw
    by_cases c62 : Xnest_look σ = 62
    · rw [if_pos c62] at hw
      split at hw
      · exact no_lr hw
      · rename_i h9; have hw := Sum.inr.inj hw; rw [← hw]; exact runIfOrdered_wf hp h9
    rw [if_neg c62] at hw
    by_cases c76 : Xnest_look σ = 76
    · rw [if_pos c76] at hw
      split at hw
      · exact no_lr hw
      · rename_i h9; have hw := Sum.inr.inj hw; rw [← hw]; exact moveTo_wf hp h9
    rw [if_neg c76] at hw
    by_cases c83 : Xnest_look σ = 83
    · rw [if_pos c83] at hw
      split at hw
      · exact no_lr hw
      · rename_i h9; have hw := Sum.inr.inj hw; rw [← hw]; exact moveTo_wf hp h9
    rw [if_neg c83] at hw
    by_cases c88 : Xnest_look σ = 88
    · rw [if_pos c88] at hw
      split at hw
      · exact no_lr hw
      · rename_i h9; have hw := Sum.inr.inj hw; rw [← hw]; exact changeNumber_wf hp h9
    rw [if_neg c88] at hw
    by_cases c91 : Xnest_look σ = 91
    · rw [if_pos c91] at hw
      split at hw
      · exact no_lr hw
      · rename_i h9; have hw := Sum.inr.inj hw; rw [← hw]; exact putWrittenText_wf hp h9
    rw [if_neg c91] at hw
    by_cases c107 : Xnest_look σ = 107
    · rw [if_pos c107] at hw
      split at hw
      · exact no_lr hw
      · rename_i h9; have hw := Sum.inr.inj hw; rw [← hw]; exact changeNumber_wf hp h9
    rw [if_neg c107] at hw
    by_cases c108 : Xnest_look σ = 108
    · rw [if_pos c108] at hw
      split at hw
      · exact no_lr hw
      · rename_i h9; have hw := Sum.inr.inj hw; rw [← hw]; exact moveTo_wf hp h9
    rw [if_neg c108] at hw
    by_cases c113 : Xnest_look σ = 113
    · rw [if_pos c113] at hw
      have hw := Sum.inr.inj hw; rw [← hw]; exact leaveAll_wf hp
    rw [if_neg c113] at hw
    by_cases c115 : Xnest_look σ = 115
    · rw [if_pos c115] at hw
      split at hw
      · exact no_lr hw
      · rename_i h9; have hw := Sum.inr.inj hw; rw [← hw]; exact moveTo_wf hp h9
    rw [if_neg c115] at hw
    by_cases c118 : Xnest_look σ = 118
    · rw [if_pos c118] at hw
      split at hw
      · exact no_lr hw
      · rename_i h9; have hw := Sum.inr.inj hw; rw [← hw]; exact changeNumber_wf hp h9
    rw [if_neg c118] at hw
    by_cases c120 : Xnest_look σ = 120
    · rw [if_pos c120] at hw
      split at hw
      · exact no_lr hw
      · rename_i h9; have hw := Sum.inr.inj hw; rw [← hw]; exact runTop_wf hp h9
    rw [if_neg c120] at hw
    by_cases c126 : Xnest_look σ = 126
    · rw [if_pos c126] at hw
      split at hw
      · exact no_lr hw
      · rename_i h9; have hw := Sum.inr.inj hw; rw [← hw]; exact changeNumber_wf hp h9
    rw [if_neg c126] at hw
    split at hw
    · exact no_lr hw
    · rename_i h9; have hw := Sum.inr.inj hw; rw [← hw]; exact arrangeStack_wf hp h9
  · rw [if_neg c0] at hw
    split at hw
    · exact no_lr hw
    · rename_i h9; have hw := Sum.inr.inj hw; rw [← hw]; exact putWrittenNumber_wf h h9
def Xdesk_run_S61 (n0 : Int32) (rc9 : Int32 → XS → (String × XS) ⊕ (Int32 × XS)) (i0 : Int32) (τ : XS) : (String × XS) ⊕ (Int32 × XS) := if 1000000 ≤ i0 then (.inr ((τ.1 1), τ)) else if (τ.1 2) ≤ 0 then (.inr ((τ.1 1), τ)) else let q_81 := Xnest_skipBlanks τ; if (Xnest_look q_81) = 0 then (let q_98 := Xnest_leave q_81; rc9 (i0 + 1) q_98) else if (q_81.1 1) < n0 then ((match Xdesk_doCommand q_81 with | .inl e9 => .inl e9 | .inr u123 => rc9 (i0 + 1) (xi u123 1 ((u123.1 1) + 1)))) else .inl ("java/lang/UnsupportedOperationException", q_81)
def Xdesk_run_L61 (n0 : Int32) : Nat → Int32 → XS → (String × XS) ⊕ (Int32 × XS)
  | 0, _, τ => .inl ("", τ)
  | f + 1, i0, τ => Xdesk_run_S61 n0 (Xdesk_run_L61 n0 f) i0 τ
def Xdesk_run (σ : XS) (n0 : Int32) : (String × XS) ⊕ (Int32 × XS) := if n0 < 0 then (.inl ("java/lang/IllegalArgumentException", σ)) else if n0 ≤ 500 then (let q_25 := Xsh_clear σ 31; let q_37 := Xnest_leaveAll (xi q_25 1 0); (match Xnest_enter q_37 ((some q_37.2.2.2.2.1)) 0 (q_37.1 q_37.2.2.2.2.1) with | .inl e9 => .inl e9 | .inr u56 => Xdesk_run_L61 n0 (1000001) 0 u56)) else .inl ("java/lang/IllegalArgumentException", σ)
set_option maxHeartbeats 4000000 in
set_option maxRecDepth 100000 in
theorem c_Xdesk_run_L61 {p : Program} (l : Launch) (hl9 : l.stackTraces = false) {e : Env} {s : State} {m : MethodId} {below : List Frame} {meth : Method} {c : Code} {dC : Nat → ClassId} {dI : Nat → Nat → Nat} {kc : Nat → ClassId} {ad : Nat → Nat} {sz : Nat} (σ : XS) (n0 : Int32) (hrv : xWF σ) (X : xX p s m ([.ref (ad 0), .int n0] : List Value).toArray c cX4_run wsX4_run dC dI kc RX4 (xA kc ad σ sz)) (hA : ∀ q : Nat, s.heap.size ≤ q → xA kc ad σ sz q) (hr : meth.sig.returnType = (some .int)) (hlocks : meth.locks = false) (hml : c.maxLocals = 3) (hEx : ∀ x ∈ c.exceptionTable.toList, False) :
    ∀ (fu : Nat) (i0 : Int32) (τ : XS), Xdesk_run σ n0 = Xdesk_run_L61 n0 fu i0 τ → (0 ≤ i0.toInt) → (i0.toInt ≤ 1000000) → (1000001 ≤ i0.toInt + (fu : Int)) → (xWF τ) → ∀ (H : Heap) (locs : List Loc), xH dC dI kc ad τ (xA kc ad σ sz) s.heap H locs → ∀ ls : Array Slot, lv_has ls 3 [(0, .ref (ad 0)), (1, .int n0), (2, .int i0)] → W p l e ({ frames := 12, cells := 1, slots := 6, locals := 238 } : Room) s m ([.ref (ad 0), .int n0] : List Value).toArray below meth c H locs 0 0 (xq_MQ below (va_Qi (fun r u => Xdesk_run σ n0 = .inr (r, u)) (xAt dC dI kc ad (xA kc ad σ sz)) (xA kc ad σ sz)) (xE (Xdesk_run σ n0) dC dI kc ad (xA kc ad σ sz)) ([.ref (ad 0), .int n0] : List Value).toArray s 0 0 1 6 (xA kc ad σ sz)) (F0 m 61 ls []) := by
  have hx := X.1
  have hb := X.2.1
  have hts := X.2.2.1
  have hown := X.2.2.2.1
  have hz := X.2.2.2.2.2
  have hin3 : ∀ w ∈ wsX30, w ∈ wsX4_run := (fun w hw => List.mem_cons_of_mem _ (List.mem_append_left _ (List.mem_append_left _ (List.mem_append_left _ (List.mem_append_left _ (List.mem_append_left _ (List.mem_append_left _ (List.mem_append_left _ (List.mem_append_left _ (List.mem_append_right _ hw))))))))))
  have hin2 : ∀ w ∈ wsX20, w ∈ wsX4_run := (fun w hw => List.mem_cons_of_mem _ (List.mem_append_left _ (List.mem_append_left _ (List.mem_append_left _ (List.mem_append_left _ (List.mem_append_left _ (List.mem_append_left _ (List.mem_append_left _ (List.mem_append_left _ (List.mem_append_left _ (List.mem_append_left _ (List.mem_append_right _ hw))))))))))))
  have hin1 : ∀ w ∈ wsX10, w ∈ wsX4_run := (fun w hw => List.mem_cons_of_mem _ (List.mem_append_left _ (List.mem_append_left _ (List.mem_append_left _ (List.mem_append_left _ (List.mem_append_left _ (List.mem_append_left _ (List.mem_append_left _ (List.mem_append_left _ (List.mem_append_left _ (List.mem_append_right _ hw)))))))))))
  have hin4 : ∀ w ∈ wsX40, w ∈ wsX4_run := (fun w hw => List.mem_cons_of_mem _ (List.mem_append_left _ (List.mem_append_left _ (List.mem_append_left _ (List.mem_append_left _ (List.mem_append_left _ (List.mem_append_left _ (List.mem_append_left _ (List.mem_append_left _ (List.mem_append_left _ (List.mem_append_left _ (List.mem_append_left _ (List.mem_append_right _ hw)))))))))))))
  intro fu
  induction fu with
  | zero =>
    intro i0 τ hI hi0 hi1 hi2 hrv
    exact absurd hi2 (by omega)
  | succ fu ih =>
    intro i0 τ hI hi0 hi1 hi2 hrv H locs G ls hl
    refine lv_iload_n hx hb dX4_run_61 rfl (lv_at hl 2 rfl) ?_
    refine lv_ldc (v := 1000000) hx hb hown (hts (.constant RX4 73 (1000000)) (by decide +kernel)) dX4_run_62 ?_
    refine lv_icmp_ge (tgt := 142) hx hb dX4_run_64 (by decide) (fun c_64 => ?_) (fun c_64 => ?_)
    · have c_64 : 1000000 ≤ i0 := c_64
      refine lv_aload_n hx hb dX4_run_142 rfl (lv_at hl 0 rfl) ?_
      refine x_dget_6 X G hin4 (by decide +kernel) dX4_run_143 ?_
      exact xq_ret (x_iret (v := (τ.1 1)) X G hr hlocks (by rw [hI]; simp only [Xdesk_run_L61]; unfold Xdesk_run_S61; first | simp only [eq_true c_64, ↓reduceIte] | rfl) dX4_run_146)
    · have c_64 : ¬ (1000000 ≤ i0) := c_64
      have k_64 : i0.toInt < 1000000 := by have h9 := c_64; rw [Int32.not_le, Int32.lt_iff_toInt_lt] at h9; exact h9
      have e_64 : (i0 + 1).toInt = i0.toInt + 1 := i_addE rfl (show (1 : Int32).toInt = 1 from rfl) (by omega) (by omega)
      refine lv_aload_n hx hb dX4_run_67 rfl (lv_at hl 0 rfl) ?_
      refine x_dget_3 X G hin4 (by decide +kernel) dX4_run_68 ?_
      refine x_nget_3 X G hin1 (by decide +kernel) dX4_run_71 ?_
      refine lv_if_le (tgt := 142) hx hb dX4_run_74 (by decide) (fun c_74 => ?_) (fun c_74 => ?_)
      · have c_74 : (τ.1 2) ≤ 0 := c_74
        refine lv_aload_n hx hb dX4_run_142 rfl (lv_at hl 0 rfl) ?_
        refine x_dget_6 X G hin4 (by decide +kernel) dX4_run_143 ?_
        exact xq_ret (x_iret (v := (τ.1 1)) X G hr hlocks (by rw [hI]; simp only [Xdesk_run_L61]; unfold Xdesk_run_S61; first | simp only [eq_false c_64, eq_true c_74, ↓reduceIte] | rfl) dX4_run_146)
      · have c_74 : ¬ ((τ.1 2) ≤ 0) := c_74
        refine lv_aload_n hx hb dX4_run_77 rfl (lv_at hl 0 rfl) ?_
        refine x_dget_3 X G hin4 (by decide +kernel) dX4_run_78 ?_
        refine x_callv (As := []) (rest := []) X hml G hA xW_nest rfl (c_Xnest_skipBlanks l dC dI kc ad _ τ hrv) (cwV 0 hts gX4_run_X1_skipBlanks rfl rfl rfl (by decide +kernel) ⟨Nat.le_of_ble_eq_true rfl, Nat.le_of_ble_eq_true rfl⟩) rfl hl.1 rfl (Nat.le_of_ble_eq_true rfl) dX4_run_81 ⟨Nat.zero_le _, Nat.zero_le _⟩ (fun u_81 H locs hw_81 G => ?_)
        have hv_81 : xWF u_81 := by have h9 : xWF (Xnest_skipBlanks τ) := skipBlanks_wf hrv; rw [hw_81] at h9; exact h9
        refine lv_aload_n hx hb dX4_run_84 rfl (lv_at hl 0 rfl) ?_
        refine x_dget_3 X G hin4 (by decide +kernel) dX4_run_85 ?_
        refine x_calli (As := []) (rest := []) X hml G hA xW_nest rfl (c_Xnest_look l dC dI kc ad _ u_81 hv_81) (cwV 0 hts gX4_run_X1_look rfl rfl rfl (by decide +kernel) ⟨Nat.le_of_ble_eq_true rfl, Nat.le_of_ble_eq_true rfl⟩) rfl hl.1 rfl (Nat.le_of_ble_eq_true rfl) dX4_run_88 ⟨Nat.zero_le _, Nat.zero_le _⟩ (fun r_88 u_88 H locs hw_88 G => ?_)
        obtain ⟨rfl, hu_88⟩ := hw_88
        rw [hu_88] at G
        refine lv_if_ne (tgt := 104) hx hb dX4_run_91 (by decide) (fun c_91 => ?_) (fun c_91 => ?_)
        · have c_91 : ¬ ((Xnest_look u_81) = 0) := c_91
          refine lv_aload_n hx hb dX4_run_104 rfl (lv_at hl 0 rfl) ?_
          refine x_dget_6 X G hin4 (by decide +kernel) dX4_run_105 ?_
          refine lv_iload_n hx hb dX4_run_108 rfl (lv_at hl 1 rfl) ?_
          refine lv_icmp_lt (tgt := 122) hx hb dX4_run_109 (by decide) (fun c_109 => ?_) (fun c_109 => ?_)
          · have c_109 : (u_81.1 1) < n0 := c_109
            refine lv_aload_n hx hb dX4_run_122 rfl (lv_at hl 0 rfl) ?_
            refine y_callv (As := []) (rest := []) X hml G hA hEx hlocks xW_desk rfl (c_Xdesk_doCommand l hl9 dC dI kc ad _ u_81 hv_81) (cwV 0 hts gX4_run_X4_doCommand rfl rfl rfl (by decide +kernel) ⟨Nat.le_of_ble_eq_true rfl, Nat.le_of_ble_eq_true rfl⟩) rfl hl.1 rfl (Nat.le_of_ble_eq_true rfl) dX4_run_123 ⟨Nat.le_of_ble_eq_true rfl, Nat.le_of_ble_eq_true rfl⟩ (fun E u9 hw_123 => (by rw [hI]; simp only [Xdesk_run_L61]; unfold Xdesk_run_S61; first | simp only [eq_false c_64, eq_false c_74, hw_81, eq_false c_91, eq_true c_109, hw_123, ↓reduceIte] | rfl)) (fun u_123 H locs hw_123 G => ?_)
            have hv_123 : xWF u_123 := doCommand_wf hv_81 hw_123
            refine lv_aload_n hx hb dX4_run_126 rfl (lv_at hl 0 rfl) ?_
            refine lv_dup hx hb dX4_run_127 rfl ?_
            refine x_dget_6 X G hin4 (by decide +kernel) dX4_run_128 ?_
            refine lv_iconst (v := 1) hx hb dX4_run_131 (by decide) ?_
            refine lv_iadd hx hb dX4_run_132 ?_
            refine x_dput_6 X G hin4 (by decide +kernel) dX4_run_133 (fun H locs G => ?_)
            have G : xH dC dI kc ad (xi u_123 1 ((u_123.1 1) + 1)) _ s.heap H locs := G
            refine lv_iinc (v := (i0 + 1)) (lv' := [(2, .int (i0 + 1)), (0, .ref (ad 0)), (1, .int n0)]) hx hb dX4_run_136 hl (k := 2) rfl rfl (by decide) rfl (fun ls hl => ?_)
            refine lv_goto (tgt := 61) hx hb dX4_run_139 (by decide) ?_
            exact ih (i0 + 1) (xi u_123 1 ((u_123.1 1) + 1)) (by rw [hI]; simp only [Xdesk_run_L61]; unfold Xdesk_run_S61; first | simp only [eq_false c_64, eq_false c_74, hw_81, eq_false c_91, eq_true c_109, hw_123, ↓reduceIte] | rfl) (by omega) (by omega) (by omega) hv_123 H locs G ls (lv_sub hl [1, 2, 0] rfl)
          · have c_109 : ¬ ((u_81.1 1) < n0) := c_109
            obtain ⟨sa, hstr⟩ := zstr hz (own := RX4) (k := 89) (text := "the fuel is used up") (by decide +kernel)
            exact xq_thr (vx_throwS (own := RX4) (cls := "java/lang/UnsupportedOperationException") (text := "the fuel is used up") (names := ["java/lang/RuntimeException", "java/lang/Exception"]) hx hb hl9 hown (by decide +kernel) (by decide +kernel) (hts (.classLink RX4 87 "java/lang/UnsupportedOperationException") (by decide +kernel)) (hts (.initialized "java/lang/UnsupportedOperationException") (by decide +kernel)) hstr (zhat hz hts (by decide +kernel) (fun w hw => List.mem_cons_of_mem _ (List.mem_append_left _ (List.mem_append_left _ (List.mem_append_left _ (List.mem_append_left _ (List.mem_append_left _ (List.mem_append_left _ (List.mem_append_right _ hw)))))))) (by decide +kernel)) (by decide +kernel) hz.2.1 hz.2.2.1 G.2.2 (hl.1.trans hml.symm) dX4_run_112 dX4_run_115 dX4_run_116 dX4_run_118 dX4_run_121 (fun x hx => (hEx x hx).elim) (Nat.le_of_ble_eq_true rfl) (Nat.le_of_ble_eq_true rfl) (Nat.le_of_ble_eq_true rfl) (Nat.le_of_ble_eq_true rfl) hlocks (fun t ha hsz hk => ⟨u_81, trivial, ⟨(by rw [hI]; simp only [Xdesk_run_L61]; unfold Xdesk_run_S61; first | simp only [eq_false c_64, eq_false c_74, hw_81, eq_false c_91, eq_false c_109, ↓reduceIte] | rfl), (y_kept X G ha hsz hk).1⟩, (y_kept X G ha hsz hk).2⟩) G.2.2.2.2 (Nat.le_of_ble_eq_true rfl) (Nat.le_of_ble_eq_true rfl))
        · have c_91 : (Xnest_look u_81) = 0 := c_91
          refine lv_aload_n hx hb dX4_run_94 rfl (lv_at hl 0 rfl) ?_
          refine x_dget_3 X G hin4 (by decide +kernel) dX4_run_95 ?_
          refine x_callv (As := []) (rest := []) X hml G hA xW_nest rfl (c_Xnest_leave l dC dI kc ad _ u_81) (cwV 0 hts gX4_run_X1_leave rfl rfl rfl (by decide +kernel) ⟨Nat.le_of_ble_eq_true rfl, Nat.le_of_ble_eq_true rfl⟩) rfl hl.1 rfl (Nat.le_of_ble_eq_true rfl) dX4_run_98 ⟨Nat.zero_le _, Nat.zero_le _⟩ (fun u_98 H locs hw_98 G => ?_)
          have hv_98 : xWF u_98 := by have h9 : xWF (Xnest_leave u_81) := leave_wf hv_81; rw [hw_98] at h9; exact h9
          refine lv_goto (tgt := 136) hx hb dX4_run_101 (by decide) ?_
          refine lv_iinc (v := (i0 + 1)) (lv' := [(2, .int (i0 + 1)), (0, .ref (ad 0)), (1, .int n0)]) hx hb dX4_run_136 hl (k := 2) rfl rfl (by decide) rfl (fun ls hl => ?_)
          refine lv_goto (tgt := 61) hx hb dX4_run_139 (by decide) ?_
          exact ih (i0 + 1) u_98 (by rw [hI]; simp only [Xdesk_run_L61]; unfold Xdesk_run_S61; first | simp only [eq_false c_64, eq_false c_74, hw_81, eq_true c_91, hw_98, ↓reduceIte] | rfl) (by omega) (by omega) (by omega) hv_98 H locs G ls (lv_sub hl [1, 2, 0] rfl)
set_option maxHeartbeats 4000000 in
set_option maxRecDepth 100000 in
theorem c_Xdesk_run (l : Launch) (hl9 : l.stackTraces = false) (dC : Nat → ClassId) (dI : Nat → Nat → Nat) (kc : Nat → ClassId) (ad : Nat → Nat) (sz : Nat) (σ : XS) (n0 : Int32) (hrv : xWF σ) : xq_Met l yX4_run wsX4_run ({ frames := 12, cells := 1, slots := 6, locals := 238 } : Room) (va_Pc [.ref (ad 0), .int n0] (xPre dC dI kc ad sz σ)) (va_Qi (fun r u => Xdesk_run σ n0 = .inr (r, u)) (xAt dC dI kc ad (xA kc ad σ sz)) (xA kc ad σ sz)) (xE (Xdesk_run σ n0) dC dI kc ad (xA kc ad σ sz)) 0 0 1 6 (xA kc ad σ sz) := by
  refine y_ofW (cc := cX4_run) (maxL := 3) (ret := (some .int)) (by decide) rfl rfl (Nat.le_of_ble_eq_true rfl) ?_
  intro p e s m below meth c X G hA hr hlocks hml hEx ls hl
  have hl : lv_has ls 3 [(0, .ref (ad 0)), (1, .int n0)] := hl
  have hx := X.1
  have hb := X.2.1
  have hts := X.2.2.1
  have hown := X.2.2.2.1
  have hz := X.2.2.2.2.2
  have hin3 : ∀ w ∈ wsX30, w ∈ wsX4_run := (fun w hw => List.mem_cons_of_mem _ (List.mem_append_left _ (List.mem_append_left _ (List.mem_append_left _ (List.mem_append_left _ (List.mem_append_left _ (List.mem_append_left _ (List.mem_append_left _ (List.mem_append_left _ (List.mem_append_right _ hw))))))))))
  have hin2 : ∀ w ∈ wsX20, w ∈ wsX4_run := (fun w hw => List.mem_cons_of_mem _ (List.mem_append_left _ (List.mem_append_left _ (List.mem_append_left _ (List.mem_append_left _ (List.mem_append_left _ (List.mem_append_left _ (List.mem_append_left _ (List.mem_append_left _ (List.mem_append_left _ (List.mem_append_left _ (List.mem_append_right _ hw))))))))))))
  have hin1 : ∀ w ∈ wsX10, w ∈ wsX4_run := (fun w hw => List.mem_cons_of_mem _ (List.mem_append_left _ (List.mem_append_left _ (List.mem_append_left _ (List.mem_append_left _ (List.mem_append_left _ (List.mem_append_left _ (List.mem_append_left _ (List.mem_append_left _ (List.mem_append_left _ (List.mem_append_right _ hw)))))))))))
  have hin4 : ∀ w ∈ wsX40, w ∈ wsX4_run := (fun w hw => List.mem_cons_of_mem _ (List.mem_append_left _ (List.mem_append_left _ (List.mem_append_left _ (List.mem_append_left _ (List.mem_append_left _ (List.mem_append_left _ (List.mem_append_left _ (List.mem_append_left _ (List.mem_append_left _ (List.mem_append_left _ (List.mem_append_left _ (List.mem_append_right _ hw)))))))))))))
  refine lv_iload_n hx hb dX4_run_0 rfl (lv_at hl 1 rfl) ?_
  refine lv_if_lt (tgt := 11) hx hb dX4_run_1 (by decide) (fun c_1 => ?_) (fun c_1 => ?_)
  · have c_1 : n0 < 0 := c_1
    obtain ⟨sa, hstr⟩ := zstr hz (own := RX4) (k := 58) (text := "the fuel is not 0 .. 500") (by decide +kernel)
    exact xq_thr (vx_throwS (own := RX4) (cls := "java/lang/IllegalArgumentException") (text := "the fuel is not 0 .. 500") (names := ["java/lang/RuntimeException", "java/lang/Exception"]) hx hb hl9 hown (by decide +kernel) (by decide +kernel) (hts (.classLink RX4 56 "java/lang/IllegalArgumentException") (by decide +kernel)) (hts (.initialized "java/lang/IllegalArgumentException") (by decide +kernel)) hstr (zhat hz hts (by decide +kernel) (fun w hw => List.mem_cons_of_mem _ (List.mem_append_left _ (List.mem_append_left _ (List.mem_append_left _ (List.mem_append_left _ (List.mem_append_left _ (List.mem_append_left _ (List.mem_append_left _ (List.mem_append_right _ hw))))))))) (by decide +kernel)) (by decide +kernel) hz.2.1 hz.2.2.1 G.2.2 (hl.1.trans hml.symm) dX4_run_11 dX4_run_14 dX4_run_15 dX4_run_17 dX4_run_20 (fun x hx => (hEx x hx).elim) (Nat.le_of_ble_eq_true rfl) (Nat.le_of_ble_eq_true rfl) (Nat.le_of_ble_eq_true rfl) (Nat.le_of_ble_eq_true rfl) hlocks (fun t ha hsz hk => ⟨σ, trivial, ⟨(by unfold Xdesk_run; first | simp only [eq_true c_1, ↓reduceIte] | rfl), (y_kept X G ha hsz hk).1⟩, (y_kept X G ha hsz hk).2⟩) G.2.2.2.2 (Nat.le_of_ble_eq_true rfl) (Nat.le_of_ble_eq_true rfl))
  · have c_1 : ¬ (n0 < 0) := c_1
    refine lv_iload_n hx hb dX4_run_4 rfl (lv_at hl 1 rfl) ?_
    refine lv_sipush (v := 500) hx hb dX4_run_5 (by decide) ?_
    refine lv_icmp_le (tgt := 21) hx hb dX4_run_8 (by decide) (fun c_8 => ?_) (fun c_8 => ?_)
    · have c_8 : n0 ≤ 500 := c_8
      refine lv_aload_n hx hb dX4_run_21 rfl (lv_at hl 0 rfl) ?_
      refine x_dget_2 X G hin4 (by decide +kernel) dX4_run_22 ?_
      refine x_callv (As := []) (rest := []) X hml G hA (xW_sh (by decide)) rfl (c_Xsh_clear l dC dI kc ad _ σ 31 (by decide)) (cwV 0 hts gX4_run_X3_clear rfl rfl rfl (by decide +kernel) ⟨Nat.le_of_ble_eq_true rfl, Nat.le_of_ble_eq_true rfl⟩) rfl hl.1 rfl (Nat.le_of_ble_eq_true rfl) dX4_run_25 ⟨Nat.zero_le _, Nat.zero_le _⟩ (fun u_25 H locs hw_25 G => ?_)
      have hv_25 : xWF u_25 := by have h9 : xWF (Xsh_clear σ 31) := clear_wf hrv; rw [hw_25] at h9; exact h9
      refine lv_aload_n hx hb dX4_run_28 rfl (lv_at hl 0 rfl) ?_
      refine lv_iconst (v := 0) hx hb dX4_run_29 (by decide) ?_
      refine x_dput_6 X G hin4 (by decide +kernel) dX4_run_30 (fun H locs G => ?_)
      have G : xH dC dI kc ad (xi u_25 1 0) _ s.heap H locs := G
      refine lv_aload_n hx hb dX4_run_33 rfl (lv_at hl 0 rfl) ?_
      refine x_dget_3 X G hin4 (by decide +kernel) dX4_run_34 ?_
      refine x_callv (As := []) (rest := []) X hml G hA xW_nest rfl (c_Xnest_leaveAll l dC dI kc ad _ (xi u_25 1 0)) (cwV 0 hts gX4_run_X1_leaveAll rfl rfl rfl (by decide +kernel) ⟨Nat.le_of_ble_eq_true rfl, Nat.le_of_ble_eq_true rfl⟩) rfl hl.1 rfl (Nat.le_of_ble_eq_true rfl) dX4_run_37 ⟨Nat.zero_le _, Nat.zero_le _⟩ (fun u_37 H locs hw_37 G => ?_)
      have hv_37 : xWF u_37 := by have h9 : xWF (Xnest_leaveAll (xi u_25 1 0)) := leaveAll_wf hv_25; rw [hw_37] at h9; exact h9
      refine lv_aload_n hx hb dX4_run_40 rfl (lv_at hl 0 rfl) ?_
      refine x_dget_3 X G hin4 (by decide +kernel) dX4_run_41 ?_
      refine lv_aload_n hx hb dX4_run_44 rfl (lv_at hl 0 rfl) ?_
      refine x_dget_4 X G hin4 (by decide +kernel) dX4_run_45 ?_
      refine lv_iconst (v := 0) hx hb dX4_run_48 (by decide) ?_
      refine lv_aload_n hx hb dX4_run_49 rfl (lv_at hl 0 rfl) ?_
      refine x_dget_4 X G hin4 (by decide +kernel) dX4_run_50 ?_
      refine x_rget_1 X G hin2 hv_37.2 (by decide +kernel) dX4_run_53 ?_
      refine y_callv (As := [va_rf (((some u_37.2.2.2.2.1)).map ad), .int 0, .int (u_37.1 u_37.2.2.2.2.1)]) (rest := []) X hml G hA hEx hlocks xW_nest rfl (c_Xnest_enter l hl9 dC dI kc ad _ u_37 ((some u_37.2.2.2.2.1)) 0 (u_37.1 u_37.2.2.2.2.1) (fun n hn => by cases hn; exact hv_37.2)) (cwV 3 hts gX4_run_X1_enter rfl rfl rfl (by decide +kernel) ⟨Nat.le_of_ble_eq_true rfl, Nat.le_of_ble_eq_true rfl⟩) rfl hl.1 rfl (Nat.le_of_ble_eq_true rfl) dX4_run_56 ⟨Nat.le_of_ble_eq_true rfl, Nat.le_of_ble_eq_true rfl⟩ (fun E u9 hw_56 => (by unfold Xdesk_run; first | simp only [eq_false c_1, eq_true c_8, hw_25, hw_37, hw_56, ↓reduceIte] | rfl)) (fun u_56 H locs hw_56 G => ?_)
      have hv_56 : xWF u_56 := enter_wf hv_37 (fun n hn => by cases hn; exact hv_37.2) hw_56
      refine lv_iconst (v := 0) hx hb dX4_run_59 (by decide) ?_
      refine lv_istore_n (lv' := [(2, .int 0), (0, .ref (ad 0)), (1, .int n0)]) hx hb dX4_run_60 rfl hl (by decide) rfl (fun ls hl => ?_)
      exact c_Xdesk_run_L61 l hl9 σ n0 hrv X hA hr hlocks hml hEx 1000001 0 u_56 (by unfold Xdesk_run; first | simp only [eq_false c_1, eq_true c_8, hw_25, hw_37, hw_56, ↓reduceIte] | rfl) (by decide) (by decide) (by decide) hv_56 _ _ G ls (lv_sub hl [1, 2, 0] rfl)
    · have c_8 : ¬ (n0 ≤ 500) := c_8
      obtain ⟨sa, hstr⟩ := zstr hz (own := RX4) (k := 58) (text := "the fuel is not 0 .. 500") (by decide +kernel)
      exact xq_thr (vx_throwS (own := RX4) (cls := "java/lang/IllegalArgumentException") (text := "the fuel is not 0 .. 500") (names := ["java/lang/RuntimeException", "java/lang/Exception"]) hx hb hl9 hown (by decide +kernel) (by decide +kernel) (hts (.classLink RX4 56 "java/lang/IllegalArgumentException") (by decide +kernel)) (hts (.initialized "java/lang/IllegalArgumentException") (by decide +kernel)) hstr (zhat hz hts (by decide +kernel) (fun w hw => List.mem_cons_of_mem _ (List.mem_append_left _ (List.mem_append_left _ (List.mem_append_left _ (List.mem_append_left _ (List.mem_append_left _ (List.mem_append_left _ (List.mem_append_left _ (List.mem_append_right _ hw))))))))) (by decide +kernel)) (by decide +kernel) hz.2.1 hz.2.2.1 G.2.2 (hl.1.trans hml.symm) dX4_run_11 dX4_run_14 dX4_run_15 dX4_run_17 dX4_run_20 (fun x hx => (hEx x hx).elim) (Nat.le_of_ble_eq_true rfl) (Nat.le_of_ble_eq_true rfl) (Nat.le_of_ble_eq_true rfl) (Nat.le_of_ble_eq_true rfl) hlocks (fun t ha hsz hk => ⟨σ, trivial, ⟨(by unfold Xdesk_run; first | simp only [eq_false c_1, eq_false c_8, ↓reduceIte] | rfl), (y_kept X G ha hsz hk).1⟩, (y_kept X G ha hsz hk).2⟩) G.2.2.2.2 (Nat.le_of_ble_eq_true rfl) (Nat.le_of_ble_eq_true rfl))
