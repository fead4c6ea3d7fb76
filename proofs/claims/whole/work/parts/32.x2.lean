theorem nest_in {i : Int32} (h0 : ¬ i < 0) (h1 : i < 12) : vp_in i 12 := by
  rw [vp_in_iff]
  rw [Int32.lt_iff_toInt_lt] at h0 h1
  have z0 : (0 : Int32).toInt = 0 := rfl
  have z1 : (12 : Int32).toInt = 12 := rfl
  omega
def Xnest_isUnderWay (σ : XS) : Int32 := if (σ.1 2) ≤ 0 then 0 else if 12 < (σ.1 2) then 0 else 1
theorem nest_uw {σ : XS} (h : ¬ Xnest_isUnderWay σ = 0) : 0 < (σ.1 2).toInt ∧ (σ.1 2).toInt ≤ 12 := by
  unfold Xnest_isUnderWay at h
  have z0 : (0 : Int32).toInt = 0 := rfl
  have z1 : (12 : Int32).toInt = 12 := rfl
  by_cases h1 : σ.1 2 ≤ 0
  · exact absurd (by simp only [h1, ↓reduceIte]) h
  · by_cases h2 : 12 < σ.1 2
    · exact absurd (by simp only [h1, h2, ↓reduceIte]) h
    · rw [Int32.le_iff_toInt_le] at h1
      rw [Int32.lt_iff_toInt_lt] at h2
      omega
theorem nest_top {σ : XS} (h : ¬ Xnest_isUnderWay σ = 0) : vp_in (σ.1 2 - 1) 12 := by
  obtain ⟨h1, h2⟩ := nest_uw h
  exact vin (i_subE rfl (show (1 : Int32).toInt = 1 from rfl) (by omega) (by omega)) (by omega) (by omega)
set_option maxHeartbeats 4000000 in
set_option maxRecDepth 100000 in
theorem c_Xnest_isUnderWay (l : Launch) (dC : Nat → ClassId) (dI : Nat → Nat → Nat) (kc : Nat → ClassId) (ad : Nat → Nat) (sz : Nat) (σ : XS) : Met l yX1_isUnderWay wsX1_isUnderWay ({ frames := 0, cells := 0, slots := 0, locals := 0 } : Room) (va_Pc [.ref (ad 2)] (xPre dC dI kc ad sz σ)) (va_Qi (fun r u => r = Xnest_isUnderWay σ ∧ u = σ) (xAt dC dI kc ad (xA kc ad σ sz)) (xA kc ad σ sz)) 0 0 (xA kc ad σ sz) := by
  refine x_ofW (cc := cX1_isUnderWay) (maxL := 1) (ret := (some .boolean)) (by decide) rfl rfl (Nat.le_of_ble_eq_true rfl) ?_
  intro p e s m below meth c X G hA hr hlocks hml ls hl
  have hl : lv_has ls 1 [(0, .ref (ad 2))] := hl
  have hx := X.1
  have hb := X.2.1
  have hts := X.2.2.1
  have hown := X.2.2.2.1
  have hz := X.2.2.2.2.2
  have hin1 : ∀ w ∈ wsX10, w ∈ wsX1_isUnderWay := (fun w hw => List.mem_cons_of_mem _ (List.mem_append_right _ hw))
  refine lv_aload_n hx hb dX1_isUnderWay_0 rfl (lv_at hl 0 rfl) ?_
  refine x_nget_3 X G hin1 (by decide +kernel) dX1_isUnderWay_1 ?_
  refine lv_if_le (tgt := 23) hx hb dX1_isUnderWay_4 (by decide) (fun c_4 => ?_) (fun c_4 => ?_)
  · have c_4 : (σ.1 2) ≤ 0 := c_4
    refine lv_iconst (v := 0) hx hb dX1_isUnderWay_23 (by decide) ?_
    exact x_zret (v := 0) X G hr hlocks rfl ⟨(by simp only [Xnest_isUnderWay, eq_true c_4, ↓reduceIte]), rfl⟩ dX1_isUnderWay_24
  · have c_4 : ¬ ((σ.1 2) ≤ 0) := c_4
    refine lv_aload_n hx hb dX1_isUnderWay_7 rfl (lv_at hl 0 rfl) ?_
    refine x_nget_3 X G hin1 (by decide +kernel) dX1_isUnderWay_8 ?_
    refine lv_aload_n hx hb dX1_isUnderWay_11 rfl (lv_at hl 0 rfl) ?_
    refine x_nget_0 X G hin1 (by decide +kernel) dX1_isUnderWay_12 ?_
    refine x_alenQ (v := 12) X G xQ_3 rfl dX1_isUnderWay_15 ?_
    refine lv_icmp_gt (tgt := 23) hx hb dX1_isUnderWay_16 (by decide) (fun c_16 => ?_) (fun c_16 => ?_)
    · have c_16 : 12 < (σ.1 2) := c_16
      refine lv_iconst (v := 0) hx hb dX1_isUnderWay_23 (by decide) ?_
      exact x_zret (v := 0) X G hr hlocks rfl ⟨(by simp only [Xnest_isUnderWay, eq_false c_4, eq_true c_16, ↓reduceIte]), rfl⟩ dX1_isUnderWay_24
    · have c_16 : ¬ (12 < (σ.1 2)) := c_16
      refine lv_iconst (v := 1) hx hb dX1_isUnderWay_19 (by decide) ?_
      refine lv_goto (tgt := 24) hx hb dX1_isUnderWay_20 (by decide) ?_
      exact x_zret (v := 1) X G hr hlocks rfl ⟨(by simp only [Xnest_isUnderWay, eq_false c_4, eq_false c_16, ↓reduceIte]), rfl⟩ dX1_isUnderWay_24
def Xnest_enter (σ : XS) (r0 : Option Nat) (s0 : Int32) (n0 : Int32) : (String × XS) ⊕ XS := if (σ.1 2) < 0 then (.inl ("java/lang/UnsupportedOperationException", σ)) else if (σ.1 2) < 12 then (.inr (xi (xa (xa (xr σ 3 (σ.1 2).toNatClampNeg r0) 4 ((xr σ 3 (σ.1 2).toNatClampNeg r0).1 2).toNatClampNeg s0) 5 ((xa (xr σ 3 (σ.1 2).toNatClampNeg r0) 4 ((xr σ 3 (σ.1 2).toNatClampNeg r0).1 2).toNatClampNeg s0).1 2).toNatClampNeg (s0 + n0)) 2 (((xa (xa (xr σ 3 (σ.1 2).toNatClampNeg r0) 4 ((xr σ 3 (σ.1 2).toNatClampNeg r0).1 2).toNatClampNeg s0) 5 ((xa (xr σ 3 (σ.1 2).toNatClampNeg r0) 4 ((xr σ 3 (σ.1 2).toNatClampNeg r0).1 2).toNatClampNeg s0).1 2).toNatClampNeg (s0 + n0)).1 2) + 1))) else .inl ("java/lang/UnsupportedOperationException", σ)
set_option maxHeartbeats 4000000 in
set_option maxRecDepth 100000 in
theorem c_Xnest_enter (l : Launch) (hl9 : l.stackTraces = false) (dC : Nat → ClassId) (dI : Nat → Nat → Nat) (kc : Nat → ClassId) (ad : Nat → Nat) (sz : Nat) (σ : XS) (r0 : Option Nat) (s0 : Int32) (n0 : Int32) (hr0 : ∀ n, r0 = some n → xv σ n) : xq_Met l yX1_enter wsX1_enter ({ frames := 6, cells := 1, slots := 6, locals := 82 } : Room) (va_Pc [.ref (ad 2), va_rf (r0.map ad), .int s0, .int n0] (xPre dC dI kc ad sz σ)) (va_Qv (fun u => Xnest_enter σ r0 s0 n0 = .inr u) (xAt dC dI kc ad (xA kc ad σ sz)) (xA kc ad σ sz)) (xE (Xnest_enter σ r0 s0 n0) dC dI kc ad (xA kc ad σ sz)) 0 0 1 6 (xA kc ad σ sz) := by
  refine y_ofW (cc := cX1_enter) (maxL := 4) (ret := none) (by decide) rfl rfl (by cases r0 <;> exact Nat.le_of_ble_eq_true rfl) ?_
  intro p e s m below meth c X G hA hr hlocks hml hEx ls hl
  have hl : lv_has ls 4 [(0, .ref (ad 2)), (1, va_rf (r0.map ad)), (2, .int s0), (3, .int n0)] := by cases r0 <;> exact hl
  have hx := X.1
  have hb := X.2.1
  have hts := X.2.2.1
  have hown := X.2.2.2.1
  have hz := X.2.2.2.2.2
  have hin1 : ∀ w ∈ wsX10, w ∈ wsX1_enter := (fun w hw => List.mem_cons_of_mem _ (List.mem_append_left _ (List.mem_append_right _ hw)))
  refine lv_aload_n hx hb dX1_enter_0 rfl (lv_at hl 0 rfl) ?_
  refine x_nget_3 X G hin1 (by decide +kernel) dX1_enter_1 ?_
  refine lv_if_lt (tgt := 19) hx hb dX1_enter_4 (by decide) (fun c_4 => ?_) (fun c_4 => ?_)
  · have c_4 : (σ.1 2) < 0 := c_4
    obtain ⟨sa, hstr⟩ := zstr hz (own := RX1) (k := 30) (text := "too many texts under way") (by decide +kernel)
    exact xq_thr (vx_throwS (own := RX1) (cls := "java/lang/UnsupportedOperationException") (text := "too many texts under way") (names := ["java/lang/RuntimeException", "java/lang/Exception"]) hx hb hl9 hown (by decide +kernel) (by decide +kernel) (hts (.classLink RX1 28 "java/lang/UnsupportedOperationException") (by decide +kernel)) (hts (.initialized "java/lang/UnsupportedOperationException") (by decide +kernel)) hstr (zhat hz hts (by decide +kernel) (fun w hw => List.mem_cons_of_mem _ (List.mem_append_right _ hw)) (by decide +kernel)) (by decide +kernel) hz.2.1 hz.2.2.1 G.2.2 (hl.1.trans hml.symm) dX1_enter_19 dX1_enter_22 dX1_enter_23 dX1_enter_25 dX1_enter_28 (fun x hx => (hEx x hx).elim) (Nat.le_of_ble_eq_true rfl) (Nat.le_of_ble_eq_true rfl) (Nat.le_of_ble_eq_true rfl) (Nat.le_of_ble_eq_true rfl) hlocks (fun t ha hsz hk => ⟨σ, trivial, ⟨(by simp only [Xnest_enter, eq_true c_4, ↓reduceIte]), (y_kept X G ha hsz hk).1⟩, (y_kept X G ha hsz hk).2⟩) G.2.2.2.2 (Nat.le_of_ble_eq_true rfl) (Nat.le_of_ble_eq_true rfl))
  · have c_4 : ¬ ((σ.1 2) < 0) := c_4
    refine lv_aload_n hx hb dX1_enter_7 rfl (lv_at hl 0 rfl) ?_
    refine x_nget_3 X G hin1 (by decide +kernel) dX1_enter_8 ?_
    refine lv_aload_n hx hb dX1_enter_11 rfl (lv_at hl 0 rfl) ?_
    refine x_nget_0 X G hin1 (by decide +kernel) dX1_enter_12 ?_
    refine x_alenQ (v := 12) X G xQ_3 rfl dX1_enter_15 ?_
    refine lv_icmp_lt (tgt := 29) hx hb dX1_enter_16 (by decide) (fun c_16 => ?_) (fun c_16 => ?_)
    · have c_16 : (σ.1 2) < 12 := c_16
      refine lv_aload_n hx hb dX1_enter_29 rfl (lv_at hl 0 rfl) ?_
      refine x_nget_0 X G hin1 (by decide +kernel) dX1_enter_30 ?_
      refine lv_aload_n hx hb dX1_enter_33 rfl (lv_at hl 0 rfl) ?_
      refine x_nget_3 X G hin1 (by decide +kernel) dX1_enter_34 ?_
      refine x_aload_nq hx hb dX1_enter_37 rfl (lv_at hl 1 rfl) ?_
      refine x_qst (v := r0) X G xQ_3 hr0 (nest_in c_4 c_16) dX1_enter_38 (fun H locs G => ?_)
      have G : xH dC dI kc ad (xr σ 3 (σ.1 2).toNatClampNeg r0) _ s.heap H locs := G
      refine lv_aload_n hx hb dX1_enter_39 rfl (lv_at hl 0 rfl) ?_
      refine x_nget_1 X G hin1 (by decide +kernel) dX1_enter_40 ?_
      refine lv_aload_n hx hb dX1_enter_43 rfl (lv_at hl 0 rfl) ?_
      refine x_nget_3 X G hin1 (by decide +kernel) dX1_enter_44 ?_
      refine lv_iload_n hx hb dX1_enter_47 rfl (lv_at hl 2 rfl) ?_
      refine x_ist X G xI_4 (nest_in c_4 c_16) dX1_enter_48 (fun H locs G => ?_)
      have G : xH dC dI kc ad (xa (xr σ 3 (σ.1 2).toNatClampNeg r0) 4 ((xr σ 3 (σ.1 2).toNatClampNeg r0).1 2).toNatClampNeg s0) _ s.heap H locs := G
      refine lv_aload_n hx hb dX1_enter_49 rfl (lv_at hl 0 rfl) ?_
      refine x_nget_2 X G hin1 (by decide +kernel) dX1_enter_50 ?_
      refine lv_aload_n hx hb dX1_enter_53 rfl (lv_at hl 0 rfl) ?_
      refine x_nget_3 X G hin1 (by decide +kernel) dX1_enter_54 ?_
      refine lv_iload_n hx hb dX1_enter_57 rfl (lv_at hl 2 rfl) ?_
      refine lv_iload_n hx hb dX1_enter_58 rfl (lv_at hl 3 rfl) ?_
      refine lv_iadd hx hb dX1_enter_59 ?_
      refine x_ist X G xI_5 (nest_in c_4 c_16) dX1_enter_60 (fun H locs G => ?_)
      have G : xH dC dI kc ad (xa (xa (xr σ 3 (σ.1 2).toNatClampNeg r0) 4 ((xr σ 3 (σ.1 2).toNatClampNeg r0).1 2).toNatClampNeg s0) 5 ((xa (xr σ 3 (σ.1 2).toNatClampNeg r0) 4 ((xr σ 3 (σ.1 2).toNatClampNeg r0).1 2).toNatClampNeg s0).1 2).toNatClampNeg (s0 + n0)) _ s.heap H locs := G
      refine lv_aload_n hx hb dX1_enter_61 rfl (lv_at hl 0 rfl) ?_
      refine lv_dup hx hb dX1_enter_62 rfl ?_
      refine x_nget_3 X G hin1 (by decide +kernel) dX1_enter_63 ?_
      refine lv_iconst (v := 1) hx hb dX1_enter_66 (by decide) ?_
      refine lv_iadd hx hb dX1_enter_67 ?_
      refine x_nput_3 X G hin1 (by decide +kernel) dX1_enter_68 (fun H locs G => ?_)
      have G : xH dC dI kc ad (xi (xa (xa (xr σ 3 (σ.1 2).toNatClampNeg r0) 4 ((xr σ 3 (σ.1 2).toNatClampNeg r0).1 2).toNatClampNeg s0) 5 ((xa (xr σ 3 (σ.1 2).toNatClampNeg r0) 4 ((xr σ 3 (σ.1 2).toNatClampNeg r0).1 2).toNatClampNeg s0).1 2).toNatClampNeg (s0 + n0)) 2 (((xa (xa (xr σ 3 (σ.1 2).toNatClampNeg r0) 4 ((xr σ 3 (σ.1 2).toNatClampNeg r0).1 2).toNatClampNeg s0) 5 ((xa (xr σ 3 (σ.1 2).toNatClampNeg r0) 4 ((xr σ 3 (σ.1 2).toNatClampNeg r0).1 2).toNatClampNeg s0).1 2).toNatClampNeg (s0 + n0)).1 2) + 1)) _ s.heap H locs := G
      exact xq_ret (x_vret X G hr hlocks (by simp only [Xnest_enter, eq_false c_4, eq_true c_16, ↓reduceIte]) dX1_enter_71)
    · have c_16 : ¬ ((σ.1 2) < 12) := c_16
      obtain ⟨sa, hstr⟩ := zstr hz (own := RX1) (k := 30) (text := "too many texts under way") (by decide +kernel)
      exact xq_thr (vx_throwS (own := RX1) (cls := "java/lang/UnsupportedOperationException") (text := "too many texts under way") (names := ["java/lang/RuntimeException", "java/lang/Exception"]) hx hb hl9 hown (by decide +kernel) (by decide +kernel) (hts (.classLink RX1 28 "java/lang/UnsupportedOperationException") (by decide +kernel)) (hts (.initialized "java/lang/UnsupportedOperationException") (by decide +kernel)) hstr (zhat hz hts (by decide +kernel) (fun w hw => List.mem_cons_of_mem _ (List.mem_append_right _ hw)) (by decide +kernel)) (by decide +kernel) hz.2.1 hz.2.2.1 G.2.2 (hl.1.trans hml.symm) dX1_enter_19 dX1_enter_22 dX1_enter_23 dX1_enter_25 dX1_enter_28 (fun x hx => (hEx x hx).elim) (Nat.le_of_ble_eq_true rfl) (Nat.le_of_ble_eq_true rfl) (Nat.le_of_ble_eq_true rfl) (Nat.le_of_ble_eq_true rfl) hlocks (fun t ha hsz hk => ⟨σ, trivial, ⟨(by simp only [Xnest_enter, eq_false c_4, eq_false c_16, ↓reduceIte]), (y_kept X G ha hsz hk).1⟩, (y_kept X G ha hsz hk).2⟩) G.2.2.2.2 (Nat.le_of_ble_eq_true rfl) (Nat.le_of_ble_eq_true rfl))
def Xnest_leave (σ : XS) : XS := (xi σ 2 (if (0 : Int32) < ((σ.1 2) - 1) then ((σ.1 2) - 1) else (0 : Int32)))
set_option maxHeartbeats 4000000 in
set_option maxRecDepth 100000 in
theorem c_Xnest_leave (l : Launch) (dC : Nat → ClassId) (dI : Nat → Nat → Nat) (kc : Nat → ClassId) (ad : Nat → Nat) (sz : Nat) (σ : XS) : Met l yX1_leave wsX1_leave ({ frames := 1, cells := 0, slots := 0, locals := 14 } : Room) (va_Pc [.ref (ad 2)] (xPre dC dI kc ad sz σ)) (va_Qv (fun u => Xnest_leave σ = u) (xAt dC dI kc ad (xA kc ad σ sz)) (xA kc ad σ sz)) 0 0 (xA kc ad σ sz) := by
  refine x_ofW (cc := cX1_leave) (maxL := 1) (ret := none) (by decide) rfl rfl (Nat.le_of_ble_eq_true rfl) ?_
  intro p e s m below meth c X G hA hr hlocks hml ls hl
  have hl : lv_has ls 1 [(0, .ref (ad 2))] := hl
  have hx := X.1
  have hb := X.2.1
  have hts := X.2.2.1
  have hown := X.2.2.2.1
  have hz := X.2.2.2.2.2
  have hin1 : ∀ w ∈ wsX10, w ∈ wsX1_leave := (fun w hw => List.mem_cons_of_mem _ (List.mem_append_right _ hw))
  refine lv_aload_n hx hb dX1_leave_0 rfl (lv_at hl 0 rfl) ?_
  refine lv_iconst (v := 0) hx hb dX1_leave_1 (by decide) ?_
  refine lv_aload_n hx hb dX1_leave_2 rfl (lv_at hl 0 rfl) ?_
  refine x_nget_3 X G hin1 (by decide +kernel) dX1_leave_3 ?_
  refine lv_iconst (v := 1) hx hb dX1_leave_6 (by decide) ?_
  refine lv_isub hx hb dX1_leave_7 ?_
  refine va_mmax (own := RX1) hx hb (hml.trans hl.1.symm) hown (hts (.methodLink RX1 49 Lib.Math.max.name) (by decide +kernel)) (hts (.static Lib.Math.max.name) (by decide +kernel)) (hts (.initialized "java/lang/Math") (by decide +kernel)) (hts (.code Lib.Math.max.name Lib.Math.max.code 2 (some .int)) (by decide +kernel)) (Nat.le_of_ble_eq_true rfl) (Nat.le_of_ble_eq_true rfl) (Nat.le_of_ble_eq_true rfl) (Nat.le_of_ble_eq_true rfl) dX1_leave_8 ?_
  refine x_nput_3 X G hin1 (by decide +kernel) dX1_leave_11 (fun H locs G => ?_)
  have G : xH dC dI kc ad (xi σ 2 (if (0 : Int32) < ((σ.1 2) - 1) then ((σ.1 2) - 1) else (0 : Int32))) _ s.heap H locs := G
  exact x_vret X G hr hlocks (by simp only [Xnest_leave, ↓reduceIte]) dX1_leave_14
def Xnest_leaveAll (σ : XS) : XS := (xi σ 2 0)
set_option maxHeartbeats 4000000 in
set_option maxRecDepth 100000 in
theorem c_Xnest_leaveAll (l : Launch) (dC : Nat → ClassId) (dI : Nat → Nat → Nat) (kc : Nat → ClassId) (ad : Nat → Nat) (sz : Nat) (σ : XS) : Met l yX1_leaveAll wsX1_leaveAll ({ frames := 0, cells := 0, slots := 0, locals := 0 } : Room) (va_Pc [.ref (ad 2)] (xPre dC dI kc ad sz σ)) (va_Qv (fun u => Xnest_leaveAll σ = u) (xAt dC dI kc ad (xA kc ad σ sz)) (xA kc ad σ sz)) 0 0 (xA kc ad σ sz) := by
  refine x_ofW (cc := cX1_leaveAll) (maxL := 1) (ret := none) (by decide) rfl rfl (Nat.le_of_ble_eq_true rfl) ?_
  intro p e s m below meth c X G hA hr hlocks hml ls hl
  have hl : lv_has ls 1 [(0, .ref (ad 2))] := hl
  have hx := X.1
  have hb := X.2.1
  have hts := X.2.2.1
  have hown := X.2.2.2.1
  have hz := X.2.2.2.2.2
  have hin1 : ∀ w ∈ wsX10, w ∈ wsX1_leaveAll := (fun w hw => List.mem_cons_of_mem _ (List.mem_append_right _ hw))
  refine lv_aload_n hx hb dX1_leaveAll_0 rfl (lv_at hl 0 rfl) ?_
  refine lv_iconst (v := 0) hx hb dX1_leaveAll_1 (by decide) ?_
  refine x_nput_3 X G hin1 (by decide +kernel) dX1_leaveAll_2 (fun H locs G => ?_)
  have G : xH dC dI kc ad (xi σ 2 0) _ s.heap H locs := G
  exact x_vret X G hr hlocks (by simp only [Xnest_leaveAll, ↓reduceIte]) dX1_leaveAll_5
def Xnest_innermostRow (σ : XS) : Option Nat := if (Xnest_isUnderWay σ) = 0 then (((none : Option Nat))) else ((σ.2.2.2.1 3 ((σ.1 2) - 1).toNatClampNeg))
set_option maxHeartbeats 4000000 in
set_option maxRecDepth 100000 in
theorem c_Xnest_innermostRow (l : Launch) (dC : Nat → ClassId) (dI : Nat → Nat → Nat) (kc : Nat → ClassId) (ad : Nat → Nat) (sz : Nat) (σ : XS) : Met l yX1_innermostRow wsX1_innermostRow ({ frames := 1, cells := 0, slots := 0, locals := 20 } : Room) (va_Pc [.ref (ad 2)] (xPre dC dI kc ad sz σ)) (va_Qq (fun r u => ∃ o : Option Nat, r = o.map ad ∧ o = Xnest_innermostRow σ ∧ u = σ) (xAt dC dI kc ad (xA kc ad σ sz)) (xA kc ad σ sz)) 0 0 (xA kc ad σ sz) := by
  refine x_ofW (cc := cX1_innermostRow) (maxL := 1) (ret := (some (.object "DeskStack$Row"))) (by decide) rfl rfl (Nat.le_of_ble_eq_true rfl) ?_
  intro p e s m below meth c X G hA hr hlocks hml ls hl
  have hl : lv_has ls 1 [(0, .ref (ad 2))] := hl
  have hx := X.1
  have hb := X.2.1
  have hts := X.2.2.1
  have hown := X.2.2.2.1
  have hz := X.2.2.2.2.2
  have hin1 : ∀ w ∈ wsX10, w ∈ wsX1_innermostRow := (fun w hw => List.mem_cons_of_mem _ (List.mem_append_right _ hw))
  refine lv_aload_n hx hb dX1_innermostRow_0 rfl (lv_at hl 0 rfl) ?_
  refine x_calli (As := []) (rest := []) X hml G hA xW_nest rfl (c_Xnest_isUnderWay l dC dI kc ad _ σ) (cwV 0 hts gX1_innermostRow_X1_isUnderWay rfl rfl rfl (by decide +kernel) ⟨Nat.le_of_ble_eq_true rfl, Nat.le_of_ble_eq_true rfl⟩) rfl hl.1 rfl (Nat.le_of_ble_eq_true rfl) dX1_innermostRow_1 ⟨Nat.zero_le _, Nat.zero_le _⟩ (fun r_1 u_1 H locs hw_1 G => ?_)
  obtain ⟨rfl, hu_1⟩ := hw_1
  rw [hu_1] at G
  refine lv_if_eq (tgt := 21) hx hb dX1_innermostRow_4 (by decide) (fun c_4 => ?_) (fun c_4 => ?_)
  · have c_4 : (Xnest_isUnderWay σ) = 0 := c_4
    refine lv_null hx hb dX1_innermostRow_21 ?_
    exact x_qret (o := ((none : Option Nat)).map ad) X G hr hlocks ⟨((none : Option Nat)), rfl, ⟨(by simp only [Xnest_innermostRow, eq_true c_4, ↓reduceIte]), rfl⟩⟩ dX1_innermostRow_22
  · have c_4 : ¬ ((Xnest_isUnderWay σ) = 0) := c_4
    refine lv_aload_n hx hb dX1_innermostRow_7 rfl (lv_at hl 0 rfl) ?_
    refine x_nget_0 X G hin1 (by decide +kernel) dX1_innermostRow_8 ?_
    refine lv_aload_n hx hb dX1_innermostRow_11 rfl (lv_at hl 0 rfl) ?_
    refine x_nget_3 X G hin1 (by decide +kernel) dX1_innermostRow_12 ?_
    refine lv_iconst (v := 1) hx hb dX1_innermostRow_15 (by decide) ?_
    refine lv_isub hx hb dX1_innermostRow_16 ?_
    refine x_qld X G xQ_3 (nest_top c_4) dX1_innermostRow_17 ?_
    refine lv_goto (tgt := 22) hx hb dX1_innermostRow_18 (by decide) ?_
    exact x_qret (o := ((σ.2.2.2.1 3 ((σ.1 2) - 1).toNatClampNeg)).map ad) X G hr hlocks ⟨((σ.2.2.2.1 3 ((σ.1 2) - 1).toNatClampNeg)), rfl, ⟨(by simp only [Xnest_innermostRow, eq_false c_4, ↓reduceIte]), rfl⟩⟩ dX1_innermostRow_22
def Xnest_position (σ : XS) : Int32 := if (Xnest_isUnderWay σ) = 0 then 0 else (σ.2.1 4 ((σ.1 2) - 1).toNatClampNeg)
set_option maxHeartbeats 4000000 in
set_option maxRecDepth 100000 in
theorem c_Xnest_position (l : Launch) (dC : Nat → ClassId) (dI : Nat → Nat → Nat) (kc : Nat → ClassId) (ad : Nat → Nat) (sz : Nat) (σ : XS) : Met l yX1_position wsX1_position ({ frames := 1, cells := 0, slots := 0, locals := 20 } : Room) (va_Pc [.ref (ad 2)] (xPre dC dI kc ad sz σ)) (va_Qi (fun r u => r = Xnest_position σ ∧ u = σ) (xAt dC dI kc ad (xA kc ad σ sz)) (xA kc ad σ sz)) 0 0 (xA kc ad σ sz) := by
  refine x_ofW (cc := cX1_position) (maxL := 1) (ret := (some .int)) (by decide) rfl rfl (Nat.le_of_ble_eq_true rfl) ?_
  intro p e s m below meth c X G hA hr hlocks hml ls hl
  have hl : lv_has ls 1 [(0, .ref (ad 2))] := hl
  have hx := X.1
  have hb := X.2.1
  have hts := X.2.2.1
  have hown := X.2.2.2.1
  have hz := X.2.2.2.2.2
  have hin1 : ∀ w ∈ wsX10, w ∈ wsX1_position := (fun w hw => List.mem_cons_of_mem _ (List.mem_append_right _ hw))
  refine lv_aload_n hx hb dX1_position_0 rfl (lv_at hl 0 rfl) ?_
  refine x_calli (As := []) (rest := []) X hml G hA xW_nest rfl (c_Xnest_isUnderWay l dC dI kc ad _ σ) (cwV 0 hts gX1_position_X1_isUnderWay rfl rfl rfl (by decide +kernel) ⟨Nat.le_of_ble_eq_true rfl, Nat.le_of_ble_eq_true rfl⟩) rfl hl.1 rfl (Nat.le_of_ble_eq_true rfl) dX1_position_1 ⟨Nat.zero_le _, Nat.zero_le _⟩ (fun r_1 u_1 H locs hw_1 G => ?_)
  obtain ⟨rfl, hu_1⟩ := hw_1
  rw [hu_1] at G
  refine lv_if_eq (tgt := 21) hx hb dX1_position_4 (by decide) (fun c_4 => ?_) (fun c_4 => ?_)
  · have c_4 : (Xnest_isUnderWay σ) = 0 := c_4
    refine lv_iconst (v := 0) hx hb dX1_position_21 (by decide) ?_
    exact x_iret (v := 0) X G hr hlocks ⟨(by simp only [Xnest_position, eq_true c_4, ↓reduceIte]), rfl⟩ dX1_position_22
  · have c_4 : ¬ ((Xnest_isUnderWay σ) = 0) := c_4
    refine lv_aload_n hx hb dX1_position_7 rfl (lv_at hl 0 rfl) ?_
    refine x_nget_1 X G hin1 (by decide +kernel) dX1_position_8 ?_
    refine lv_aload_n hx hb dX1_position_11 rfl (lv_at hl 0 rfl) ?_
    refine x_nget_3 X G hin1 (by decide +kernel) dX1_position_12 ?_
    refine lv_iconst (v := 1) hx hb dX1_position_15 (by decide) ?_
    refine lv_isub hx hb dX1_position_16 ?_
    refine x_ild X G xI_4 (nest_top c_4) dX1_position_17 ?_
    refine lv_goto (tgt := 22) hx hb dX1_position_18 (by decide) ?_
    exact x_iret (v := (σ.2.1 4 ((σ.1 2) - 1).toNatClampNeg)) X G hr hlocks ⟨(by simp only [Xnest_position, eq_false c_4, ↓reduceIte]), rfl⟩ dX1_position_22
def Xnest_look (σ : XS) : Int32 := if (Xnest_isUnderWay σ) = 0 then 0 else if (σ.2.1 4 ((σ.1 2) - 1).toNatClampNeg) < (σ.2.1 5 ((σ.1 2) - 1).toNatClampNeg) then ((match (σ.2.2.2.1 3 ((σ.1 2) - 1).toNatClampNeg) with | none => 0 | some n47 => (Xrow_charAt σ n47 (σ.2.1 4 ((σ.1 2) - 1).toNatClampNeg)))) else 0
set_option maxHeartbeats 4000000 in
set_option maxRecDepth 100000 in
theorem c_Xnest_look (l : Launch) (dC : Nat → ClassId) (dI : Nat → Nat → Nat) (kc : Nat → ClassId) (ad : Nat → Nat) (sz : Nat) (σ : XS) (hrv : xWF σ) : Met l yX1_look wsX1_look ({ frames := 1, cells := 0, slots := 0, locals := 21 } : Room) (va_Pc [.ref (ad 2)] (xPre dC dI kc ad sz σ)) (va_Qi (fun r u => r = Xnest_look σ ∧ u = σ) (xAt dC dI kc ad (xA kc ad σ sz)) (xA kc ad σ sz)) 0 0 (xA kc ad σ sz) := by
  refine x_ofW (cc := cX1_look) (maxL := 2) (ret := (some .int)) (by decide) rfl rfl (Nat.le_of_ble_eq_true rfl) ?_
  intro p e s m below meth c X G hA hr hlocks hml ls hl
  have hl : lv_has ls 2 [(0, .ref (ad 2))] := hl
  have hx := X.1
  have hb := X.2.1
  have hts := X.2.2.1
  have hown := X.2.2.2.1
  have hz := X.2.2.2.2.2
  have hin2 : ∀ w ∈ wsX20, w ∈ wsX1_look := (fun w hw => List.mem_cons_of_mem _ (List.mem_append_right _ hw))
  have hin1 : ∀ w ∈ wsX10, w ∈ wsX1_look := (fun w hw => List.mem_cons_of_mem _ (List.mem_append_left _ (List.mem_append_right _ hw)))
  refine lv_aload_n hx hb dX1_look_0 rfl (lv_at hl 0 rfl) ?_
  refine x_calli (As := []) (rest := []) X hml G hA xW_nest rfl (c_Xnest_isUnderWay l dC dI kc ad _ σ) (cwV 0 hts gX1_look_X1_isUnderWay rfl rfl rfl (by decide +kernel) ⟨Nat.le_of_ble_eq_true rfl, Nat.le_of_ble_eq_true rfl⟩) rfl hl.1 rfl (Nat.le_of_ble_eq_true rfl) dX1_look_1 ⟨Nat.zero_le _, Nat.zero_le _⟩ (fun r_1 u_1 H locs hw_1 G => ?_)
  obtain ⟨rfl, hu_1⟩ := hw_1
  rw [hu_1] at G
  refine lv_if_eq (tgt := 32) hx hb dX1_look_4 (by decide) (fun c_4 => ?_) (fun c_4 => ?_)
  · have c_4 : (Xnest_isUnderWay σ) = 0 := c_4
    refine lv_iconst (v := 0) hx hb dX1_look_32 (by decide) ?_
    exact x_iret (v := 0) X G hr hlocks ⟨(by simp only [Xnest_look, eq_true c_4, ↓reduceIte]), rfl⟩ dX1_look_33
  · have c_4 : ¬ ((Xnest_isUnderWay σ) = 0) := c_4
    refine lv_aload_n hx hb dX1_look_7 rfl (lv_at hl 0 rfl) ?_
    refine x_nget_1 X G hin1 (by decide +kernel) dX1_look_8 ?_
    refine lv_aload_n hx hb dX1_look_11 rfl (lv_at hl 0 rfl) ?_
    refine x_nget_3 X G hin1 (by decide +kernel) dX1_look_12 ?_
    refine lv_iconst (v := 1) hx hb dX1_look_15 (by decide) ?_
    refine lv_isub hx hb dX1_look_16 ?_
    refine x_ild X G xI_4 (nest_top c_4) dX1_look_17 ?_
    refine lv_aload_n hx hb dX1_look_18 rfl (lv_at hl 0 rfl) ?_
    refine x_nget_2 X G hin1 (by decide +kernel) dX1_look_19 ?_
    refine lv_aload_n hx hb dX1_look_22 rfl (lv_at hl 0 rfl) ?_
    refine x_nget_3 X G hin1 (by decide +kernel) dX1_look_23 ?_
    refine lv_iconst (v := 1) hx hb dX1_look_26 (by decide) ?_
    refine lv_isub hx hb dX1_look_27 ?_
    refine x_ild X G xI_5 (nest_top c_4) dX1_look_28 ?_
    refine lv_icmp_lt (tgt := 34) hx hb dX1_look_29 (by decide) (fun c_29 => ?_) (fun c_29 => ?_)
    · have c_29 : (σ.2.1 4 ((σ.1 2) - 1).toNatClampNeg) < (σ.2.1 5 ((σ.1 2) - 1).toNatClampNeg) := c_29
      refine lv_aload_n hx hb dX1_look_34 rfl (lv_at hl 0 rfl) ?_
      refine x_nget_0 X G hin1 (by decide +kernel) dX1_look_35 ?_
      refine lv_aload_n hx hb dX1_look_38 rfl (lv_at hl 0 rfl) ?_
      refine x_nget_3 X G hin1 (by decide +kernel) dX1_look_39 ?_
      refine lv_iconst (v := 1) hx hb dX1_look_42 (by decide) ?_
      refine lv_isub hx hb dX1_look_43 ?_
      refine x_qld X G xQ_3 (nest_top c_4) dX1_look_44 ?_
      refine x_astore_nq (lv' := [(1, va_rf ((σ.2.2.2.1 3 ((σ.1 2) - 1).toNatClampNeg).map ad)), (0, .ref (ad 2))]) hx hb dX1_look_45 rfl hl (by decide) rfl (fun ls hl => ?_)
      refine x_aload_nq hx hb dX1_look_46 rfl (lv_at hl 0 rfl) ?_
      refine x_ifnonnull (o := (σ.2.2.2.1 3 ((σ.1 2) - 1).toNatClampNeg)) (tgt := 54) hx hb dX1_look_47 (by decide) (fun n_47x n_47 => ?_) (fun n_47 => ?_)
      · have n_47 := n_47
        have hl : lv_has ls 2 [(1, .ref (ad n_47x)), (0, .ref (ad 2))] := by rw [n_47] at hl; exact hl
        refine lv_aload_n hx hb dX1_look_54 rfl (lv_at hl 0 rfl) ?_
        refine lv_aload_n hx hb dX1_look_55 rfl (lv_at hl 1 rfl) ?_
        refine x_nget_1 X G hin1 (by decide +kernel) dX1_look_56 ?_
        refine lv_aload_n hx hb dX1_look_59 rfl (lv_at hl 1 rfl) ?_
        refine x_nget_3 X G hin1 (by decide +kernel) dX1_look_60 ?_
        refine lv_iconst (v := 1) hx hb dX1_look_63 (by decide) ?_
        refine lv_isub hx hb dX1_look_64 ?_
        refine x_ild X G xI_4 (nest_top c_4) dX1_look_65 ?_
        refine x_calli (As := [.int (σ.2.1 4 ((σ.1 2) - 1).toNatClampNeg)]) (rest := []) X hml G hA (xW_row (hrv.1 _ _ _ n_47)) rfl (c_Xrow_charAt l dC dI kc ad _ σ n_47x (σ.2.1 4 ((σ.1 2) - 1).toNatClampNeg) (hrv.1 _ _ _ n_47)) (cwV 1 hts gX1_look_X2_charAt rfl rfl rfl (by decide +kernel) ⟨Nat.le_of_ble_eq_true rfl, Nat.le_of_ble_eq_true rfl⟩) rfl hl.1 rfl (Nat.le_of_ble_eq_true rfl) dX1_look_66 ⟨Nat.zero_le _, Nat.zero_le _⟩ (fun r_66 u_66 H locs hw_66 G => ?_)
        obtain ⟨rfl, hu_66⟩ := hw_66
        rw [hu_66] at G
        exact x_iret (v := (Xrow_charAt σ n_47x (σ.2.1 4 ((σ.1 2) - 1).toNatClampNeg))) X G hr hlocks ⟨(by simp only [Xnest_look, eq_false c_4, eq_true c_29, n_47, ↓reduceIte]), rfl⟩ dX1_look_69
      · have n_47 := n_47
        refine lv_iconst (v := 0) hx hb dX1_look_50 (by decide) ?_
        refine lv_goto (tgt := 69) hx hb dX1_look_51 (by decide) ?_
        exact x_iret (v := 0) X G hr hlocks ⟨(by simp only [Xnest_look, eq_false c_4, eq_true c_29, n_47, ↓reduceIte]), rfl⟩ dX1_look_69
    · have c_29 : ¬ ((σ.2.1 4 ((σ.1 2) - 1).toNatClampNeg) < (σ.2.1 5 ((σ.1 2) - 1).toNatClampNeg)) := c_29
      refine lv_iconst (v := 0) hx hb dX1_look_32 (by decide) ?_
      exact x_iret (v := 0) X G hr hlocks ⟨(by simp only [Xnest_look, eq_false c_4, eq_false c_29, ↓reduceIte]), rfl⟩ dX1_look_33
def Xnest_pass (σ : XS) : XS := if (Xnest_isUnderWay σ) = 0 then σ else (xa σ 4 ((σ.1 2) - 1).toNatClampNeg ((σ.2.1 4 ((σ.1 2) - 1).toNatClampNeg) + 1))
set_option maxHeartbeats 4000000 in
set_option maxRecDepth 100000 in
theorem c_Xnest_pass (l : Launch) (dC : Nat → ClassId) (dI : Nat → Nat → Nat) (kc : Nat → ClassId) (ad : Nat → Nat) (sz : Nat) (σ : XS) : Met l yX1_pass wsX1_pass ({ frames := 1, cells := 0, slots := 0, locals := 20 } : Room) (va_Pc [.ref (ad 2)] (xPre dC dI kc ad sz σ)) (va_Qv (fun u => Xnest_pass σ = u) (xAt dC dI kc ad (xA kc ad σ sz)) (xA kc ad σ sz)) 0 0 (xA kc ad σ sz) := by
  refine x_ofW (cc := cX1_pass) (maxL := 1) (ret := none) (by decide) rfl rfl (Nat.le_of_ble_eq_true rfl) ?_
  intro p e s m below meth c X G hA hr hlocks hml ls hl
  have hl : lv_has ls 1 [(0, .ref (ad 2))] := hl
  have hx := X.1
  have hb := X.2.1
  have hts := X.2.2.1
  have hown := X.2.2.2.1
  have hz := X.2.2.2.2.2
  have hin1 : ∀ w ∈ wsX10, w ∈ wsX1_pass := (fun w hw => List.mem_cons_of_mem _ (List.mem_append_right _ hw))
  refine lv_aload_n hx hb dX1_pass_0 rfl (lv_at hl 0 rfl) ?_
  refine x_calli (As := []) (rest := []) X hml G hA xW_nest rfl (c_Xnest_isUnderWay l dC dI kc ad _ σ) (cwV 0 hts gX1_pass_X1_isUnderWay rfl rfl rfl (by decide +kernel) ⟨Nat.le_of_ble_eq_true rfl, Nat.le_of_ble_eq_true rfl⟩) rfl hl.1 rfl (Nat.le_of_ble_eq_true rfl) dX1_pass_1 ⟨Nat.zero_le _, Nat.zero_le _⟩ (fun r_1 u_1 H locs hw_1 G => ?_)
  obtain ⟨rfl, hu_1⟩ := hw_1
  rw [hu_1] at G
  refine lv_if_eq (tgt := 22) hx hb dX1_pass_4 (by decide) (fun c_4 => ?_) (fun c_4 => ?_)
  · have c_4 : (Xnest_isUnderWay σ) = 0 := c_4
    exact x_vret X G hr hlocks (by simp only [Xnest_pass, eq_true c_4, ↓reduceIte]) dX1_pass_22
  · have c_4 : ¬ ((Xnest_isUnderWay σ) = 0) := c_4
    refine lv_aload_n hx hb dX1_pass_7 rfl (lv_at hl 0 rfl) ?_
    refine x_nget_1 X G hin1 (by decide +kernel) dX1_pass_8 ?_
    refine lv_aload_n hx hb dX1_pass_11 rfl (lv_at hl 0 rfl) ?_
    refine x_nget_3 X G hin1 (by decide +kernel) dX1_pass_12 ?_
    refine lv_iconst (v := 1) hx hb dX1_pass_15 (by decide) ?_
    refine lv_isub hx hb dX1_pass_16 ?_
    refine lv_dup2_11 hx hb dX1_pass_17 rfl rfl ?_
    refine x_ild X G xI_4 (nest_top c_4) dX1_pass_18 ?_
    refine lv_iconst (v := 1) hx hb dX1_pass_19 (by decide) ?_
    refine lv_iadd hx hb dX1_pass_20 ?_
    refine x_ist X G xI_4 (nest_top c_4) dX1_pass_21 (fun H locs G => ?_)
    have G : xH dC dI kc ad (xa σ 4 ((σ.1 2) - 1).toNatClampNeg ((σ.2.1 4 ((σ.1 2) - 1).toNatClampNeg) + 1)) _ s.heap H locs := G
    exact x_vret X G hr hlocks (by simp only [Xnest_pass, eq_false c_4, ↓reduceIte]) dX1_pass_22
theorem pass_wf {σ : XS} (h : xWF σ) : xWF (Xnest_pass σ) := by
  unfold Xnest_pass
  split
  · exact h
  · exact h
theorem leave_wf {σ : XS} (h : xWF σ) : xWF (Xnest_leave σ) := h
theorem leaveAll_wf {σ : XS} (h : xWF σ) : xWF (Xnest_leaveAll σ) := h
theorem inner_v {σ : XS} (h : xWF σ) : ∀ n, Xnest_innermostRow σ = some n → xv σ n := by
  intro n hn
  unfold Xnest_innermostRow at hn
  split at hn
  · cases hn
  · exact h.1 _ _ _ hn
theorem enter_wf {σ u : XS} {r0 : Option Nat} {s0 n0 : Int32} (h : xWF σ) (hr : ∀ n, r0 = some n → xv σ n) (hw : Xnest_enter σ r0 s0 n0 = .inr u) : xWF u := by
  unfold Xnest_enter at hw
  split at hw
  · cases hw
  · split at hw
    · injection hw with hw; rw [← hw]; exact xWF_xr (σ := σ) (k := 3) (j := (σ.1 2).toNatClampNeg) h hr
    · cases hw
def Xnest_skipBlanks_L2 : Nat → Int32 → XS → XS
  | 0, _, τ => τ
  | f + 1, i0, τ => if 160 ≤ i0 then τ else if (Xnest_look τ) = 32 then (let q_28 := Xnest_pass τ; Xnest_skipBlanks_L2 f (i0 + 1) q_28) else if (Xnest_look τ) = 10 then (let q_28 := Xnest_pass τ; Xnest_skipBlanks_L2 f (i0 + 1) q_28) else τ
def Xnest_skipBlanks (σ : XS) : XS := Xnest_skipBlanks_L2 (161) 0 σ
set_option maxHeartbeats 4000000 in
set_option maxRecDepth 100000 in
theorem c_Xnest_skipBlanks_L2 {p : Program} (l : Launch) {e : Env} {s : State} {m : MethodId} {below : List Frame} {meth : Method} {c : Code} {dC : Nat → ClassId} {dI : Nat → Nat → Nat} {kc : Nat → ClassId} {ad : Nat → Nat} {sz : Nat} (σ : XS) (hrv : xWF σ) (X : xX p s m ([.ref (ad 2)] : List Value).toArray c cX1_skipBlanks wsX1_skipBlanks dC dI kc RX1 (xA kc ad σ sz)) (hA : ∀ q : Nat, s.heap.size ≤ q → xA kc ad σ sz q) (hr : meth.sig.returnType = none) (hlocks : meth.locks = false) (hml : c.maxLocals = 2) :
    ∀ (fu : Nat) (i0 : Int32) (τ : XS), Xnest_skipBlanks σ = Xnest_skipBlanks_L2 fu i0 τ → (0 ≤ i0.toInt) → (i0.toInt ≤ 160) → (161 ≤ i0.toInt + (fu : Int)) → (xWF τ) → ∀ (H : Heap) (locs : List Loc), xH dC dI kc ad τ (xA kc ad σ sz) s.heap H locs → ∀ ls : Array Slot, lv_has ls 2 [(0, .ref (ad 2)), (1, .int i0)] → W p l e ({ frames := 2, cells := 0, slots := 0, locals := 42 } : Room) s m ([.ref (ad 2)] : List Value).toArray below meth c H locs 0 0 (MQ below (va_Qv (fun u => Xnest_skipBlanks σ = u) (xAt dC dI kc ad (xA kc ad σ sz)) (xA kc ad σ sz)) ([.ref (ad 2)] : List Value).toArray s 0 0 (xA kc ad σ sz)) (F0 m 2 ls []) := by
  have hx := X.1
  have hb := X.2.1
  have hts := X.2.2.1
  have hown := X.2.2.2.1
  have hz := X.2.2.2.2.2
  have hin2 : ∀ w ∈ wsX20, w ∈ wsX1_skipBlanks := (fun w hw => List.mem_cons_of_mem _ (List.mem_append_right _ hw))
  have hin1 : ∀ w ∈ wsX10, w ∈ wsX1_skipBlanks := (fun w hw => List.mem_cons_of_mem _ (List.mem_append_left _ (List.mem_append_right _ hw)))
  intro fu
  induction fu with
  | zero =>
    intro i0 τ hI hi0 hi1 hi2 hrv
    exact absurd hi2 (by omega)
  | succ fu ih =>
    intro i0 τ hI hi0 hi1 hi2 hrv H locs G ls hl
    refine lv_iload_n hx hb dX1_skipBlanks_2 rfl (lv_at hl 1 rfl) ?_
    refine lv_sipush (v := 160) hx hb dX1_skipBlanks_3 (by decide) ?_
    refine lv_icmp_ge (tgt := 37) hx hb dX1_skipBlanks_6 (by decide) (fun c_6 => ?_) (fun c_6 => ?_)
    · have c_6 : 160 ≤ i0 := c_6
      exact x_vret X G hr hlocks (by rw [hI]; simp only [Xnest_skipBlanks_L2, eq_true c_6, ↓reduceIte]) dX1_skipBlanks_37
    · have c_6 : ¬ (160 ≤ i0) := c_6
      have k_6 : i0.toInt < 160 := by have h9 := c_6; rw [Int32.not_le, Int32.lt_iff_toInt_lt] at h9; exact h9
      have e_6 : (i0 + 1).toInt = i0.toInt + 1 := i_addE rfl (show (1 : Int32).toInt = 1 from rfl) (by omega) (by omega)
      refine lv_aload_n hx hb dX1_skipBlanks_9 rfl (lv_at hl 0 rfl) ?_
      refine x_calli (As := []) (rest := []) X hml G hA xW_nest rfl (c_Xnest_look l dC dI kc ad _ τ hrv) (cwV 0 hts gX1_skipBlanks_X1_look rfl rfl rfl (by decide +kernel) ⟨Nat.le_of_ble_eq_true rfl, Nat.le_of_ble_eq_true rfl⟩) rfl hl.1 rfl (Nat.le_of_ble_eq_true rfl) dX1_skipBlanks_10 ⟨Nat.zero_le _, Nat.zero_le _⟩ (fun r_10 u_10 H locs hw_10 G => ?_)
      obtain ⟨rfl, hu_10⟩ := hw_10
      rw [hu_10] at G
      refine lv_bipush (v := 32) hx hb dX1_skipBlanks_13 (by decide) ?_
      refine lv_icmp_eq (tgt := 27) hx hb dX1_skipBlanks_15 (by decide) (fun c_15 => ?_) (fun c_15 => ?_)
      · have c_15 : (Xnest_look τ) = 32 := c_15
        refine lv_aload_n hx hb dX1_skipBlanks_27 rfl (lv_at hl 0 rfl) ?_
        refine x_callv (As := []) (rest := []) X hml G hA xW_nest rfl (c_Xnest_pass l dC dI kc ad _ τ) (cwV 0 hts gX1_skipBlanks_X1_pass rfl rfl rfl (by decide +kernel) ⟨Nat.le_of_ble_eq_true rfl, Nat.le_of_ble_eq_true rfl⟩) rfl hl.1 rfl (Nat.le_of_ble_eq_true rfl) dX1_skipBlanks_28 ⟨Nat.zero_le _, Nat.zero_le _⟩ (fun u_28 H locs hw_28 G => ?_)
        have hv_28 : xWF u_28 := by have h9 : xWF (Xnest_pass τ) := pass_wf hrv; rw [hw_28] at h9; exact h9
        refine lv_iinc (v := (i0 + 1)) (lv' := [(1, .int (i0 + 1)), (0, .ref (ad 2))]) hx hb dX1_skipBlanks_31 hl (k := 1) rfl rfl (by decide) rfl (fun ls hl => ?_)
        refine lv_goto (tgt := 2) hx hb dX1_skipBlanks_34 (by decide) ?_
        exact ih (i0 + 1) u_28 (by rw [hI]; simp only [Xnest_skipBlanks_L2, eq_false c_6, eq_true c_15, hw_28, ↓reduceIte]) (by omega) (by omega) (by omega) hv_28 H locs G ls (lv_sub hl [1, 0] rfl)
      · have c_15 : ¬ ((Xnest_look τ) = 32) := c_15
        refine lv_aload_n hx hb dX1_skipBlanks_18 rfl (lv_at hl 0 rfl) ?_
        refine x_calli (As := []) (rest := []) X hml G hA xW_nest rfl (c_Xnest_look l dC dI kc ad _ τ hrv) (cwV 0 hts gX1_skipBlanks_X1_look rfl rfl rfl (by decide +kernel) ⟨Nat.le_of_ble_eq_true rfl, Nat.le_of_ble_eq_true rfl⟩) rfl hl.1 rfl (Nat.le_of_ble_eq_true rfl) dX1_skipBlanks_19 ⟨Nat.zero_le _, Nat.zero_le _⟩ (fun r_19 u_19 H locs hw_19 G => ?_)
        obtain ⟨rfl, hu_19⟩ := hw_19
        rw [hu_19] at G
        refine lv_bipush (v := 10) hx hb dX1_skipBlanks_22 (by decide) ?_
        refine lv_icmp_ne (tgt := 37) hx hb dX1_skipBlanks_24 (by decide) (fun c_24 => ?_) (fun c_24 => ?_)
        · have c_24 : ¬ ((Xnest_look τ) = 10) := c_24
          exact x_vret X G hr hlocks (by rw [hI]; simp only [Xnest_skipBlanks_L2, eq_false c_6, eq_false c_15, eq_false c_24, ↓reduceIte]) dX1_skipBlanks_37
        · have c_24 : (Xnest_look τ) = 10 := c_24
          refine lv_aload_n hx hb dX1_skipBlanks_27 rfl (lv_at hl 0 rfl) ?_
          refine x_callv (As := []) (rest := []) X hml G hA xW_nest rfl (c_Xnest_pass l dC dI kc ad _ τ) (cwV 0 hts gX1_skipBlanks_X1_pass rfl rfl rfl (by decide +kernel) ⟨Nat.le_of_ble_eq_true rfl, Nat.le_of_ble_eq_true rfl⟩) rfl hl.1 rfl (Nat.le_of_ble_eq_true rfl) dX1_skipBlanks_28 ⟨Nat.zero_le _, Nat.zero_le _⟩ (fun u_28 H locs hw_28 G => ?_)
          have hv_28 : xWF u_28 := by have h9 : xWF (Xnest_pass τ) := pass_wf hrv; rw [hw_28] at h9; exact h9
          refine lv_iinc (v := (i0 + 1)) (lv' := [(1, .int (i0 + 1)), (0, .ref (ad 2))]) hx hb dX1_skipBlanks_31 hl (k := 1) rfl rfl (by decide) rfl (fun ls hl => ?_)
          refine lv_goto (tgt := 2) hx hb dX1_skipBlanks_34 (by decide) ?_
          exact ih (i0 + 1) u_28 (by rw [hI]; simp only [Xnest_skipBlanks_L2, eq_false c_6, eq_false c_15, eq_true c_24, hw_28, ↓reduceIte]) (by omega) (by omega) (by omega) hv_28 H locs G ls (lv_sub hl [1, 0] rfl)
set_option maxHeartbeats 4000000 in
set_option maxRecDepth 100000 in
theorem c_Xnest_skipBlanks (l : Launch) (dC : Nat → ClassId) (dI : Nat → Nat → Nat) (kc : Nat → ClassId) (ad : Nat → Nat) (sz : Nat) (σ : XS) (hrv : xWF σ) : Met l yX1_skipBlanks wsX1_skipBlanks ({ frames := 2, cells := 0, slots := 0, locals := 42 } : Room) (va_Pc [.ref (ad 2)] (xPre dC dI kc ad sz σ)) (va_Qv (fun u => Xnest_skipBlanks σ = u) (xAt dC dI kc ad (xA kc ad σ sz)) (xA kc ad σ sz)) 0 0 (xA kc ad σ sz) := by
  refine x_ofW (cc := cX1_skipBlanks) (maxL := 2) (ret := none) (by decide) rfl rfl (Nat.le_of_ble_eq_true rfl) ?_
  intro p e s m below meth c X G hA hr hlocks hml ls hl
  have hl : lv_has ls 2 [(0, .ref (ad 2))] := hl
  have hx := X.1
  have hb := X.2.1
  have hts := X.2.2.1
  have hown := X.2.2.2.1
  have hz := X.2.2.2.2.2
  have hin2 : ∀ w ∈ wsX20, w ∈ wsX1_skipBlanks := (fun w hw => List.mem_cons_of_mem _ (List.mem_append_right _ hw))
  have hin1 : ∀ w ∈ wsX10, w ∈ wsX1_skipBlanks := (fun w hw => List.mem_cons_of_mem _ (List.mem_append_left _ (List.mem_append_right _ hw)))
  refine lv_iconst (v := 0) hx hb dX1_skipBlanks_0 (by decide) ?_
  refine lv_istore_n (lv' := [(1, .int 0), (0, .ref (ad 2))]) hx hb dX1_skipBlanks_1 rfl hl (by decide) rfl (fun ls hl => ?_)
  exact c_Xnest_skipBlanks_L2 l σ hrv X hA hr hlocks hml 161 0 σ (by simp only [Xnest_skipBlanks, ↓reduceIte]) (by decide) (by decide) (by decide) hrv _ _ G ls (lv_sub hl [1, 0] rfl)
theorem skipL_wf : ∀ (fu : Nat) (i0 : Int32) (τ : XS), xWF τ → xWF (Xnest_skipBlanks_L2 fu i0 τ) := by
  intro fu
  induction fu with
  | zero => intro i0 τ h; exact h
  | succ fu ih =>
    intro i0 τ h
    simp only [Xnest_skipBlanks_L2]
    split
    · exact h
    · split
      · exact ih _ _ (pass_wf h)
      · split
        · exact ih _ _ (pass_wf h)
        · exact h
theorem skipBlanks_wf {σ : XS} (h : xWF σ) : xWF (Xnest_skipBlanks σ) := skipL_wf _ _ _ h
theorem xv_same {σ τ : XS} (h : τ.2.2.2.2.2 = σ.2.2.2.2.2) {n : Nat} (hv : xv σ n) : xv τ n := by
  unfold xv xn at *
  rw [h]; exact hv
theorem skipL_n : ∀ (fu : Nat) (i0 : Int32) (τ : XS), (Xnest_skipBlanks_L2 fu i0 τ).2.2.2.2 = τ.2.2.2.2 := by
  intro fu
  have hp : ∀ τ : XS, (Xnest_pass τ).2.2.2.2 = τ.2.2.2.2 := by
    intro τ; unfold Xnest_pass; split <;> rfl
  induction fu with
  | zero => intro i0 τ; rfl
  | succ fu ih =>
    intro i0 τ
    simp only [Xnest_skipBlanks_L2]
    split
    · rfl
    · split
      · exact (ih _ _).trans (hp τ)
      · split
        · exact (ih _ _).trans (hp τ)
        · rfl
theorem skip_v {σ : XS} {n : Nat} (hv : xv σ n) : xv (Xnest_skipBlanks σ) n := xv_same (by rw [show Xnest_skipBlanks σ = Xnest_skipBlanks_L2 161 0 σ from rfl, skipL_n]) hv
def Xnest_enterMacro (σ : XS) (r0 : Option Nat) (s0 : Int32) (n0 : Int32) : (String × XS) ⊕ XS := let q_1 := Xnest_skipBlanks σ; if (Xnest_look q_1) = 0 then (let q_12 := Xnest_leave q_1; (match Xnest_enter q_12 r0 s0 n0 with | .inl e9 => .inl e9 | .inr u19 => .inr u19)) else (match Xnest_enter q_1 r0 s0 n0 with | .inl e9 => .inl e9 | .inr u19 => .inr u19)
set_option maxHeartbeats 4000000 in
set_option maxRecDepth 100000 in
theorem c_Xnest_enterMacro (l : Launch) (hl9 : l.stackTraces = false) (dC : Nat → ClassId) (dI : Nat → Nat → Nat) (kc : Nat → ClassId) (ad : Nat → Nat) (sz : Nat) (σ : XS) (r0 : Option Nat) (s0 : Int32) (n0 : Int32) (hrv : xWF σ) (hr0 : ∀ n, r0 = some n → xv σ n) : xq_Met l yX1_enterMacro wsX1_enterMacro ({ frames := 7, cells := 1, slots := 6, locals := 105 } : Room) (va_Pc [.ref (ad 2), va_rf (r0.map ad), .int s0, .int n0] (xPre dC dI kc ad sz σ)) (va_Qv (fun u => Xnest_enterMacro σ r0 s0 n0 = .inr u) (xAt dC dI kc ad (xA kc ad σ sz)) (xA kc ad σ sz)) (xE (Xnest_enterMacro σ r0 s0 n0) dC dI kc ad (xA kc ad σ sz)) 0 0 1 6 (xA kc ad σ sz) := by
  refine y_ofW (cc := cX1_enterMacro) (maxL := 4) (ret := none) (by decide) rfl rfl (by cases r0 <;> exact Nat.le_of_ble_eq_true rfl) ?_
  intro p e s m below meth c X G hA hr hlocks hml hEx ls hl
  have hl : lv_has ls 4 [(0, .ref (ad 2)), (1, va_rf (r0.map ad)), (2, .int s0), (3, .int n0)] := by cases r0 <;> exact hl
  have hx := X.1
  have hb := X.2.1
  have hts := X.2.2.1
  have hown := X.2.2.2.1
  have hz := X.2.2.2.2.2
  have hin2 : ∀ w ∈ wsX20, w ∈ wsX1_enterMacro := (fun w hw => List.mem_cons_of_mem _ (List.mem_append_left _ (List.mem_append_right _ hw)))
  have hin1 : ∀ w ∈ wsX10, w ∈ wsX1_enterMacro := (fun w hw => List.mem_cons_of_mem _ (List.mem_append_left _ (List.mem_append_left _ (List.mem_append_right _ hw))))
  refine lv_aload_n hx hb dX1_enterMacro_0 rfl (lv_at hl 0 rfl) ?_
  refine x_callv (As := []) (rest := []) X hml G hA xW_nest rfl (c_Xnest_skipBlanks l dC dI kc ad _ σ hrv) (cwV 0 hts gX1_enterMacro_X1_skipBlanks rfl rfl rfl (by decide +kernel) ⟨Nat.le_of_ble_eq_true rfl, Nat.le_of_ble_eq_true rfl⟩) rfl hl.1 rfl (Nat.le_of_ble_eq_true rfl) dX1_enterMacro_1 ⟨Nat.zero_le _, Nat.zero_le _⟩ (fun u_1 H locs hw_1 G => ?_)
  have hv_1 : xWF u_1 := by have h9 : xWF (Xnest_skipBlanks σ) := skipBlanks_wf hrv; rw [hw_1] at h9; exact h9
  refine lv_aload_n hx hb dX1_enterMacro_4 rfl (lv_at hl 0 rfl) ?_
  refine x_calli (As := []) (rest := []) X hml G hA xW_nest rfl (c_Xnest_look l dC dI kc ad _ u_1 hv_1) (cwV 0 hts gX1_enterMacro_X1_look rfl rfl rfl (by decide +kernel) ⟨Nat.le_of_ble_eq_true rfl, Nat.le_of_ble_eq_true rfl⟩) rfl hl.1 rfl (Nat.le_of_ble_eq_true rfl) dX1_enterMacro_5 ⟨Nat.zero_le _, Nat.zero_le _⟩ (fun r_5 u_5 H locs hw_5 G => ?_)
  obtain ⟨rfl, hu_5⟩ := hw_5
  rw [hu_5] at G
  refine lv_if_ne (tgt := 15) hx hb dX1_enterMacro_8 (by decide) (fun c_8 => ?_) (fun c_8 => ?_)
  · have c_8 : ¬ ((Xnest_look u_1) = 0) := c_8
    refine lv_aload_n hx hb dX1_enterMacro_15 rfl (lv_at hl 0 rfl) ?_
    refine x_aload_nq hx hb dX1_enterMacro_16 rfl (lv_at hl 1 rfl) ?_
    refine lv_iload_n hx hb dX1_enterMacro_17 rfl (lv_at hl 2 rfl) ?_
    refine lv_iload_n hx hb dX1_enterMacro_18 rfl (lv_at hl 3 rfl) ?_
    refine y_callv (As := [va_rf (r0.map ad), .int s0, .int n0]) (rest := []) X hml G hA hEx hlocks xW_nest rfl (c_Xnest_enter l hl9 dC dI kc ad _ u_1 r0 s0 n0 (fun n hn => by rw [← hw_1]; exact skip_v (hr0 n hn))) (cwV 3 hts gX1_enterMacro_X1_enter rfl rfl rfl (by decide +kernel) ⟨Nat.le_of_ble_eq_true rfl, Nat.le_of_ble_eq_true rfl⟩) rfl hl.1 rfl (Nat.le_of_ble_eq_true rfl) dX1_enterMacro_19 ⟨Nat.le_of_ble_eq_true rfl, Nat.le_of_ble_eq_true rfl⟩ (fun E u9 hw_19 => (by simp only [Xnest_enterMacro, hw_1, eq_false c_8, hw_19, ↓reduceIte])) (fun u_19 H locs hw_19 G => ?_)
    have hv_19 : xWF u_19 := enter_wf hv_1 (fun n hn => by rw [← hw_1]; exact skip_v (hr0 n hn)) hw_19
    exact xq_ret (x_vret X G hr hlocks (by simp only [Xnest_enterMacro, hw_1, eq_false c_8, hw_19, ↓reduceIte]) dX1_enterMacro_22)
  · have c_8 : (Xnest_look u_1) = 0 := c_8
    refine lv_aload_n hx hb dX1_enterMacro_11 rfl (lv_at hl 0 rfl) ?_
    refine x_callv (As := []) (rest := []) X hml G hA xW_nest rfl (c_Xnest_leave l dC dI kc ad _ u_1) (cwV 0 hts gX1_enterMacro_X1_leave rfl rfl rfl (by decide +kernel) ⟨Nat.le_of_ble_eq_true rfl, Nat.le_of_ble_eq_true rfl⟩) rfl hl.1 rfl (Nat.le_of_ble_eq_true rfl) dX1_enterMacro_12 ⟨Nat.zero_le _, Nat.zero_le _⟩ (fun u_12 H locs hw_12 G => ?_)
    have hv_12 : xWF u_12 := by have h9 : xWF (Xnest_leave u_1) := leave_wf hv_1; rw [hw_12] at h9; exact h9
    refine lv_aload_n hx hb dX1_enterMacro_15 rfl (lv_at hl 0 rfl) ?_
    refine x_aload_nq hx hb dX1_enterMacro_16 rfl (lv_at hl 1 rfl) ?_
    refine lv_iload_n hx hb dX1_enterMacro_17 rfl (lv_at hl 2 rfl) ?_
    refine lv_iload_n hx hb dX1_enterMacro_18 rfl (lv_at hl 3 rfl) ?_
    refine y_callv (As := [va_rf (r0.map ad), .int s0, .int n0]) (rest := []) X hml G hA hEx hlocks xW_nest rfl (c_Xnest_enter l hl9 dC dI kc ad _ u_12 r0 s0 n0 (fun n hn => by rw [← hw_12]; show xv u_1 n; rw [← hw_1]; exact skip_v (hr0 n hn))) (cwV 3 hts gX1_enterMacro_X1_enter rfl rfl rfl (by decide +kernel) ⟨Nat.le_of_ble_eq_true rfl, Nat.le_of_ble_eq_true rfl⟩) rfl hl.1 rfl (Nat.le_of_ble_eq_true rfl) dX1_enterMacro_19 ⟨Nat.le_of_ble_eq_true rfl, Nat.le_of_ble_eq_true rfl⟩ (fun E u9 hw_19 => (by simp only [Xnest_enterMacro, hw_1, eq_true c_8, hw_12, hw_19, ↓reduceIte])) (fun u_19 H locs hw_19 G => ?_)
    have hv_19 : xWF u_19 := enter_wf hv_12 (fun n hn => by rw [← hw_12]; show xv u_1 n; rw [← hw_1]; exact skip_v (hr0 n hn)) hw_19
    exact xq_ret (x_vret X G hr hlocks (by simp only [Xnest_enterMacro, hw_1, eq_true c_8, hw_12, hw_19, ↓reduceIte]) dX1_enterMacro_22)
theorem enterMacro_wf {σ u : XS} {r0 : Option Nat} {s0 n0 : Int32} (h : xWF σ) (hr : ∀ n, r0 = some n → xv σ n) (hw : Xnest_enterMacro σ r0 s0 n0 = .inr u) : xWF u := by
  unfold Xnest_enterMacro at hw
  simp only at hw
  split at hw
  · split at hw
    · cases hw
    · rename_i h9; injection hw with hw; rw [← hw]; exact enter_wf (leave_wf (skipBlanks_wf h)) (fun n hn => skip_v (hr n hn)) h9
  · split at hw
    · cases hw
    · rename_i h9; injection hw with hw; rw [← hw]; exact enter_wf (skipBlanks_wf h) (fun n hn => skip_v (hr n hn)) h9
