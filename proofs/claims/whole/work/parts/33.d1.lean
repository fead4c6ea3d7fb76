theorem max0 (k : Int32) : 0 ≤ (if k < (0 : Int32) then (0 : Int32) else k).toInt := by
  have z0 : (0 : Int32).toInt = 0 := rfl
  split
  · omega
  · rename_i h; rw [Int32.lt_iff_toInt_lt] at h; omega
theorem pow_ix0 {y : Int32} (h : 0 ≤ y.toInt) : vp_in (if (19 - 1 : Int32) < y then (19 - 1 : Int32) else y) 19 := by
  have z18 : (19 - 1 : Int32).toInt = 18 := by decide
  rw [vp_in_iff]
  split
  · omega
  · rename_i h1; rw [Int32.lt_iff_toInt_lt] at h1; omega
theorem pow_ix {k : Int32} : vp_in (if (19 - 1 : Int32) < (if k < (0 : Int32) then (0 : Int32) else k) then (19 - 1 : Int32) else (if k < (0 : Int32) then (0 : Int32) else k)) 19 := pow_ix0 (max0 k)
theorem abs_nz {b : Int64} (h : ¬ b = 0) : ¬ (if 0 < b then b else -b) = 0 := by
  split
  · exact h
  · intro e; apply h
    have := congrArg (fun x => -x) e
    simpa using this
def D_divide (a0 : Int64) (b0 : Int64) : String ⊕ Int64 := if b0 = 0 then (.inr 0) else .inr (a0 / b0)
set_option maxHeartbeats 4000000 in
set_option maxRecDepth 100000 in
theorem c_D_divide (l : Launch) (hl9 : l.stackTraces = false) (sz : Nat) (a0 : Int64) (b0 : Int64) : xq_Met l yX0_divide wsX0_divide ({ frames := 0, cells := 1, slots := 6, locals := 0 } : Room) (va_Pc [.long a0, .long b0] (dPre sz)) (va_Ql (fun r (_ : Unit) => D_divide a0 b0 = .inr r) (fun _ _ => True) (fun _ => False)) (dX (D_divide a0 b0) sz) 0 0 1 6 (fun q => sz ≤ q) := by
  refine d_ofW (cc := cX0_divide) (maxL := 4) (ret := (some .long)) (by decide) rfl rfl (Nat.le_of_ble_eq_true rfl) ?_
  intro p e s m below meth c hx hb hts hown hr hlocks hml hEx hsz hz hS ls hl
  subst hsz
  have hl : lv_has ls 4 [(0, .long a0), (2, .long b0)] := hl
  refine lv_lload_n hx hb dX0_divide_0 rfl (lv_at hl 1 rfl) ?_
  refine lv_lconst (v := 0) hx hb dX0_divide_1 (by decide) ?_
  refine W.lcmp hx hb dX0_divide_2 ?_
  refine lv_if_ne (tgt := 10) hx hb dX0_divide_3 (by decide) (fun c_3 => ?_) (fun c_3 => ?_)
  · have c_3 := (mt (l_cmp_eq _ _).mpr c_3)
    have c_3 : ¬ (b0 = 0) := c_3
    refine lv_lload_n hx hb dX0_divide_10 rfl (lv_at hl 0 rfl) ?_
    refine lv_lload_n hx hb dX0_divide_11 rfl (lv_at hl 1 rfl) ?_
    refine lv_ldiv hx hb dX0_divide_12 c_3 ?_
    exact xq_ret (W.lret (v := (a0 / b0)) hx hb hr (fun t ht hW => ⟨⟨_, (), rfl, (by unfold D_divide; first | simp only [eq_false c_3, ↓reduceIte] | rfl), trivial⟩, dF hS ht⟩) hS.2.2 dX0_divide_13 hlocks)
  · have c_3 := ((l_cmp_eq _ _).mp c_3)
    have c_3 : b0 = 0 := c_3
    refine lv_lconst (v := 0) hx hb dX0_divide_6 (by decide) ?_
    refine lv_goto (tgt := 13) hx hb dX0_divide_7 (by decide) ?_
    exact xq_ret (W.lret (v := 0) hx hb hr (fun t ht hW => ⟨⟨_, (), rfl, (by unfold D_divide; first | simp only [eq_true c_3, ↓reduceIte] | rfl), trivial⟩, dF hS ht⟩) hS.2.2 dX0_divide_13 hlocks)
def D_powerOfTen (k0 : Int32) : String ⊕ Int64 := .inr (p10 (if (19 - 1) < (if k0 < (0 : Int32) then (0 : Int32) else k0) then (19 - 1) else (if k0 < (0 : Int32) then (0 : Int32) else k0)).toNatClampNeg)
set_option maxHeartbeats 4000000 in
set_option maxRecDepth 100000 in
theorem c_D_powerOfTen (l : Launch) (hl9 : l.stackTraces = false) (sz : Nat) (k0 : Int32) : xq_Met l yX0_powerOfTen wsX0_powerOfTen ({ frames := 1, cells := 1, slots := 6, locals := 14 } : Room) (va_Pc [.int k0] (dPre sz)) (va_Ql (fun r (_ : Unit) => D_powerOfTen k0 = .inr r) (fun _ _ => True) (fun _ => False)) (dX (D_powerOfTen k0) sz) 0 0 1 6 (fun q => sz ≤ q) := by
  refine d_ofW (cc := cX0_powerOfTen) (maxL := 1) (ret := (some .long)) (by decide) rfl rfl (Nat.le_of_ble_eq_true rfl) ?_
  intro p e s m below meth c hx hb hts hown hr hlocks hml hEx hsz hz hS ls hl
  subst hsz
  have hl : lv_has ls 1 [(0, .int k0)] := hl
  obtain ⟨tp, hzp, hzt⟩ := hz.2.2.2
  refine va_gets hx hb hzp hS hown (hts (.fieldLink RX0 78 "DeskStack$Decimal" "POWERS" "[J") (by decide +kernel)) (fun _ h9 => h9) dX0_powerOfTen_0 ?_
  refine lv_iload_n hx hb dX0_powerOfTen_3 rfl (lv_at hl 0 rfl) ?_
  refine lv_iconst (v := 0) hx hb dX0_powerOfTen_4 (by decide) ?_
  refine va_mmax (own := RX0) hx hb (hml.trans hl.1.symm) hown (hts (.methodLink RX0 9 Lib.Math.max.name) (by decide +kernel)) (hts (.static Lib.Math.max.name) (by decide +kernel)) (hts (.initialized "java/lang/Math") (by decide +kernel)) (hts (.code Lib.Math.max.name Lib.Math.max.code 2 (some .int)) (by decide +kernel)) (Nat.le_of_ble_eq_true rfl) (Nat.le_of_ble_eq_true rfl) (Nat.le_of_ble_eq_true rfl) (Nat.le_of_ble_eq_true rfl) dX0_powerOfTen_5 ?_
  refine va_gets hx hb hzp hS hown (hts (.fieldLink RX0 78 "DeskStack$Decimal" "POWERS" "[J") (by decide +kernel)) (fun _ h9 => h9) dX0_powerOfTen_8 ?_
  refine va_tlen (v := 19) hx hb hzt hS rfl dX0_powerOfTen_11 ?_
  refine lv_iconst (v := 1) hx hb dX0_powerOfTen_12 (by decide) ?_
  refine lv_isub hx hb dX0_powerOfTen_13 ?_
  refine va_mmin (own := RX0) hx hb (hml.trans hl.1.symm) hown (hts (.methodLink RX0 82 Lib.Math.min.name) (by decide +kernel)) (hts (.static Lib.Math.min.name) (by decide +kernel)) (hts (.initialized "java/lang/Math") (by decide +kernel)) (hts (.code Lib.Math.min.name Lib.Math.min.code 2 (some .int)) (by decide +kernel)) (Nat.le_of_ble_eq_true rfl) (Nat.le_of_ble_eq_true rfl) (Nat.le_of_ble_eq_true rfl) (Nat.le_of_ble_eq_true rfl) dX0_powerOfTen_14 ?_
  refine va_tl hx hb hzt hS pow_ix rfl dX0_powerOfTen_17 ?_
  exact xq_ret (W.lret (v := (p10 (if (19 - 1) < (if k0 < (0 : Int32) then (0 : Int32) else k0) then (19 - 1) else (if k0 < (0 : Int32) then (0 : Int32) else k0)).toNatClampNeg)) hx hb hr (fun t ht hW => ⟨⟨_, (), rfl, (by unfold D_powerOfTen; first | simp only [↓reduceIte] | rfl), trivial⟩, dF hS ht⟩) hS.2.2 dX0_powerOfTen_18 hlocks)
def D_times (a0 : Int64) (b0 : Int64) : String ⊕ Int64 := if b0 = 0 then (.inr (a0 * b0)) else if (if 0 < a0 then a0 else -a0) ≤ (999999999999999999 / (if 0 < b0 then b0 else -b0)) then (.inr (a0 * b0)) else .inl "java/lang/UnsupportedOperationException"
set_option maxHeartbeats 4000000 in
set_option maxRecDepth 100000 in
theorem c_D_times (l : Launch) (hl9 : l.stackTraces = false) (sz : Nat) (a0 : Int64) (b0 : Int64) : xq_Met l yX0_times wsX0_times ({ frames := 6, cells := 1, slots := 6, locals := 82 } : Room) (va_Pc [.long a0, .long b0] (dPre sz)) (va_Ql (fun r (_ : Unit) => D_times a0 b0 = .inr r) (fun _ _ => True) (fun _ => False)) (dX (D_times a0 b0) sz) 0 0 1 6 (fun q => sz ≤ q) := by
  refine d_ofW (cc := cX0_times) (maxL := 4) (ret := (some .long)) (by decide) rfl rfl (Nat.le_of_ble_eq_true rfl) ?_
  intro p e s m below meth c hx hb hts hown hr hlocks hml hEx hsz hz hS ls hl
  subst hsz
  have hl : lv_has ls 4 [(0, .long a0), (2, .long b0)] := hl
  refine lv_lload_n hx hb dX0_times_0 rfl (lv_at hl 1 rfl) ?_
  refine lv_lconst (v := 0) hx hb dX0_times_1 (by decide) ?_
  refine W.lcmp hx hb dX0_times_2 ?_
  refine lv_if_eq (tgt := 32) hx hb dX0_times_3 (by decide) (fun c_3 => ?_) (fun c_3 => ?_)
  · have c_3 := ((l_cmp_eq _ _).mp c_3)
    have c_3 : b0 = 0 := c_3
    refine lv_lload_n hx hb dX0_times_32 rfl (lv_at hl 0 rfl) ?_
    refine lv_lload_n hx hb dX0_times_33 rfl (lv_at hl 1 rfl) ?_
    refine lv_lmul hx hb dX0_times_34 ?_
    exact xq_ret (W.lret (v := (a0 * b0)) hx hb hr (fun t ht hW => ⟨⟨_, (), rfl, (by unfold D_times; first | simp only [eq_true c_3, ↓reduceIte] | rfl), trivial⟩, dF hS ht⟩) hS.2.2 dX0_times_35 hlocks)
  · have c_3 := (mt (l_cmp_eq _ _).mpr c_3)
    have c_3 : ¬ (b0 = 0) := c_3
    refine lv_lload_n hx hb dX0_times_6 rfl (lv_at hl 0 rfl) ?_
    refine va_mabs_long (own := RX0) hx hb (hml.trans hl.1.symm) hown (hts (.methodLink RX0 31 Lib.MathLoose.abs_long.x) (by decide +kernel)) (hts (.static Lib.MathLoose.abs_long.x) (by decide +kernel)) (hts (.initialized "java/lang/Math") (by decide +kernel)) (hts (.code Lib.MathLoose.abs_long.x Lib.MathLoose.abs_long.code 2 (some .long)) (by decide +kernel)) (Nat.le_of_ble_eq_true rfl) (Nat.le_of_ble_eq_true rfl) (Nat.le_of_ble_eq_true rfl) (Nat.le_of_ble_eq_true rfl) dX0_times_7 ?_
    refine lv_ldc2 (v := 999999999999999999) hx hb hown (hts (.constantLong RX0 34 (999999999999999999)) (by decide +kernel)) dX0_times_10 ?_
    refine lv_lload_n hx hb dX0_times_13 rfl (lv_at hl 1 rfl) ?_
    refine va_mabs_long (own := RX0) hx hb (hml.trans hl.1.symm) hown (hts (.methodLink RX0 31 Lib.MathLoose.abs_long.x) (by decide +kernel)) (hts (.static Lib.MathLoose.abs_long.x) (by decide +kernel)) (hts (.initialized "java/lang/Math") (by decide +kernel)) (hts (.code Lib.MathLoose.abs_long.x Lib.MathLoose.abs_long.code 2 (some .long)) (by decide +kernel)) (Nat.le_of_ble_eq_true rfl) (Nat.le_of_ble_eq_true rfl) (Nat.le_of_ble_eq_true rfl) (Nat.le_of_ble_eq_true rfl) dX0_times_14 ?_
    refine lv_ldiv hx hb dX0_times_17 (abs_nz c_3) ?_
    refine W.lcmp hx hb dX0_times_18 ?_
    refine lv_if_le (tgt := 32) hx hb dX0_times_19 (by decide) (fun c_19 => ?_) (fun c_19 => ?_)
    · have c_19 := ((l_cmp_le _ _).mp c_19)
      have c_19 : (if 0 < a0 then a0 else -a0) ≤ (999999999999999999 / (if 0 < b0 then b0 else -b0)) := c_19
      refine lv_lload_n hx hb dX0_times_32 rfl (lv_at hl 0 rfl) ?_
      refine lv_lload_n hx hb dX0_times_33 rfl (lv_at hl 1 rfl) ?_
      refine lv_lmul hx hb dX0_times_34 ?_
      exact xq_ret (W.lret (v := (a0 * b0)) hx hb hr (fun t ht hW => ⟨⟨_, (), rfl, (by unfold D_times; first | simp only [eq_false c_3, eq_true c_19, ↓reduceIte] | rfl), trivial⟩, dF hS ht⟩) hS.2.2 dX0_times_35 hlocks)
    · have c_19 := (mt (l_cmp_le _ _).mpr c_19)
      have c_19 : ¬ ((if 0 < a0 then a0 else -a0) ≤ (999999999999999999 / (if 0 < b0 then b0 else -b0))) := c_19
      obtain ⟨sa, hstr⟩ := zstr hz (own := RX0) (k := 38) (text := "more than 18 digits") (by decide +kernel)
      exact xq_thr (vx_throwS (own := RX0) (cls := "java/lang/UnsupportedOperationException") (text := "more than 18 digits") (names := ["java/lang/RuntimeException", "java/lang/Exception"]) hx hb hl9 hown (by decide +kernel) (by decide +kernel) (hts (.classLink RX0 36 "java/lang/UnsupportedOperationException") (by decide +kernel)) (hts (.initialized "java/lang/UnsupportedOperationException") (by decide +kernel)) hstr (zhat hz hts (by decide +kernel) (fun w hw => List.mem_cons_of_mem _ (List.mem_append_right _ hw)) (by decide +kernel)) (by decide +kernel) hz.2.1 hz.2.2.1 hS (hl.1.trans hml.symm) dX0_times_22 dX0_times_25 dX0_times_26 dX0_times_28 dX0_times_31 (fun x hx => (hEx x hx).elim) (Nat.le_of_ble_eq_true rfl) (Nat.le_of_ble_eq_true rfl) (Nat.le_of_ble_eq_true rfl) (Nat.le_of_ble_eq_true rfl) hlocks (fun t ha hsz hk => ⟨(), trivial, (by unfold D_times; first | simp only [eq_false c_3, eq_false c_19, ↓reduceIte] | rfl), Nat.le_trans hS.1 hsz, fun q h1 h2 => (hk q (Nat.lt_of_lt_of_le h1 hS.1)).trans (hS.2.1 q h1 h2)⟩) hS.2.2 (Nat.le_of_ble_eq_true rfl) (Nat.le_of_ble_eq_true rfl))
def D_raise (a0 : Int64) (k0 : Int32) : String ⊕ Int64 := (match D_powerOfTen k0 with | .inl e9 => .inl e9 | .inr r2 => (match D_times a0 r2 with | .inl e9 => .inl e9 | .inr r5 => .inr r5))
set_option maxHeartbeats 4000000 in
set_option maxRecDepth 100000 in
theorem c_D_raise (l : Launch) (hl9 : l.stackTraces = false) (sz : Nat) (a0 : Int64) (k0 : Int32) : xq_Met l yX0_raise wsX0_raise ({ frames := 7, cells := 1, slots := 6, locals := 105 } : Room) (va_Pc [.long a0, .int k0] (dPre sz)) (va_Ql (fun r (_ : Unit) => D_raise a0 k0 = .inr r) (fun _ _ => True) (fun _ => False)) (dX (D_raise a0 k0) sz) 0 0 1 6 (fun q => sz ≤ q) := by
  refine d_ofW (cc := cX0_raise) (maxL := 3) (ret := (some .long)) (by decide) rfl rfl (Nat.le_of_ble_eq_true rfl) ?_
  intro p e s m below meth c hx hb hts hown hr hlocks hml hEx hsz hz hS ls hl
  subst hsz
  have hl : lv_has ls 3 [(0, .long a0), (2, .int k0)] := hl
  refine lv_lload_n hx hb dX0_raise_0 rfl (lv_at hl 0 rfl) ?_
  refine lv_iload_n hx hb dX0_raise_1 rfl (lv_at hl 1 rfl) ?_
  refine d_calll (As := [.int k0]) (rest := [.long a0]) hx hb hml hown hts hEx hlocks hz hS (c_D_powerOfTen l hl9 s.heap.size k0) (va_cwS 1 hts gX0_raise_X0_powerOfTen rfl rfl rfl (by decide +kernel) ⟨(Nat.le_of_ble_eq_true rfl), (Nat.le_of_ble_eq_true rfl)⟩) rfl hl.1 rfl (Nat.le_of_ble_eq_true rfl) dX0_raise_2 ⟨(Nat.le_of_ble_eq_true rfl), (Nat.le_of_ble_eq_true rfl)⟩ ⟨rfl, rfl⟩ (fun E hw_2 => (by unfold D_raise; first | simp only [hw_2, ↓reduceIte] | rfl)) (fun r_2 H locs hw_2 hS => ?_)
  refine d_calll (As := [.long a0, .long r_2]) (rest := []) hx hb hml hown hts hEx hlocks hz hS (c_D_times l hl9 H.size a0 r_2) (va_cwS 2 hts gX0_raise_X0_times rfl rfl rfl (by decide +kernel) ⟨(Nat.le_of_ble_eq_true rfl), (Nat.le_of_ble_eq_true rfl)⟩) rfl hl.1 rfl (Nat.le_of_ble_eq_true rfl) dX0_raise_5 ⟨(Nat.le_of_ble_eq_true rfl), (Nat.le_of_ble_eq_true rfl)⟩ ⟨rfl, rfl⟩ (fun E hw_5 => (by unfold D_raise; first | simp only [hw_2, hw_5, ↓reduceIte] | rfl)) (fun r_5 H locs hw_5 hS => ?_)
  exact xq_ret (W.lret (v := r_5) hx hb hr (fun t ht hW => ⟨⟨_, (), rfl, (by unfold D_raise; first | simp only [hw_2, hw_5, ↓reduceIte] | rfl), trivial⟩, dF hS ht⟩) hS.2.2 dX0_raise_8 hlocks)
def D_fitting (a0 : Int64) : String ⊕ Int64 := if (if 0 < a0 then a0 else -a0) ≤ 999999999999999999 then (.inr a0) else .inl "java/lang/UnsupportedOperationException"
set_option maxHeartbeats 4000000 in
set_option maxRecDepth 100000 in
theorem c_D_fitting (l : Launch) (hl9 : l.stackTraces = false) (sz : Nat) (a0 : Int64) : xq_Met l yX0_fitting wsX0_fitting ({ frames := 6, cells := 1, slots := 6, locals := 82 } : Room) (va_Pc [.long a0] (dPre sz)) (va_Ql (fun r (_ : Unit) => D_fitting a0 = .inr r) (fun _ _ => True) (fun _ => False)) (dX (D_fitting a0) sz) 0 0 1 6 (fun q => sz ≤ q) := by
  refine d_ofW (cc := cX0_fitting) (maxL := 2) (ret := (some .long)) (by decide) rfl rfl (Nat.le_of_ble_eq_true rfl) ?_
  intro p e s m below meth c hx hb hts hown hr hlocks hml hEx hsz hz hS ls hl
  subst hsz
  have hl : lv_has ls 2 [(0, .long a0)] := hl
  refine lv_lload_n hx hb dX0_fitting_0 rfl (lv_at hl 0 rfl) ?_
  refine va_mabs_long (own := RX0) hx hb (hml.trans hl.1.symm) hown (hts (.methodLink RX0 31 Lib.MathLoose.abs_long.x) (by decide +kernel)) (hts (.static Lib.MathLoose.abs_long.x) (by decide +kernel)) (hts (.initialized "java/lang/Math") (by decide +kernel)) (hts (.code Lib.MathLoose.abs_long.x Lib.MathLoose.abs_long.code 2 (some .long)) (by decide +kernel)) (Nat.le_of_ble_eq_true rfl) (Nat.le_of_ble_eq_true rfl) (Nat.le_of_ble_eq_true rfl) (Nat.le_of_ble_eq_true rfl) dX0_fitting_1 ?_
  refine lv_ldc2 (v := 999999999999999999) hx hb hown (hts (.constantLong RX0 34 (999999999999999999)) (by decide +kernel)) dX0_fitting_4 ?_
  refine W.lcmp hx hb dX0_fitting_7 ?_
  refine lv_if_le (tgt := 21) hx hb dX0_fitting_8 (by decide) (fun c_8 => ?_) (fun c_8 => ?_)
  · have c_8 := ((l_cmp_le _ _).mp c_8)
    have c_8 : (if 0 < a0 then a0 else -a0) ≤ 999999999999999999 := c_8
    refine lv_lload_n hx hb dX0_fitting_21 rfl (lv_at hl 0 rfl) ?_
    exact xq_ret (W.lret (v := a0) hx hb hr (fun t ht hW => ⟨⟨_, (), rfl, (by unfold D_fitting; first | simp only [eq_true c_8, ↓reduceIte] | rfl), trivial⟩, dF hS ht⟩) hS.2.2 dX0_fitting_22 hlocks)
  · have c_8 := (mt (l_cmp_le _ _).mpr c_8)
    have c_8 : ¬ ((if 0 < a0 then a0 else -a0) ≤ 999999999999999999) := c_8
    obtain ⟨sa, hstr⟩ := zstr hz (own := RX0) (k := 38) (text := "more than 18 digits") (by decide +kernel)
    exact xq_thr (vx_throwS (own := RX0) (cls := "java/lang/UnsupportedOperationException") (text := "more than 18 digits") (names := ["java/lang/RuntimeException", "java/lang/Exception"]) hx hb hl9 hown (by decide +kernel) (by decide +kernel) (hts (.classLink RX0 36 "java/lang/UnsupportedOperationException") (by decide +kernel)) (hts (.initialized "java/lang/UnsupportedOperationException") (by decide +kernel)) hstr (zhat hz hts (by decide +kernel) (fun w hw => List.mem_cons_of_mem _ (List.mem_append_right _ hw)) (by decide +kernel)) (by decide +kernel) hz.2.1 hz.2.2.1 hS (hl.1.trans hml.symm) dX0_fitting_11 dX0_fitting_14 dX0_fitting_15 dX0_fitting_17 dX0_fitting_20 (fun x hx => (hEx x hx).elim) (Nat.le_of_ble_eq_true rfl) (Nat.le_of_ble_eq_true rfl) (Nat.le_of_ble_eq_true rfl) (Nat.le_of_ble_eq_true rfl) hlocks (fun t ha hsz hk => ⟨(), trivial, (by unfold D_fitting; first | simp only [eq_false c_8, ↓reduceIte] | rfl), Nat.le_trans hS.1 hsz, fun q h1 h2 => (hk q (Nat.lt_of_lt_of_le h1 hS.1)).trans (hS.2.1 q h1 h2)⟩) hS.2.2 (Nat.le_of_ble_eq_true rfl) (Nat.le_of_ble_eq_true rfl))
def D_sum (a0 : Int64) (i0 : Int32) (b0 : Int64) (j0 : Int32) : String ⊕ Int64 := (match D_raise a0 ((if i0 < j0 then j0 else i0) - i0) with | .inl e9 => .inl e9 | .inr r13 => (match D_raise b0 ((if i0 < j0 then j0 else i0) - j0) with | .inl e9 => .inl e9 | .inr r22 => (match D_fitting (r13 + r22) with | .inl e9 => .inl e9 | .inr r26 => .inr r26)))
set_option maxHeartbeats 4000000 in
set_option maxRecDepth 100000 in
theorem c_D_sum (l : Launch) (hl9 : l.stackTraces = false) (sz : Nat) (a0 : Int64) (i0 : Int32) (b0 : Int64) (j0 : Int32) : xq_Met l yX0_sum wsX0_sum ({ frames := 8, cells := 1, slots := 6, locals := 127 } : Room) (va_Pc [.long a0, .int i0, .long b0, .int j0] (dPre sz)) (va_Ql (fun r (_ : Unit) => D_sum a0 i0 b0 j0 = .inr r) (fun _ _ => True) (fun _ => False)) (dX (D_sum a0 i0 b0 j0) sz) 0 0 1 6 (fun q => sz ≤ q) := by
  refine d_ofW (cc := cX0_sum) (maxL := 7) (ret := (some .long)) (by decide) rfl rfl (Nat.le_of_ble_eq_true rfl) ?_
  intro p e s m below meth c hx hb hts hown hr hlocks hml hEx hsz hz hS ls hl
  subst hsz
  have hl : lv_has ls 7 [(0, .long a0), (2, .int i0), (3, .long b0), (5, .int j0)] := hl
  refine lv_iload_n hx hb dX0_sum_0 rfl (lv_at hl 1 rfl) ?_
  refine lv_iload hx hb dX0_sum_1 (lv_at hl 3 rfl) ?_
  refine va_mmax (own := RX0) hx hb (hml.trans hl.1.symm) hown (hts (.methodLink RX0 9 Lib.Math.max.name) (by decide +kernel)) (hts (.static Lib.Math.max.name) (by decide +kernel)) (hts (.initialized "java/lang/Math") (by decide +kernel)) (hts (.code Lib.Math.max.name Lib.Math.max.code 2 (some .int)) (by decide +kernel)) (Nat.le_of_ble_eq_true rfl) (Nat.le_of_ble_eq_true rfl) (Nat.le_of_ble_eq_true rfl) (Nat.le_of_ble_eq_true rfl) dX0_sum_3 ?_
  refine lv_istore (lv' := [(6, .int (if i0 < j0 then j0 else i0)), (0, .long a0), (2, .int i0), (3, .long b0), (5, .int j0)]) hx hb dX0_sum_6 hl (by decide) rfl (fun ls hl => ?_)
  refine lv_lload_n hx hb dX0_sum_8 rfl (lv_at hl 1 rfl) ?_
  refine lv_iload hx hb dX0_sum_9 (lv_at hl 0 rfl) ?_
  refine lv_iload_n hx hb dX0_sum_11 rfl (lv_at hl 2 rfl) ?_
  refine lv_isub hx hb dX0_sum_12 ?_
  refine d_calll (As := [.long a0, .int ((if i0 < j0 then j0 else i0) - i0)]) (rest := []) hx hb hml hown hts hEx hlocks hz hS (c_D_raise l hl9 s.heap.size a0 ((if i0 < j0 then j0 else i0) - i0)) (va_cwS 2 hts gX0_sum_X0_raise rfl rfl rfl (by decide +kernel) ⟨(Nat.le_of_ble_eq_true rfl), (Nat.le_of_ble_eq_true rfl)⟩) rfl hl.1 rfl (Nat.le_of_ble_eq_true rfl) dX0_sum_13 ⟨(Nat.le_of_ble_eq_true rfl), (Nat.le_of_ble_eq_true rfl)⟩ ⟨rfl, rfl⟩ (fun E hw_13 => (by unfold D_sum; first | simp only [hw_13, ↓reduceIte] | rfl)) (fun r_13 H locs hw_13 hS => ?_)
  refine lv_lload_n hx hb dX0_sum_16 rfl (lv_at hl 3 rfl) ?_
  refine lv_iload hx hb dX0_sum_17 (lv_at hl 0 rfl) ?_
  refine lv_iload hx hb dX0_sum_19 (lv_at hl 4 rfl) ?_
  refine lv_isub hx hb dX0_sum_21 ?_
  refine d_calll (As := [.long b0, .int ((if i0 < j0 then j0 else i0) - j0)]) (rest := [.long r_13]) hx hb hml hown hts hEx hlocks hz hS (c_D_raise l hl9 H.size b0 ((if i0 < j0 then j0 else i0) - j0)) (va_cwS 2 hts gX0_sum_X0_raise rfl rfl rfl (by decide +kernel) ⟨(Nat.le_of_ble_eq_true rfl), (Nat.le_of_ble_eq_true rfl)⟩) rfl hl.1 rfl (Nat.le_of_ble_eq_true rfl) dX0_sum_22 ⟨(Nat.le_of_ble_eq_true rfl), (Nat.le_of_ble_eq_true rfl)⟩ ⟨rfl, rfl⟩ (fun E hw_22 => (by unfold D_sum; first | simp only [hw_13, hw_22, ↓reduceIte] | rfl)) (fun r_22 H locs hw_22 hS => ?_)
  refine lv_ladd hx hb dX0_sum_25 ?_
  refine d_calll (As := [.long (r_13 + r_22)]) (rest := []) hx hb hml hown hts hEx hlocks hz hS (c_D_fitting l hl9 H.size (r_13 + r_22)) (va_cwS 1 hts gX0_sum_X0_fitting rfl rfl rfl (by decide +kernel) ⟨(Nat.le_of_ble_eq_true rfl), (Nat.le_of_ble_eq_true rfl)⟩) rfl hl.1 rfl (Nat.le_of_ble_eq_true rfl) dX0_sum_26 ⟨(Nat.le_of_ble_eq_true rfl), (Nat.le_of_ble_eq_true rfl)⟩ ⟨rfl, rfl⟩ (fun E hw_26 => (by unfold D_sum; first | simp only [hw_13, hw_22, hw_26, ↓reduceIte] | rfl)) (fun r_26 H locs hw_26 hS => ?_)
  exact xq_ret (W.lret (v := r_26) hx hb hr (fun t ht hW => ⟨⟨_, (), rfl, (by unfold D_sum; first | simp only [hw_13, hw_22, hw_26, ↓reduceIte] | rfl), trivial⟩, dF hS ht⟩) hS.2.2 dX0_sum_29 hlocks)
def D_cutOff (a0 : Int64) (k0 : Int32) : String ⊕ Int64 := (match D_powerOfTen k0 with | .inl e9 => .inl e9 | .inr r2 => (match D_divide a0 r2 with | .inl e9 => .inl e9 | .inr r5 => .inr r5))
set_option maxHeartbeats 4000000 in
set_option maxRecDepth 100000 in
theorem c_D_cutOff (l : Launch) (hl9 : l.stackTraces = false) (sz : Nat) (a0 : Int64) (k0 : Int32) : xq_Met l yX0_cutOff wsX0_cutOff ({ frames := 2, cells := 1, slots := 6, locals := 34 } : Room) (va_Pc [.long a0, .int k0] (dPre sz)) (va_Ql (fun r (_ : Unit) => D_cutOff a0 k0 = .inr r) (fun _ _ => True) (fun _ => False)) (dX (D_cutOff a0 k0) sz) 0 0 1 6 (fun q => sz ≤ q) := by
  refine d_ofW (cc := cX0_cutOff) (maxL := 3) (ret := (some .long)) (by decide) rfl rfl (Nat.le_of_ble_eq_true rfl) ?_
  intro p e s m below meth c hx hb hts hown hr hlocks hml hEx hsz hz hS ls hl
  subst hsz
  have hl : lv_has ls 3 [(0, .long a0), (2, .int k0)] := hl
  refine lv_lload_n hx hb dX0_cutOff_0 rfl (lv_at hl 0 rfl) ?_
  refine lv_iload_n hx hb dX0_cutOff_1 rfl (lv_at hl 1 rfl) ?_
  refine d_calll (As := [.int k0]) (rest := [.long a0]) hx hb hml hown hts hEx hlocks hz hS (c_D_powerOfTen l hl9 s.heap.size k0) (va_cwS 1 hts gX0_cutOff_X0_powerOfTen rfl rfl rfl (by decide +kernel) ⟨(Nat.le_of_ble_eq_true rfl), (Nat.le_of_ble_eq_true rfl)⟩) rfl hl.1 rfl (Nat.le_of_ble_eq_true rfl) dX0_cutOff_2 ⟨(Nat.le_of_ble_eq_true rfl), (Nat.le_of_ble_eq_true rfl)⟩ ⟨rfl, rfl⟩ (fun E hw_2 => (by unfold D_cutOff; first | simp only [hw_2, ↓reduceIte] | rfl)) (fun r_2 H locs hw_2 hS => ?_)
  refine d_calll (As := [.long a0, .long r_2]) (rest := []) hx hb hml hown hts hEx hlocks hz hS (c_D_divide l hl9 H.size a0 r_2) (va_cwS 2 hts gX0_cutOff_X0_divide rfl rfl rfl (by decide +kernel) ⟨(Nat.le_of_ble_eq_true rfl), (Nat.le_of_ble_eq_true rfl)⟩) rfl hl.1 rfl (Nat.le_of_ble_eq_true rfl) dX0_cutOff_5 ⟨(Nat.le_of_ble_eq_true rfl), (Nat.le_of_ble_eq_true rfl)⟩ ⟨rfl, rfl⟩ (fun E hw_5 => (by unfold D_cutOff; first | simp only [hw_2, hw_5, ↓reduceIte] | rfl)) (fun r_5 H locs hw_5 hS => ?_)
  exact xq_ret (W.lret (v := r_5) hx hb hr (fun t ht hW => ⟨⟨_, (), rfl, (by unfold D_cutOff; first | simp only [hw_2, hw_5, ↓reduceIte] | rfl), trivial⟩, dF hS ht⟩) hS.2.2 dX0_cutOff_8 hlocks)
def D_quotient (a0 : Int64) (i0 : Int32) (b0 : Int64) (j0 : Int32) (k0 : Int32) : String ⊕ Int64 := if b0 = 0 then (.inl "java/lang/ArithmeticException") else if ((k0 + j0) - i0) ≤ 0 then ((match D_raise b0 (-((k0 + j0) - i0)) with | .inl e9 => .inl e9 | .inr r48 => (match D_divide a0 r48 with | .inl e9 => .inl e9 | .inr r51 => .inr r51))) else (match D_raise a0 ((k0 + j0) - i0) with | .inl e9 => .inl e9 | .inr r33 => (match D_divide r33 b0 with | .inl e9 => .inl e9 | .inr r37 => .inr r37))
set_option maxHeartbeats 4000000 in
set_option maxRecDepth 100000 in
theorem c_D_quotient (l : Launch) (hl9 : l.stackTraces = false) (sz : Nat) (a0 : Int64) (i0 : Int32) (b0 : Int64) (j0 : Int32) (k0 : Int32) : xq_Met l yX0_quotient wsX0_quotient ({ frames := 8, cells := 1, slots := 6, locals := 127 } : Room) (va_Pc [.long a0, .int i0, .long b0, .int j0, .int k0] (dPre sz)) (va_Ql (fun r (_ : Unit) => D_quotient a0 i0 b0 j0 k0 = .inr r) (fun _ _ => True) (fun _ => False)) (dX (D_quotient a0 i0 b0 j0 k0) sz) 0 0 1 6 (fun q => sz ≤ q) := by
  refine d_ofW (cc := cX0_quotient) (maxL := 8) (ret := (some .long)) (by decide) rfl rfl (Nat.le_of_ble_eq_true rfl) ?_
  intro p e s m below meth c hx hb hts hown hr hlocks hml hEx hsz hz hS ls hl
  subst hsz
  have hl : lv_has ls 8 [(0, .long a0), (2, .int i0), (3, .long b0), (5, .int j0), (6, .int k0)] := hl
  refine lv_lload_n hx hb dX0_quotient_0 rfl (lv_at hl 2 rfl) ?_
  refine lv_lconst (v := 0) hx hb dX0_quotient_1 (by decide) ?_
  refine W.lcmp hx hb dX0_quotient_2 ?_
  refine lv_if_ne (tgt := 16) hx hb dX0_quotient_3 (by decide) (fun c_3 => ?_) (fun c_3 => ?_)
  · have c_3 := (mt (l_cmp_eq _ _).mpr c_3)
    have c_3 : ¬ (b0 = 0) := c_3
    refine lv_iload hx hb dX0_quotient_16 (lv_at hl 4 rfl) ?_
    refine lv_iload hx hb dX0_quotient_18 (lv_at hl 3 rfl) ?_
    refine lv_iadd hx hb dX0_quotient_20 ?_
    refine lv_iload_n hx hb dX0_quotient_21 rfl (lv_at hl 1 rfl) ?_
    refine lv_isub hx hb dX0_quotient_22 ?_
    refine lv_istore (lv' := [(7, .int ((k0 + j0) - i0)), (0, .long a0), (2, .int i0), (3, .long b0), (5, .int j0), (6, .int k0)]) hx hb dX0_quotient_23 hl (by decide) rfl (fun ls hl => ?_)
    refine lv_iload hx hb dX0_quotient_25 (lv_at hl 0 rfl) ?_
    refine lv_if_le (tgt := 43) hx hb dX0_quotient_27 (by decide) (fun c_27 => ?_) (fun c_27 => ?_)
    · have c_27 : ((k0 + j0) - i0) ≤ 0 := c_27
      refine lv_lload_n hx hb dX0_quotient_43 rfl (lv_at hl 1 rfl) ?_
      refine lv_lload_n hx hb dX0_quotient_44 rfl (lv_at hl 3 rfl) ?_
      refine lv_iload hx hb dX0_quotient_45 (lv_at hl 0 rfl) ?_
      refine lv_ineg hx hb dX0_quotient_47 ?_
      refine d_calll (As := [.long b0, .int (-((k0 + j0) - i0))]) (rest := [.long a0]) hx hb hml hown hts hEx hlocks hz hS (c_D_raise l hl9 s.heap.size b0 (-((k0 + j0) - i0))) (va_cwS 2 hts gX0_quotient_X0_raise rfl rfl rfl (by decide +kernel) ⟨(Nat.le_of_ble_eq_true rfl), (Nat.le_of_ble_eq_true rfl)⟩) rfl hl.1 rfl (Nat.le_of_ble_eq_true rfl) dX0_quotient_48 ⟨(Nat.le_of_ble_eq_true rfl), (Nat.le_of_ble_eq_true rfl)⟩ ⟨rfl, rfl⟩ (fun E hw_48 => (by unfold D_quotient; first | simp only [eq_false c_3, eq_true c_27, hw_48, ↓reduceIte] | rfl)) (fun r_48 H locs hw_48 hS => ?_)
      refine d_calll (As := [.long a0, .long r_48]) (rest := []) hx hb hml hown hts hEx hlocks hz hS (c_D_divide l hl9 H.size a0 r_48) (va_cwS 2 hts gX0_quotient_X0_divide rfl rfl rfl (by decide +kernel) ⟨(Nat.le_of_ble_eq_true rfl), (Nat.le_of_ble_eq_true rfl)⟩) rfl hl.1 rfl (Nat.le_of_ble_eq_true rfl) dX0_quotient_51 ⟨(Nat.le_of_ble_eq_true rfl), (Nat.le_of_ble_eq_true rfl)⟩ ⟨rfl, rfl⟩ (fun E hw_51 => (by unfold D_quotient; first | simp only [eq_false c_3, eq_true c_27, hw_48, hw_51, ↓reduceIte] | rfl)) (fun r_51 H locs hw_51 hS => ?_)
      exact xq_ret (W.lret (v := r_51) hx hb hr (fun t ht hW => ⟨⟨_, (), rfl, (by unfold D_quotient; first | simp only [eq_false c_3, eq_true c_27, hw_48, hw_51, ↓reduceIte] | rfl), trivial⟩, dF hS ht⟩) hS.2.2 dX0_quotient_54 hlocks)
    · have c_27 : ¬ (((k0 + j0) - i0) ≤ 0) := c_27
      refine lv_lload_n hx hb dX0_quotient_30 rfl (lv_at hl 1 rfl) ?_
      refine lv_iload hx hb dX0_quotient_31 (lv_at hl 0 rfl) ?_
      refine d_calll (As := [.long a0, .int ((k0 + j0) - i0)]) (rest := []) hx hb hml hown hts hEx hlocks hz hS (c_D_raise l hl9 s.heap.size a0 ((k0 + j0) - i0)) (va_cwS 2 hts gX0_quotient_X0_raise rfl rfl rfl (by decide +kernel) ⟨(Nat.le_of_ble_eq_true rfl), (Nat.le_of_ble_eq_true rfl)⟩) rfl hl.1 rfl (Nat.le_of_ble_eq_true rfl) dX0_quotient_33 ⟨(Nat.le_of_ble_eq_true rfl), (Nat.le_of_ble_eq_true rfl)⟩ ⟨rfl, rfl⟩ (fun E hw_33 => (by unfold D_quotient; first | simp only [eq_false c_3, eq_false c_27, hw_33, ↓reduceIte] | rfl)) (fun r_33 H locs hw_33 hS => ?_)
      refine lv_lload_n hx hb dX0_quotient_36 rfl (lv_at hl 3 rfl) ?_
      refine d_calll (As := [.long r_33, .long b0]) (rest := []) hx hb hml hown hts hEx hlocks hz hS (c_D_divide l hl9 H.size r_33 b0) (va_cwS 2 hts gX0_quotient_X0_divide rfl rfl rfl (by decide +kernel) ⟨(Nat.le_of_ble_eq_true rfl), (Nat.le_of_ble_eq_true rfl)⟩) rfl hl.1 rfl (Nat.le_of_ble_eq_true rfl) dX0_quotient_37 ⟨(Nat.le_of_ble_eq_true rfl), (Nat.le_of_ble_eq_true rfl)⟩ ⟨rfl, rfl⟩ (fun E hw_37 => (by unfold D_quotient; first | simp only [eq_false c_3, eq_false c_27, hw_33, hw_37, ↓reduceIte] | rfl)) (fun r_37 H locs hw_37 hS => ?_)
      refine lv_goto (tgt := 54) hx hb dX0_quotient_40 (by decide) ?_
      exact xq_ret (W.lret (v := r_37) hx hb hr (fun t ht hW => ⟨⟨_, (), rfl, (by unfold D_quotient; first | simp only [eq_false c_3, eq_false c_27, hw_33, hw_37, ↓reduceIte] | rfl), trivial⟩, dF hS ht⟩) hS.2.2 dX0_quotient_54 hlocks)
  · have c_3 := ((l_cmp_eq _ _).mp c_3)
    have c_3 : b0 = 0 := c_3
    obtain ⟨sa, hstr⟩ := zstr hz (own := RX0) (k := 45) (text := "y is 0") (by decide +kernel)
    exact xq_thr (vx_throwS (own := RX0) (cls := "java/lang/ArithmeticException") (text := "y is 0") (names := ["java/lang/RuntimeException", "java/lang/Exception"]) hx hb hl9 hown (by decide +kernel) (by decide +kernel) (hts (.classLink RX0 43 "java/lang/ArithmeticException") (by decide +kernel)) (hts (.initialized "java/lang/ArithmeticException") (by decide +kernel)) hstr (zhat hz hts (by decide +kernel) (fun w hw => List.mem_cons_of_mem _ (List.mem_append_left _ (List.mem_append_right _ hw))) (by decide +kernel)) (by decide +kernel) hz.2.1 hz.2.2.1 hS (hl.1.trans hml.symm) dX0_quotient_6 dX0_quotient_9 dX0_quotient_10 dX0_quotient_12 dX0_quotient_15 (fun x hx => (hEx x hx).elim) (Nat.le_of_ble_eq_true rfl) (Nat.le_of_ble_eq_true rfl) (Nat.le_of_ble_eq_true rfl) (Nat.le_of_ble_eq_true rfl) hlocks (fun t ha hsz hk => ⟨(), trivial, (by unfold D_quotient; first | simp only [eq_true c_3, ↓reduceIte] | rfl), Nat.le_trans hS.1 hsz, fun q h1 h2 => (hk q (Nat.lt_of_lt_of_le h1 hS.1)).trans (hS.2.1 q h1 h2)⟩) hS.2.2 (Nat.le_of_ble_eq_true rfl) (Nat.le_of_ble_eq_true rfl))
def D_remainder (a0 : Int64) (i0 : Int32) (b0 : Int64) (j0 : Int32) (k0 : Int32) : String ⊕ Int64 := (match D_quotient a0 i0 b0 j0 k0 with | .inl e9 => .inl e9 | .inr r7 => if (if (k0 + j0) < i0 then i0 else (k0 + j0)) ≤ 9 then ((match D_times r7 b0 with | .inl e9 => .inl e9 | .inr r47 => (match D_raise r47 ((if (k0 + j0) < i0 then i0 else (k0 + j0)) - (k0 + j0)) with | .inl e9 => .inl e9 | .inr r55 => (match D_raise a0 ((if (k0 + j0) < i0 then i0 else (k0 + j0)) - i0) with | .inl e9 => .inl e9 | .inr r65 => (match D_fitting (r65 - r55) with | .inl e9 => .inl e9 | .inr r71 => .inr r71))))) else .inl "java/lang/UnsupportedOperationException")
set_option maxHeartbeats 4000000 in
set_option maxRecDepth 100000 in
theorem c_D_remainder (l : Launch) (hl9 : l.stackTraces = false) (sz : Nat) (a0 : Int64) (i0 : Int32) (b0 : Int64) (j0 : Int32) (k0 : Int32) : xq_Met l yX0_remainder wsX0_remainder ({ frames := 9, cells := 1, slots := 6, locals := 154 } : Room) (va_Pc [.long a0, .int i0, .long b0, .int j0, .int k0] (dPre sz)) (va_Ql (fun r (_ : Unit) => D_remainder a0 i0 b0 j0 k0 = .inr r) (fun _ _ => True) (fun _ => False)) (dX (D_remainder a0 i0 b0 j0 k0) sz) 0 0 1 6 (fun q => sz ≤ q) := by
  refine d_ofW (cc := cX0_remainder) (maxL := 13) (ret := (some .long)) (by decide) rfl rfl (Nat.le_of_ble_eq_true rfl) ?_
  intro p e s m below meth c hx hb hts hown hr hlocks hml hEx hsz hz hS ls hl
  subst hsz
  have hl : lv_has ls 13 [(0, .long a0), (2, .int i0), (3, .long b0), (5, .int j0), (6, .int k0)] := hl
  refine lv_lload_n hx hb dX0_remainder_0 rfl (lv_at hl 0 rfl) ?_
  refine lv_iload_n hx hb dX0_remainder_1 rfl (lv_at hl 1 rfl) ?_
  refine lv_lload_n hx hb dX0_remainder_2 rfl (lv_at hl 2 rfl) ?_
  refine lv_iload hx hb dX0_remainder_3 (lv_at hl 3 rfl) ?_
  refine lv_iload hx hb dX0_remainder_5 (lv_at hl 4 rfl) ?_
  refine d_calll (As := [.long a0, .int i0, .long b0, .int j0, .int k0]) (rest := []) hx hb hml hown hts hEx hlocks hz hS (c_D_quotient l hl9 s.heap.size a0 i0 b0 j0 k0) (va_cwS 5 hts gX0_remainder_X0_quotient rfl rfl rfl (by decide +kernel) ⟨(Nat.le_of_ble_eq_true rfl), (Nat.le_of_ble_eq_true rfl)⟩) rfl hl.1 rfl (Nat.le_of_ble_eq_true rfl) dX0_remainder_7 ⟨(Nat.le_of_ble_eq_true rfl), (Nat.le_of_ble_eq_true rfl)⟩ ⟨rfl, rfl⟩ (fun E hw_7 => (by unfold D_remainder; first | simp only [hw_7, ↓reduceIte] | rfl)) (fun r_7 H locs hw_7 hS => ?_)
  refine lv_lstore (lv' := [(7, .long r_7), (0, .long a0), (2, .int i0), (3, .long b0), (5, .int j0), (6, .int k0)]) hx hb dX0_remainder_10 hl (by decide) rfl (fun ls hl => ?_)
  refine lv_iload hx hb dX0_remainder_12 (lv_at hl 5 rfl) ?_
  refine lv_iload hx hb dX0_remainder_14 (lv_at hl 4 rfl) ?_
  refine lv_iadd hx hb dX0_remainder_16 ?_
  refine lv_istore (lv' := [(9, .int (k0 + j0)), (7, .long r_7), (0, .long a0), (2, .int i0), (3, .long b0), (5, .int j0), (6, .int k0)]) hx hb dX0_remainder_17 hl (by decide) rfl (fun ls hl => ?_)
  refine lv_iload hx hb dX0_remainder_19 (lv_at hl 0 rfl) ?_
  refine lv_iload_n hx hb dX0_remainder_21 rfl (lv_at hl 3 rfl) ?_
  refine va_mmax (own := RX0) hx hb (hml.trans hl.1.symm) hown (hts (.methodLink RX0 9 Lib.Math.max.name) (by decide +kernel)) (hts (.static Lib.Math.max.name) (by decide +kernel)) (hts (.initialized "java/lang/Math") (by decide +kernel)) (hts (.code Lib.Math.max.name Lib.Math.max.code 2 (some .int)) (by decide +kernel)) (Nat.le_of_ble_eq_true rfl) (Nat.le_of_ble_eq_true rfl) (Nat.le_of_ble_eq_true rfl) (Nat.le_of_ble_eq_true rfl) dX0_remainder_22 ?_
  refine lv_istore (lv' := [(10, .int (if (k0 + j0) < i0 then i0 else (k0 + j0))), (9, .int (k0 + j0)), (7, .long r_7), (0, .long a0), (2, .int i0), (3, .long b0), (5, .int j0), (6, .int k0)]) hx hb dX0_remainder_25 hl (by decide) rfl (fun ls hl => ?_)
  refine lv_iload hx hb dX0_remainder_27 (lv_at hl 0 rfl) ?_
  refine lv_bipush (v := 9) hx hb dX0_remainder_29 (by decide) ?_
  refine lv_icmp_le (tgt := 44) hx hb dX0_remainder_31 (by decide) (fun c_31 => ?_) (fun c_31 => ?_)
  · have c_31 : (if (k0 + j0) < i0 then i0 else (k0 + j0)) ≤ 9 := c_31
    refine lv_lload hx hb dX0_remainder_44 (lv_at hl 2 rfl) ?_
    refine lv_lload_n hx hb dX0_remainder_46 rfl (lv_at hl 5 rfl) ?_
    refine d_calll (As := [.long r_7, .long b0]) (rest := []) hx hb hml hown hts hEx hlocks hz hS (c_D_times l hl9 H.size r_7 b0) (va_cwS 2 hts gX0_remainder_X0_times rfl rfl rfl (by decide +kernel) ⟨(Nat.le_of_ble_eq_true rfl), (Nat.le_of_ble_eq_true rfl)⟩) rfl hl.1 rfl (Nat.le_of_ble_eq_true rfl) dX0_remainder_47 ⟨(Nat.le_of_ble_eq_true rfl), (Nat.le_of_ble_eq_true rfl)⟩ ⟨rfl, rfl⟩ (fun E hw_47 => (by unfold D_remainder; first | simp only [hw_7, eq_true c_31, hw_47, ↓reduceIte] | rfl)) (fun r_47 H locs hw_47 hS => ?_)
    refine lv_iload hx hb dX0_remainder_50 (lv_at hl 0 rfl) ?_
    refine lv_iload hx hb dX0_remainder_52 (lv_at hl 1 rfl) ?_
    refine lv_isub hx hb dX0_remainder_54 ?_
    refine d_calll (As := [.long r_47, .int ((if (k0 + j0) < i0 then i0 else (k0 + j0)) - (k0 + j0))]) (rest := []) hx hb hml hown hts hEx hlocks hz hS (c_D_raise l hl9 H.size r_47 ((if (k0 + j0) < i0 then i0 else (k0 + j0)) - (k0 + j0))) (va_cwS 2 hts gX0_remainder_X0_raise rfl rfl rfl (by decide +kernel) ⟨(Nat.le_of_ble_eq_true rfl), (Nat.le_of_ble_eq_true rfl)⟩) rfl hl.1 rfl (Nat.le_of_ble_eq_true rfl) dX0_remainder_55 ⟨(Nat.le_of_ble_eq_true rfl), (Nat.le_of_ble_eq_true rfl)⟩ ⟨rfl, rfl⟩ (fun E hw_55 => (by unfold D_remainder; first | simp only [hw_7, eq_true c_31, hw_47, hw_55, ↓reduceIte] | rfl)) (fun r_55 H locs hw_55 hS => ?_)
    refine lv_lstore (lv' := [(11, .long r_55), (10, .int (if (k0 + j0) < i0 then i0 else (k0 + j0))), (9, .int (k0 + j0)), (7, .long r_7), (0, .long a0), (2, .int i0), (3, .long b0), (5, .int j0), (6, .int k0)]) hx hb dX0_remainder_58 hl (by decide) rfl (fun ls hl => ?_)
    refine lv_lload_n hx hb dX0_remainder_60 rfl (lv_at hl 4 rfl) ?_
    refine lv_iload hx hb dX0_remainder_61 (lv_at hl 1 rfl) ?_
    refine lv_iload_n hx hb dX0_remainder_63 rfl (lv_at hl 5 rfl) ?_
    refine lv_isub hx hb dX0_remainder_64 ?_
    refine d_calll (As := [.long a0, .int ((if (k0 + j0) < i0 then i0 else (k0 + j0)) - i0)]) (rest := []) hx hb hml hown hts hEx hlocks hz hS (c_D_raise l hl9 H.size a0 ((if (k0 + j0) < i0 then i0 else (k0 + j0)) - i0)) (va_cwS 2 hts gX0_remainder_X0_raise rfl rfl rfl (by decide +kernel) ⟨(Nat.le_of_ble_eq_true rfl), (Nat.le_of_ble_eq_true rfl)⟩) rfl hl.1 rfl (Nat.le_of_ble_eq_true rfl) dX0_remainder_65 ⟨(Nat.le_of_ble_eq_true rfl), (Nat.le_of_ble_eq_true rfl)⟩ ⟨rfl, rfl⟩ (fun E hw_65 => (by unfold D_remainder; first | simp only [hw_7, eq_true c_31, hw_47, hw_55, hw_65, ↓reduceIte] | rfl)) (fun r_65 H locs hw_65 hS => ?_)
    refine lv_lload hx hb dX0_remainder_68 (lv_at hl 0 rfl) ?_
    refine lv_lsub hx hb dX0_remainder_70 ?_
    refine d_calll (As := [.long (r_65 - r_55)]) (rest := []) hx hb hml hown hts hEx hlocks hz hS (c_D_fitting l hl9 H.size (r_65 - r_55)) (va_cwS 1 hts gX0_remainder_X0_fitting rfl rfl rfl (by decide +kernel) ⟨(Nat.le_of_ble_eq_true rfl), (Nat.le_of_ble_eq_true rfl)⟩) rfl hl.1 rfl (Nat.le_of_ble_eq_true rfl) dX0_remainder_71 ⟨(Nat.le_of_ble_eq_true rfl), (Nat.le_of_ble_eq_true rfl)⟩ ⟨rfl, rfl⟩ (fun E hw_71 => (by unfold D_remainder; first | simp only [hw_7, eq_true c_31, hw_47, hw_55, hw_65, hw_71, ↓reduceIte] | rfl)) (fun r_71 H locs hw_71 hS => ?_)
    exact xq_ret (W.lret (v := r_71) hx hb hr (fun t ht hW => ⟨⟨_, (), rfl, (by unfold D_remainder; first | simp only [hw_7, eq_true c_31, hw_47, hw_55, hw_65, hw_71, ↓reduceIte] | rfl), trivial⟩, dF hS ht⟩) hS.2.2 dX0_remainder_74 hlocks)
  · have c_31 : ¬ ((if (k0 + j0) < i0 then i0 else (k0 + j0)) ≤ 9) := c_31
    obtain ⟨sa, hstr⟩ := zstr hz (own := RX0) (k := 56) (text := "more than 9 places") (by decide +kernel)
    exact xq_thr (vx_throwS (own := RX0) (cls := "java/lang/UnsupportedOperationException") (text := "more than 9 places") (names := ["java/lang/RuntimeException", "java/lang/Exception"]) hx hb hl9 hown (by decide +kernel) (by decide +kernel) (hts (.classLink RX0 36 "java/lang/UnsupportedOperationException") (by decide +kernel)) (hts (.initialized "java/lang/UnsupportedOperationException") (by decide +kernel)) hstr (zhat hz hts (by decide +kernel) (fun w hw => List.mem_cons_of_mem _ (List.mem_append_left _ (List.mem_append_right _ hw))) (by decide +kernel)) (by decide +kernel) hz.2.1 hz.2.2.1 hS (hl.1.trans hml.symm) dX0_remainder_34 dX0_remainder_37 dX0_remainder_38 dX0_remainder_40 dX0_remainder_43 (fun x hx => (hEx x hx).elim) (Nat.le_of_ble_eq_true rfl) (Nat.le_of_ble_eq_true rfl) (Nat.le_of_ble_eq_true rfl) (Nat.le_of_ble_eq_true rfl) hlocks (fun t ha hsz hk => ⟨(), trivial, (by unfold D_remainder; first | simp only [hw_7, eq_false c_31, ↓reduceIte] | rfl), Nat.le_trans hS.1 hsz, fun q h1 h2 => (hk q (Nat.lt_of_lt_of_le h1 hS.1)).trans (hS.2.1 q h1 h2)⟩) hS.2.2 (Nat.le_of_ble_eq_true rfl) (Nat.le_of_ble_eq_true rfl))
def D_asPlaces (a0 : Int64) (i0 : Int32) : String ⊕ Int32 := (match D_cutOff a0 i0 with | .inl e9 => .inl e9 | .inr r2 => if r2 < 0 then (.inl "java/lang/ArithmeticException") else if 9 < r2 then (.inl "java/lang/ArithmeticException") else (match D_raise r2 i0 with | .inl e9 => .inl e9 | .inr r22 => if r22 = a0 then (.inr r2.toInt32) else .inl "java/lang/ArithmeticException"))
set_option maxHeartbeats 4000000 in
set_option maxRecDepth 100000 in
theorem c_D_asPlaces (l : Launch) (hl9 : l.stackTraces = false) (sz : Nat) (a0 : Int64) (i0 : Int32) : xq_Met l yX0_asPlaces wsX0_asPlaces ({ frames := 8, cells := 1, slots := 6, locals := 127 } : Room) (va_Pc [.long a0, .int i0] (dPre sz)) (va_Qi (fun r (_ : Unit) => D_asPlaces a0 i0 = .inr r) (fun _ _ => True) (fun _ => False)) (dX (D_asPlaces a0 i0) sz) 0 0 1 6 (fun q => sz ≤ q) := by
  refine d_ofW (cc := cX0_asPlaces) (maxL := 5) (ret := (some .int)) (by decide) rfl rfl (Nat.le_of_ble_eq_true rfl) ?_
  intro p e s m below meth c hx hb hts hown hr hlocks hml hEx hsz hz hS ls hl
  subst hsz
  have hl : lv_has ls 5 [(0, .long a0), (2, .int i0)] := hl
  refine lv_lload_n hx hb dX0_asPlaces_0 rfl (lv_at hl 0 rfl) ?_
  refine lv_iload_n hx hb dX0_asPlaces_1 rfl (lv_at hl 1 rfl) ?_
  refine d_calll (As := [.long a0, .int i0]) (rest := []) hx hb hml hown hts hEx hlocks hz hS (c_D_cutOff l hl9 s.heap.size a0 i0) (va_cwS 2 hts gX0_asPlaces_X0_cutOff rfl rfl rfl (by decide +kernel) ⟨(Nat.le_of_ble_eq_true rfl), (Nat.le_of_ble_eq_true rfl)⟩) rfl hl.1 rfl (Nat.le_of_ble_eq_true rfl) dX0_asPlaces_2 ⟨(Nat.le_of_ble_eq_true rfl), (Nat.le_of_ble_eq_true rfl)⟩ ⟨rfl, rfl⟩ (fun E hw_2 => (by unfold D_asPlaces; first | simp only [hw_2, ↓reduceIte] | rfl)) (fun r_2 H locs hw_2 hS => ?_)
  refine lv_lstore_n (lv' := [(3, .long r_2), (0, .long a0), (2, .int i0)]) hx hb dX0_asPlaces_5 rfl hl (by decide) rfl (fun ls hl => ?_)
  refine lv_lload_n hx hb dX0_asPlaces_6 rfl (lv_at hl 0 rfl) ?_
  refine lv_lconst (v := 0) hx hb dX0_asPlaces_7 (by decide) ?_
  refine W.lcmp hx hb dX0_asPlaces_8 ?_
  refine lv_if_lt (tgt := 30) hx hb dX0_asPlaces_9 (by decide) (fun c_9 => ?_) (fun c_9 => ?_)
  · have c_9 := ((l_cmp_lt _ _).mp c_9)
    have c_9 : r_2 < 0 := c_9
    obtain ⟨sa, hstr⟩ := zstr hz (own := RX0) (k := 72) (text := "y is no whole number 0 .. 9") (by decide +kernel)
    exact xq_thr (vx_throwS (own := RX0) (cls := "java/lang/ArithmeticException") (text := "y is no whole number 0 .. 9") (names := ["java/lang/RuntimeException", "java/lang/Exception"]) hx hb hl9 hown (by decide +kernel) (by decide +kernel) (hts (.classLink RX0 43 "java/lang/ArithmeticException") (by decide +kernel)) (hts (.initialized "java/lang/ArithmeticException") (by decide +kernel)) hstr (zhat hz hts (by decide +kernel) (fun w hw => List.mem_cons_of_mem _ (List.mem_append_left _ (List.mem_append_right _ hw))) (by decide +kernel)) (by decide +kernel) hz.2.1 hz.2.2.1 hS (hl.1.trans hml.symm) dX0_asPlaces_30 dX0_asPlaces_33 dX0_asPlaces_34 dX0_asPlaces_36 dX0_asPlaces_39 (fun x hx => (hEx x hx).elim) (Nat.le_of_ble_eq_true rfl) (Nat.le_of_ble_eq_true rfl) (Nat.le_of_ble_eq_true rfl) (Nat.le_of_ble_eq_true rfl) hlocks (fun t ha hsz hk => ⟨(), trivial, (by unfold D_asPlaces; first | simp only [hw_2, eq_true c_9, ↓reduceIte] | rfl), Nat.le_trans hS.1 hsz, fun q h1 h2 => (hk q (Nat.lt_of_lt_of_le h1 hS.1)).trans (hS.2.1 q h1 h2)⟩) hS.2.2 (Nat.le_of_ble_eq_true rfl) (Nat.le_of_ble_eq_true rfl))
  · have c_9 := (mt (l_cmp_lt _ _).mpr c_9)
    have c_9 : ¬ (r_2 < 0) := c_9
    refine lv_lload_n hx hb dX0_asPlaces_12 rfl (lv_at hl 0 rfl) ?_
    refine lv_ldc2 (v := 9) hx hb hown (hts (.constantLong RX0 70 (9)) (by decide +kernel)) dX0_asPlaces_13 ?_
    refine W.lcmp hx hb dX0_asPlaces_16 ?_
    refine lv_if_gt (tgt := 30) hx hb dX0_asPlaces_17 (by decide) (fun c_17 => ?_) (fun c_17 => ?_)
    · have c_17 := ((l_cmp_gt _ _).mp c_17)
      have c_17 : 9 < r_2 := c_17
      obtain ⟨sa, hstr⟩ := zstr hz (own := RX0) (k := 72) (text := "y is no whole number 0 .. 9") (by decide +kernel)
      exact xq_thr (vx_throwS (own := RX0) (cls := "java/lang/ArithmeticException") (text := "y is no whole number 0 .. 9") (names := ["java/lang/RuntimeException", "java/lang/Exception"]) hx hb hl9 hown (by decide +kernel) (by decide +kernel) (hts (.classLink RX0 43 "java/lang/ArithmeticException") (by decide +kernel)) (hts (.initialized "java/lang/ArithmeticException") (by decide +kernel)) hstr (zhat hz hts (by decide +kernel) (fun w hw => List.mem_cons_of_mem _ (List.mem_append_left _ (List.mem_append_right _ hw))) (by decide +kernel)) (by decide +kernel) hz.2.1 hz.2.2.1 hS (hl.1.trans hml.symm) dX0_asPlaces_30 dX0_asPlaces_33 dX0_asPlaces_34 dX0_asPlaces_36 dX0_asPlaces_39 (fun x hx => (hEx x hx).elim) (Nat.le_of_ble_eq_true rfl) (Nat.le_of_ble_eq_true rfl) (Nat.le_of_ble_eq_true rfl) (Nat.le_of_ble_eq_true rfl) hlocks (fun t ha hsz hk => ⟨(), trivial, (by unfold D_asPlaces; first | simp only [hw_2, eq_false c_9, eq_true c_17, ↓reduceIte] | rfl), Nat.le_trans hS.1 hsz, fun q h1 h2 => (hk q (Nat.lt_of_lt_of_le h1 hS.1)).trans (hS.2.1 q h1 h2)⟩) hS.2.2 (Nat.le_of_ble_eq_true rfl) (Nat.le_of_ble_eq_true rfl))
    · have c_17 := (mt (l_cmp_gt _ _).mpr c_17)
      have c_17 : ¬ (9 < r_2) := c_17
      refine lv_lload_n hx hb dX0_asPlaces_20 rfl (lv_at hl 0 rfl) ?_
      refine lv_iload_n hx hb dX0_asPlaces_21 rfl (lv_at hl 2 rfl) ?_
      refine d_calll (As := [.long r_2, .int i0]) (rest := []) hx hb hml hown hts hEx hlocks hz hS (c_D_raise l hl9 H.size r_2 i0) (va_cwS 2 hts gX0_asPlaces_X0_raise rfl rfl rfl (by decide +kernel) ⟨(Nat.le_of_ble_eq_true rfl), (Nat.le_of_ble_eq_true rfl)⟩) rfl hl.1 rfl (Nat.le_of_ble_eq_true rfl) dX0_asPlaces_22 ⟨(Nat.le_of_ble_eq_true rfl), (Nat.le_of_ble_eq_true rfl)⟩ ⟨rfl, rfl⟩ (fun E hw_22 => (by unfold D_asPlaces; first | simp only [hw_2, eq_false c_9, eq_false c_17, hw_22, ↓reduceIte] | rfl)) (fun r_22 H locs hw_22 hS => ?_)
      refine lv_lload_n hx hb dX0_asPlaces_25 rfl (lv_at hl 1 rfl) ?_
      refine W.lcmp hx hb dX0_asPlaces_26 ?_
      refine lv_if_eq (tgt := 40) hx hb dX0_asPlaces_27 (by decide) (fun c_27 => ?_) (fun c_27 => ?_)
      · have c_27 := ((l_cmp_eq _ _).mp c_27)
        have c_27 : r_22 = a0 := c_27
        refine lv_lload_n hx hb dX0_asPlaces_40 rfl (lv_at hl 0 rfl) ?_
        refine lv_l2i hx hb dX0_asPlaces_41 rfl ?_
        exact xq_ret (W.iret (v := r_2.toInt32) hx hb hr (fun t ht hW => ⟨⟨_, (), rfl, (by unfold D_asPlaces; first | simp only [hw_2, eq_false c_9, eq_false c_17, hw_22, eq_true c_27, ↓reduceIte] | rfl), trivial⟩, dF hS ht⟩) hS.2.2 dX0_asPlaces_42 hlocks)
      · have c_27 := (mt (l_cmp_eq _ _).mpr c_27)
        have c_27 : ¬ (r_22 = a0) := c_27
        obtain ⟨sa, hstr⟩ := zstr hz (own := RX0) (k := 72) (text := "y is no whole number 0 .. 9") (by decide +kernel)
        exact xq_thr (vx_throwS (own := RX0) (cls := "java/lang/ArithmeticException") (text := "y is no whole number 0 .. 9") (names := ["java/lang/RuntimeException", "java/lang/Exception"]) hx hb hl9 hown (by decide +kernel) (by decide +kernel) (hts (.classLink RX0 43 "java/lang/ArithmeticException") (by decide +kernel)) (hts (.initialized "java/lang/ArithmeticException") (by decide +kernel)) hstr (zhat hz hts (by decide +kernel) (fun w hw => List.mem_cons_of_mem _ (List.mem_append_left _ (List.mem_append_right _ hw))) (by decide +kernel)) (by decide +kernel) hz.2.1 hz.2.2.1 hS (hl.1.trans hml.symm) dX0_asPlaces_30 dX0_asPlaces_33 dX0_asPlaces_34 dX0_asPlaces_36 dX0_asPlaces_39 (fun x hx => (hEx x hx).elim) (Nat.le_of_ble_eq_true rfl) (Nat.le_of_ble_eq_true rfl) (Nat.le_of_ble_eq_true rfl) (Nat.le_of_ble_eq_true rfl) hlocks (fun t ha hsz hk => ⟨(), trivial, (by unfold D_asPlaces; first | simp only [hw_2, eq_false c_9, eq_false c_17, hw_22, eq_false c_27, ↓reduceIte] | rfl), Nat.le_trans hS.1 hsz, fun q h1 h2 => (hk q (Nat.lt_of_lt_of_le h1 hS.1)).trans (hS.2.1 q h1 h2)⟩) hS.2.2 (Nat.le_of_ble_eq_true rfl) (Nat.le_of_ble_eq_true rfl))
def J_compare (a0 : Int64) (b0 : Int64) : Int32 := if b0 ≤ a0 then (if a0 = b0 then 0 else 1) else (-1)
set_option maxHeartbeats 4000000 in
set_option maxRecDepth 100000 in
theorem c_J_compare (l : Launch) (a0 : Int64) (b0 : Int64) : Met l yJ13_compare_74951 wsJ13_compare_74951 ({ frames := 0, cells := 0, slots := 0, locals := 0 } : Room) (va_Pc [.long a0, .long b0] (fun _ => True)) (QcRead (J_compare a0 b0)) 0 0 (fun _ => False) := by
  refine s_ofW (cc := cJ13_compare_74951) (maxL := 4) (ret := (some .int)) (cls := RJ13) (by decide) rfl rfl (Nat.le_of_ble_eq_true rfl) ?_
  intro p e s m below meth c hx hb hts hown hr hlocks hml ls hl
  have hl : lv_has ls 4 [(0, .long a0), (2, .long b0)] := hl
  refine lv_lload_n hx hb dJ13_compare_74951_0 rfl (lv_at hl 0 rfl) ?_
  refine lv_lload_n hx hb dJ13_compare_74951_1 rfl (lv_at hl 1 rfl) ?_
  refine W.lcmp hx hb dJ13_compare_74951_2 ?_
  refine lv_if_ge (tgt := 10) hx hb dJ13_compare_74951_3 (by decide) (fun c_3 => ?_) (fun c_3 => ?_)
  · have c_3 := ((l_cmp_ge _ _).mp c_3)
    have c_3 : b0 ≤ a0 := c_3
    refine lv_lload_n hx hb dJ13_compare_74951_10 rfl (lv_at hl 0 rfl) ?_
    refine lv_lload_n hx hb dJ13_compare_74951_11 rfl (lv_at hl 1 rfl) ?_
    refine W.lcmp hx hb dJ13_compare_74951_12 ?_
    refine lv_if_ne (tgt := 20) hx hb dJ13_compare_74951_13 (by decide) (fun c_13 => ?_) (fun c_13 => ?_)
    · have c_13 := (mt (l_cmp_eq _ _).mpr c_13)
      have c_13 : ¬ (a0 = b0) := c_13
      refine lv_iconst (v := 1) hx hb dJ13_compare_74951_20 (by decide) ?_
      exact W.iret hx hb hr (fun t ht hW => ⟨(by simp only [J_compare, eq_true c_3, eq_false c_13, ↓reduceIte, not_false_eq_true, not_true_eq_false, eq_self]), ht⟩) (fun q h => nomatch h) dJ13_compare_74951_21 hlocks
    · have c_13 := ((l_cmp_eq _ _).mp c_13)
      have c_13 : a0 = b0 := c_13
      refine lv_iconst (v := 0) hx hb dJ13_compare_74951_16 (by decide) ?_
      refine lv_goto (tgt := 21) hx hb dJ13_compare_74951_17 (by decide) ?_
      exact W.iret hx hb hr (fun t ht hW => ⟨(by simp only [J_compare, eq_true c_3, eq_true c_13, ↓reduceIte, not_false_eq_true, not_true_eq_false, eq_self]), ht⟩) (fun q h => nomatch h) dJ13_compare_74951_21 hlocks
  · have c_3 := (mt (l_cmp_ge _ _).mpr c_3)
    have c_3 : ¬ (b0 ≤ a0) := c_3
    refine lv_iconst (v := -1) hx hb dJ13_compare_74951_6 (by decide) ?_
    refine lv_goto (tgt := 21) hx hb dJ13_compare_74951_7 (by decide) ?_
    exact W.iret hx hb hr (fun t ht hW => ⟨(by simp only [J_compare, eq_false c_3, ↓reduceIte, not_false_eq_true, not_true_eq_false, eq_self]), ht⟩) (fun q h => nomatch h) dJ13_compare_74951_21 hlocks
def D_order (a0 : Int64) (i0 : Int32) (b0 : Int64) (j0 : Int32) : String ⊕ Int32 := (match D_raise a0 ((if i0 < j0 then j0 else i0) - i0) with | .inl e9 => .inl e9 | .inr r13 => (match D_raise b0 ((if i0 < j0 then j0 else i0) - j0) with | .inl e9 => .inl e9 | .inr r22 => .inr (J_compare r13 r22)))
set_option maxHeartbeats 4000000 in
set_option maxRecDepth 100000 in
theorem c_D_order (l : Launch) (hl9 : l.stackTraces = false) (sz : Nat) (a0 : Int64) (i0 : Int32) (b0 : Int64) (j0 : Int32) : xq_Met l yX0_order wsX0_order ({ frames := 8, cells := 1, slots := 6, locals := 127 } : Room) (va_Pc [.long a0, .int i0, .long b0, .int j0] (dPre sz)) (va_Qi (fun r (_ : Unit) => D_order a0 i0 b0 j0 = .inr r) (fun _ _ => True) (fun _ => False)) (dX (D_order a0 i0 b0 j0) sz) 0 0 1 6 (fun q => sz ≤ q) := by
  refine d_ofW (cc := cX0_order) (maxL := 7) (ret := (some .int)) (by decide) rfl rfl (Nat.le_of_ble_eq_true rfl) ?_
  intro p e s m below meth c hx hb hts hown hr hlocks hml hEx hsz hz hS ls hl
  subst hsz
  have hl : lv_has ls 7 [(0, .long a0), (2, .int i0), (3, .long b0), (5, .int j0)] := hl
  refine lv_iload_n hx hb dX0_order_0 rfl (lv_at hl 1 rfl) ?_
  refine lv_iload hx hb dX0_order_1 (lv_at hl 3 rfl) ?_
  refine va_mmax (own := RX0) hx hb (hml.trans hl.1.symm) hown (hts (.methodLink RX0 9 Lib.Math.max.name) (by decide +kernel)) (hts (.static Lib.Math.max.name) (by decide +kernel)) (hts (.initialized "java/lang/Math") (by decide +kernel)) (hts (.code Lib.Math.max.name Lib.Math.max.code 2 (some .int)) (by decide +kernel)) (Nat.le_of_ble_eq_true rfl) (Nat.le_of_ble_eq_true rfl) (Nat.le_of_ble_eq_true rfl) (Nat.le_of_ble_eq_true rfl) dX0_order_3 ?_
  refine lv_istore (lv' := [(6, .int (if i0 < j0 then j0 else i0)), (0, .long a0), (2, .int i0), (3, .long b0), (5, .int j0)]) hx hb dX0_order_6 hl (by decide) rfl (fun ls hl => ?_)
  refine lv_lload_n hx hb dX0_order_8 rfl (lv_at hl 1 rfl) ?_
  refine lv_iload hx hb dX0_order_9 (lv_at hl 0 rfl) ?_
  refine lv_iload_n hx hb dX0_order_11 rfl (lv_at hl 2 rfl) ?_
  refine lv_isub hx hb dX0_order_12 ?_
  refine d_calll (As := [.long a0, .int ((if i0 < j0 then j0 else i0) - i0)]) (rest := []) hx hb hml hown hts hEx hlocks hz hS (c_D_raise l hl9 s.heap.size a0 ((if i0 < j0 then j0 else i0) - i0)) (va_cwS 2 hts gX0_order_X0_raise rfl rfl rfl (by decide +kernel) ⟨(Nat.le_of_ble_eq_true rfl), (Nat.le_of_ble_eq_true rfl)⟩) rfl hl.1 rfl (Nat.le_of_ble_eq_true rfl) dX0_order_13 ⟨(Nat.le_of_ble_eq_true rfl), (Nat.le_of_ble_eq_true rfl)⟩ ⟨rfl, rfl⟩ (fun E hw_13 => (by unfold D_order; first | simp only [hw_13, ↓reduceIte] | rfl)) (fun r_13 H locs hw_13 hS => ?_)
  refine lv_lload_n hx hb dX0_order_16 rfl (lv_at hl 3 rfl) ?_
  refine lv_iload hx hb dX0_order_17 (lv_at hl 0 rfl) ?_
  refine lv_iload hx hb dX0_order_19 (lv_at hl 4 rfl) ?_
  refine lv_isub hx hb dX0_order_21 ?_
  refine d_calll (As := [.long b0, .int ((if i0 < j0 then j0 else i0) - j0)]) (rest := [.long r_13]) hx hb hml hown hts hEx hlocks hz hS (c_D_raise l hl9 H.size b0 ((if i0 < j0 then j0 else i0) - j0)) (va_cwS 2 hts gX0_order_X0_raise rfl rfl rfl (by decide +kernel) ⟨(Nat.le_of_ble_eq_true rfl), (Nat.le_of_ble_eq_true rfl)⟩) rfl hl.1 rfl (Nat.le_of_ble_eq_true rfl) dX0_order_22 ⟨(Nat.le_of_ble_eq_true rfl), (Nat.le_of_ble_eq_true rfl)⟩ ⟨rfl, rfl⟩ (fun E hw_22 => (by unfold D_order; first | simp only [hw_13, hw_22, ↓reduceIte] | rfl)) (fun r_22 H locs hw_22 hS => ?_)
  refine W.callR (W.runS (As := [.long r_13, .long r_22]) (rest := []) ⟨hx, hb, hml, hown, hts⟩ (c_J_compare l r_13 r_22) (va_cwS 2 hts gX0_order_J13_compare_74951 rfl rfl rfl (by decide +kernel) ⟨Nat.le_of_ble_eq_true rfl, Nat.le_of_ble_eq_true rfl⟩) ⟨fun a U g mk q => q, fun U _ _ => ⟨rfl, trivial⟩⟩ rfl rfl hl.1 rfl (lv_room (Nat.le_of_ble_eq_true rfl)) dX0_order_25 ⟨Nat.zero_le _, Nat.zero_le _⟩) ?_
  refine W.eq (g2 := F0 m 28 ls [.int (J_compare r_13 r_22)]) rfl ?_
  exact xq_ret (W.iret (v := (J_compare r_13 r_22)) hx hb hr (fun t ht hW => ⟨⟨_, (), rfl, (by unfold D_order; first | simp only [hw_13, hw_22, ↓reduceIte] | rfl), trivial⟩, dF hS ht⟩) hS.2.2 dX0_order_28 hlocks)
def D_root_L38 (a0 : Int64) (i0 : Int32) (j0 : Int32) : Nat → Int64 → Int64 → Int64 → Int32 → String ⊕ Int64
  | 0, _, _, _, _ => .inr 0
  | f + 1, q0, l0, h0, n0 => if 31 ≤ n0 then (.inr l0) else if h0 ≤ l0 then (.inr l0) else if q0 < ((((l0 + h0) + 1) / 2) * (((l0 + h0) + 1) / 2)) then (D_root_L38 a0 i0 j0 f q0 l0 ((((l0 + h0) + 1) / 2) - 1) (n0 + 1)) else D_root_L38 a0 i0 j0 f q0 (((l0 + h0) + 1) / 2) h0 (n0 + 1)
def D_root (a0 : Int64) (i0 : Int32) (j0 : Int32) : String ⊕ Int64 := if 0 ≤ a0 then ((match D_raise a0 ((2 * j0) - i0) with | .inl e9 => .inl e9 | .inr r22 => D_root_L38 a0 i0 j0 (32) r22 0 999999999 0)) else .inl "java/lang/ArithmeticException"
set_option maxHeartbeats 4000000 in
set_option maxRecDepth 100000 in
theorem c_D_root_L38 {p : Program} (l : Launch) (hl9 : l.stackTraces = false) {e : Env} {s : State} {m : MethodId} {below : List Frame} {meth : Method} {c : Code} (a0 : Int64) (i0 : Int32) (j0 : Int32) (hx : p.tables.exec = Jvm.exec) (hb : c.code = cX0_root) (hts : ∀ w ∈ wsX0_root, w.before ([.long a0, .int i0, .int j0] : List Value).toArray s = true) (hown : s.vm.findClass RX0 = some m.cls) (hr : meth.sig.returnType = (some .long)) (hlocks : meth.locks = false) (hml : c.maxLocals = 13) (hEx : ∀ x ∈ c.exceptionTable.toList, False) (hz : zX (fun q => s.heap.size ≤ q) s) (H : Heap) (locs : List Loc) (hS : va_S (fun q => s.heap.size ≤ q) s.heap H locs) :
    ∀ (fu : Nat) (q0 : Int64) (l0 : Int64) (h0 : Int64) (n0 : Int32), D_root a0 i0 j0 = D_root_L38 a0 i0 j0 fu q0 l0 h0 n0 → (0 ≤ n0.toInt) → (n0.toInt ≤ 31) → (32 ≤ n0.toInt + (fu : Int)) → ∀ ls : Array Slot, lv_has ls 13 [(4, .long q0), (6, .long l0), (8, .long h0), (10, .int n0)] → W p l e ({ frames := 8, cells := 1, slots := 6, locals := 127 } : Room) s m ([.long a0, .int i0, .int j0] : List Value).toArray below meth c H locs 0 0 (xq_MQ below (va_Ql (fun r (_ : Unit) => D_root a0 i0 j0 = .inr r) (fun _ _ => True) (fun _ => False)) (dX (D_root a0 i0 j0) s.heap.size) ([.long a0, .int i0, .int j0] : List Value).toArray s 0 0 1 6 (fun q => s.heap.size ≤ q)) (F0 m 38 ls []) := by
  intro fu
  induction fu with
  | zero =>
    intro q0 l0 h0 n0 hI hi0 hi1 hi2
    exact absurd hi2 (by omega)
  | succ fu ih =>
    intro q0 l0 h0 n0 hI hi0 hi1 hi2 ls hl
    refine lv_iload hx hb dX0_root_38 (lv_at hl 3 rfl) ?_
    refine lv_bipush (v := 31) hx hb dX0_root_40 (by decide) ?_
    refine lv_icmp_ge (tgt := 96) hx hb dX0_root_42 (by decide) (fun c_42 => ?_) (fun c_42 => ?_)
    · have c_42 : 31 ≤ n0 := c_42
      refine lv_lload hx hb dX0_root_96 (lv_at hl 1 rfl) ?_
      exact xq_ret (W.lret (v := l0) hx hb hr (fun t ht hW => ⟨⟨_, (), rfl, (by rw [hI]; simp only [D_root_L38, eq_true c_42, ↓reduceIte]), trivial⟩, dF hS ht⟩) hS.2.2 dX0_root_98 hlocks)
    · have c_42 : ¬ (31 ≤ n0) := c_42
      have k_42 : n0.toInt < 31 := by have h9 := c_42; rw [Int32.not_le, Int32.lt_iff_toInt_lt] at h9; exact h9
      have e_42 : (n0 + 1).toInt = n0.toInt + 1 := i_addE rfl (show (1 : Int32).toInt = 1 from rfl) (by omega) (by omega)
      refine lv_lload hx hb dX0_root_45 (lv_at hl 1 rfl) ?_
      refine lv_lload hx hb dX0_root_47 (lv_at hl 2 rfl) ?_
      refine W.lcmp hx hb dX0_root_49 ?_
      refine lv_if_ge (tgt := 96) hx hb dX0_root_50 (by decide) (fun c_50 => ?_) (fun c_50 => ?_)
      · have c_50 := ((l_cmp_ge _ _).mp c_50)
        have c_50 : h0 ≤ l0 := c_50
        refine lv_lload hx hb dX0_root_96 (lv_at hl 1 rfl) ?_
        exact xq_ret (W.lret (v := l0) hx hb hr (fun t ht hW => ⟨⟨_, (), rfl, (by rw [hI]; simp only [D_root_L38, eq_false c_42, eq_true c_50, ↓reduceIte]), trivial⟩, dF hS ht⟩) hS.2.2 dX0_root_98 hlocks)
      · have c_50 := (mt (l_cmp_ge _ _).mpr c_50)
        have c_50 : ¬ (h0 ≤ l0) := c_50
        refine lv_lload hx hb dX0_root_53 (lv_at hl 1 rfl) ?_
        refine lv_lload hx hb dX0_root_55 (lv_at hl 2 rfl) ?_
        refine lv_ladd hx hb dX0_root_57 ?_
        refine lv_lconst (v := 1) hx hb dX0_root_58 (by decide) ?_
        refine lv_ladd hx hb dX0_root_59 ?_
        refine lv_ldc2 (v := 2) hx hb hown (hts (.constantLong RX0 65 (2)) (by decide +kernel)) dX0_root_60 ?_
        refine lv_ldiv hx hb dX0_root_63 (by decide) ?_
        refine lv_lstore (lv' := [(11, .long (((l0 + h0) + 1) / 2)), (4, .long q0), (6, .long l0), (8, .long h0), (10, .int n0)]) hx hb dX0_root_64 hl (by decide) rfl (fun ls hl => ?_)
        refine lv_lload hx hb dX0_root_66 (lv_at hl 0 rfl) ?_
        refine lv_lload hx hb dX0_root_68 (lv_at hl 0 rfl) ?_
        refine lv_lmul hx hb dX0_root_70 ?_
        refine lv_lload hx hb dX0_root_71 (lv_at hl 1 rfl) ?_
        refine W.lcmp hx hb dX0_root_73 ?_
        refine lv_if_gt (tgt := 84) hx hb dX0_root_74 (by decide) (fun c_74 => ?_) (fun c_74 => ?_)
        · have c_74 := ((l_cmp_gt _ _).mp c_74)
          have c_74 : q0 < ((((l0 + h0) + 1) / 2) * (((l0 + h0) + 1) / 2)) := c_74
          refine lv_lload hx hb dX0_root_84 (lv_at hl 0 rfl) ?_
          refine lv_lconst (v := 1) hx hb dX0_root_86 (by decide) ?_
          refine lv_lsub hx hb dX0_root_87 ?_
          refine lv_lstore (lv' := [(8, .long ((((l0 + h0) + 1) / 2) - 1)), (11, .long (((l0 + h0) + 1) / 2)), (4, .long q0), (6, .long l0), (10, .int n0)]) hx hb dX0_root_88 hl (by decide) rfl (fun ls hl => ?_)
          refine lv_iinc (v := (n0 + 1)) (lv' := [(10, .int (n0 + 1)), (8, .long ((((l0 + h0) + 1) / 2) - 1)), (11, .long (((l0 + h0) + 1) / 2)), (4, .long q0), (6, .long l0)]) hx hb dX0_root_90 hl (k := 4) rfl rfl (by decide) rfl (fun ls hl => ?_)
          refine lv_goto (tgt := 38) hx hb dX0_root_93 (by decide) ?_
          exact ih q0 l0 ((((l0 + h0) + 1) / 2) - 1) (n0 + 1) (by rw [hI]; simp only [D_root_L38, eq_false c_42, eq_false c_50, eq_true c_74, ↓reduceIte]) (by omega) (by omega) (by omega) ls (lv_sub hl [3, 4, 1, 0] rfl)
        · have c_74 := (mt (l_cmp_gt _ _).mpr c_74)
          have c_74 : ¬ (q0 < ((((l0 + h0) + 1) / 2) * (((l0 + h0) + 1) / 2))) := c_74
          refine lv_lload hx hb dX0_root_77 (lv_at hl 0 rfl) ?_
          refine lv_lstore (lv' := [(6, .long (((l0 + h0) + 1) / 2)), (11, .long (((l0 + h0) + 1) / 2)), (4, .long q0), (8, .long h0), (10, .int n0)]) hx hb dX0_root_79 hl (by decide) rfl (fun ls hl => ?_)
          refine lv_goto (tgt := 90) hx hb dX0_root_81 (by decide) ?_
          refine lv_iinc (v := (n0 + 1)) (lv' := [(10, .int (n0 + 1)), (6, .long (((l0 + h0) + 1) / 2)), (11, .long (((l0 + h0) + 1) / 2)), (4, .long q0), (8, .long h0)]) hx hb dX0_root_90 hl (k := 4) rfl rfl (by decide) rfl (fun ls hl => ?_)
          refine lv_goto (tgt := 38) hx hb dX0_root_93 (by decide) ?_
          exact ih q0 (((l0 + h0) + 1) / 2) h0 (n0 + 1) (by rw [hI]; simp only [D_root_L38, eq_false c_42, eq_false c_50, eq_false c_74, ↓reduceIte]) (by omega) (by omega) (by omega) ls (lv_sub hl [3, 1, 4, 0] rfl)
set_option maxHeartbeats 4000000 in
set_option maxRecDepth 100000 in
theorem c_D_root (l : Launch) (hl9 : l.stackTraces = false) (sz : Nat) (a0 : Int64) (i0 : Int32) (j0 : Int32) : xq_Met l yX0_root wsX0_root ({ frames := 8, cells := 1, slots := 6, locals := 127 } : Room) (va_Pc [.long a0, .int i0, .int j0] (dPre sz)) (va_Ql (fun r (_ : Unit) => D_root a0 i0 j0 = .inr r) (fun _ _ => True) (fun _ => False)) (dX (D_root a0 i0 j0) sz) 0 0 1 6 (fun q => sz ≤ q) := by
  refine d_ofW (cc := cX0_root) (maxL := 13) (ret := (some .long)) (by decide) rfl rfl (Nat.le_of_ble_eq_true rfl) ?_
  intro p e s m below meth c hx hb hts hown hr hlocks hml hEx hsz hz hS ls hl
  subst hsz
  have hl : lv_has ls 13 [(0, .long a0), (2, .int i0), (3, .int j0)] := hl
  refine lv_lload_n hx hb dX0_root_0 rfl (lv_at hl 0 rfl) ?_
  refine lv_lconst (v := 0) hx hb dX0_root_1 (by decide) ?_
  refine W.lcmp hx hb dX0_root_2 ?_
  refine lv_if_ge (tgt := 16) hx hb dX0_root_3 (by decide) (fun c_3 => ?_) (fun c_3 => ?_)
  · have c_3 := ((l_cmp_ge _ _).mp c_3)
    have c_3 : 0 ≤ a0 := c_3
    refine lv_lload_n hx hb dX0_root_16 rfl (lv_at hl 0 rfl) ?_
    refine lv_iconst (v := 2) hx hb dX0_root_17 (by decide) ?_
    refine lv_iload_n hx hb dX0_root_18 rfl (lv_at hl 2 rfl) ?_
    refine lv_imul hx hb dX0_root_19 ?_
    refine lv_iload_n hx hb dX0_root_20 rfl (lv_at hl 1 rfl) ?_
    refine lv_isub hx hb dX0_root_21 ?_
    refine d_calll (As := [.long a0, .int ((2 * j0) - i0)]) (rest := []) hx hb hml hown hts hEx hlocks hz hS (c_D_raise l hl9 s.heap.size a0 ((2 * j0) - i0)) (va_cwS 2 hts gX0_root_X0_raise rfl rfl rfl (by decide +kernel) ⟨(Nat.le_of_ble_eq_true rfl), (Nat.le_of_ble_eq_true rfl)⟩) rfl hl.1 rfl (Nat.le_of_ble_eq_true rfl) dX0_root_22 ⟨(Nat.le_of_ble_eq_true rfl), (Nat.le_of_ble_eq_true rfl)⟩ ⟨rfl, rfl⟩ (fun E hw_22 => (by unfold D_root; first | simp only [eq_true c_3, hw_22, ↓reduceIte] | rfl)) (fun r_22 H locs hw_22 hS => ?_)
    refine lv_lstore (lv' := [(4, .long r_22), (0, .long a0), (2, .int i0), (3, .int j0)]) hx hb dX0_root_25 hl (by decide) rfl (fun ls hl => ?_)
    refine lv_lconst (v := 0) hx hb dX0_root_27 (by decide) ?_
    refine lv_lstore (lv' := [(6, .long 0), (4, .long r_22), (0, .long a0), (2, .int i0), (3, .int j0)]) hx hb dX0_root_28 hl (by decide) rfl (fun ls hl => ?_)
    refine lv_ldc2 (v := 999999999) hx hb hown (hts (.constantLong RX0 63 (999999999)) (by decide +kernel)) dX0_root_30 ?_
    refine lv_lstore (lv' := [(8, .long 999999999), (6, .long 0), (4, .long r_22), (0, .long a0), (2, .int i0), (3, .int j0)]) hx hb dX0_root_33 hl (by decide) rfl (fun ls hl => ?_)
    refine lv_iconst (v := 0) hx hb dX0_root_35 (by decide) ?_
    refine lv_istore (lv' := [(10, .int 0), (8, .long 999999999), (6, .long 0), (4, .long r_22), (0, .long a0), (2, .int i0), (3, .int j0)]) hx hb dX0_root_36 hl (by decide) rfl (fun ls hl => ?_)
    exact c_D_root_L38 l hl9 a0 i0 j0 hx hb hts hown hr hlocks hml hEx hz _ _ hS 32 r_22 0 999999999 0 (by unfold D_root; first | simp only [eq_true c_3, hw_22, ↓reduceIte] | rfl) (by decide) (by decide) (by decide) ls (lv_sub hl [3, 2, 1, 0] rfl)
  · have c_3 := (mt (l_cmp_ge _ _).mpr c_3)
    have c_3 : ¬ (0 ≤ a0) := c_3
    obtain ⟨sa, hstr⟩ := zstr hz (own := RX0) (k := 61) (text := "y is below 0") (by decide +kernel)
    exact xq_thr (vx_throwS (own := RX0) (cls := "java/lang/ArithmeticException") (text := "y is below 0") (names := ["java/lang/RuntimeException", "java/lang/Exception"]) hx hb hl9 hown (by decide +kernel) (by decide +kernel) (hts (.classLink RX0 43 "java/lang/ArithmeticException") (by decide +kernel)) (hts (.initialized "java/lang/ArithmeticException") (by decide +kernel)) hstr (zhat hz hts (by decide +kernel) (fun w hw => List.mem_cons_of_mem _ (List.mem_append_left _ (List.mem_append_right _ hw))) (by decide +kernel)) (by decide +kernel) hz.2.1 hz.2.2.1 hS (hl.1.trans hml.symm) dX0_root_6 dX0_root_9 dX0_root_10 dX0_root_12 dX0_root_15 (fun x hx => (hEx x hx).elim) (Nat.le_of_ble_eq_true rfl) (Nat.le_of_ble_eq_true rfl) (Nat.le_of_ble_eq_true rfl) (Nat.le_of_ble_eq_true rfl) hlocks (fun t ha hsz hk => ⟨(), trivial, (by unfold D_root; first | simp only [eq_false c_3, ↓reduceIte] | rfl), Nat.le_trans hS.1 hsz, fun q h1 h2 => (hk q (Nat.lt_of_lt_of_le h1 hS.1)).trans (hS.2.1 q h1 h2)⟩) hS.2.2 (Nat.le_of_ble_eq_true rfl) (Nat.le_of_ble_eq_true rfl))
