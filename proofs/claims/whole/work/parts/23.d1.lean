theorem max0 (k : Int32) : 0 ≤ (if k < (0 : Int32) then (0 : Int32) else k).toInt := by
  have z0 : (0 : Int32).toInt = 0 := rfl
  split
  · omega
  · rename_i h; rw [Int32.lt_iff_toInt_lt] at h; omega
theorem pow_ix0 {y : Int32} (h : 0 ≤ y.toInt) : vp_in (if (19 - 1 : Int32) < y then (19 - 1 : Int32) else y) 19 := by
  have z18 : (19 - 1 : Int32).toInt = 18 := by decide
  rw [vp_in_iff]
  split
  · omega
  · rename_i h1; rw [Int32.lt_iff_toInt_lt] at h1; omega
theorem pow_ix {k : Int32} : vp_in (if (19 - 1 : Int32) < (if k < (0 : Int32) then (0 : Int32) else k) then (19 - 1 : Int32) else (if k < (0 : Int32) then (0 : Int32) else k)) 19 := pow_ix0 (max0 k)
theorem abs_nz {b : Int64} (h : ¬ b = 0) : ¬ (if 0 < b then b else -b) = 0 := by
  split
  · exact h
  · intro e; apply h
    have := congrArg (fun x => -x) e
    simpa using this
def D_divide (a0 : Int64) (b0 : Int64) : String ⊕ Int64 := if b0 = 0 then (.inr 0) else .inr (a0 / b0)
set_option maxHeartbeats 4000000 in
set_option maxRecDepth 100000 in
theorem c_D_divide (l : Launch) (hl9 : l.stackTraces = false) (sz : Nat) (a0 : Int64) (b0 : Int64) : xq_Met l yX0_divide wsX0_divide ({ frames := 0, cells := 1, slots := 6, locals := 0 } : Room) (va_Pc [.long a0, .long b0] (dPre sz)) (va_Ql (fun r (_ : Unit) => D_divide a0 b0 = .inr r) (fun _ _ => True) (fun _ => False)) (dX (D_divide a0 b0) sz) 0 0 1 6 (fun q => sz ≤ q) := by
  refine d_ofW (cc := cX0_divide) (maxL := 4) (ret := (some .long)) (by decide) rfl rfl (Nat.le_of_ble_eq_true rfl) ?_
  intro p e s m below meth c hx hb hts hown hr hlocks hml hEx hsz hz hS ls hl
  subst hsz
  have hl : lv_has ls 4 [(0, .long a0), (2, .long b0)] := hl
  refine lv_lload_n hx hb dX0_divide_0 rfl (lv_at hl 1 rfl) ?_
  refine lv_lconst (v := 0) hx hb dX0_divide_1 (by decide) ?_
  refine W.lcmp hx hb dX0_divide_2 ?_
  refine lv_if_ne (tgt := 10) hx hb dX0_divide_3 (by decide) (fun c_3 => ?_) (fun c_3 => ?_)
  · have c_3 := (mt (l_cmp_eq _ _).mpr c_3)
    have c_3 : ¬ (b0 = 0) := c_3
    refine lv_lload_n hx hb dX0_divide_10 rfl (lv_at hl 0 rfl) ?_
    refine lv_lload_n hx hb dX0_divide_11 rfl (lv_at hl 1 rfl) ?_
    refine lv_ldiv hx hb dX0_divide_12 c_3 ?_
    exact xq_ret (W.lret (v := (a0 / b0)) hx hb hr (fun t ht hW => ⟨⟨_, (), rfl, (by simp only [D_divide, eq_false c_3, ↓reduceIte]), trivial⟩, dF hS ht⟩) hS.2.2 dX0_divide_13 hlocks)
  · have c_3 := ((l_cmp_eq _ _).mp c_3)
    have c_3 : b0 = 0 := c_3
    refine lv_lconst (v := 0) hx hb dX0_divide_6 (by decide) ?_
    refine lv_goto (tgt := 13) hx hb dX0_divide_7 (by decide) ?_
    exact xq_ret (W.lret (v := 0) hx hb hr (fun t ht hW => ⟨⟨_, (), rfl, (by simp only [D_divide, eq_true c_3, ↓reduceIte]), trivial⟩, dF hS ht⟩) hS.2.2 dX0_divide_13 hlocks)
def D_powerOfTen (k0 : Int32) : String ⊕ Int64 := .inr (p10 (if (19 - 1) < (if k0 < (0 : Int32) then (0 : Int32) else k0) then (19 - 1) else (if k0 < (0 : Int32) then (0 : Int32) else k0)).toNatClampNeg)
set_option maxHeartbeats 4000000 in
set_option maxRecDepth 100000 in
theorem c_D_powerOfTen (l : Launch) (hl9 : l.stackTraces = false) (sz : Nat) (k0 : Int32) : xq_Met l yX0_powerOfTen wsX0_powerOfTen ({ frames := 1, cells := 1, slots := 6, locals := 14 } : Room) (va_Pc [.int k0] (dPre sz)) (va_Ql (fun r (_ : Unit) => D_powerOfTen k0 = .inr r) (fun _ _ => True) (fun _ => False)) (dX (D_powerOfTen k0) sz) 0 0 1 6 (fun q => sz ≤ q) := by
  refine d_ofW (cc := cX0_powerOfTen) (maxL := 1) (ret := (some .long)) (by decide) rfl rfl (Nat.le_of_ble_eq_true rfl) ?_
  intro p e s m below meth c hx hb hts hown hr hlocks hml hEx hsz hz hS ls hl
  subst hsz
  have hl : lv_has ls 1 [(0, .int k0)] := hl
  obtain ⟨tp, hzp, hzt⟩ := hz.2.2.2
  refine va_gets hx hb hzp hS hown (hts (.fieldLink RX0 78 "DeskStack$Decimal" "POWERS" "[J") (by decide +kernel)) (fun _ h9 => h9) dX0_powerOfTen_0 ?_
  refine lv_iload_n hx hb dX0_powerOfTen_3 rfl (lv_at hl 0 rfl) ?_
  refine lv_iconst (v := 0) hx hb dX0_powerOfTen_4 (by decide) ?_
  refine va_mmax (own := RX0) hx hb (hml.trans hl.1.symm) hown (hts (.methodLink RX0 9 Lib.Math.max.name) (by decide +kernel)) (hts (.static Lib.Math.max.name) (by decide +kernel)) (hts (.initialized "java/lang/Math") (by decide +kernel)) (hts (.code Lib.Math.max.name Lib.Math.max.code 2 (some .int)) (by decide +kernel)) (Nat.le_of_ble_eq_true rfl) (Nat.le_of_ble_eq_true rfl) (Nat.le_of_ble_eq_true rfl) (Nat.le_of_ble_eq_true rfl) dX0_powerOfTen_5 ?_
  refine va_gets hx hb hzp hS hown (hts (.fieldLink RX0 78 "DeskStack$Decimal" "POWERS" "[J") (by decide +kernel)) (fun _ h9 => h9) dX0_powerOfTen_8 ?_
  refine va_tlen (v := 19) hx hb hzt hS rfl dX0_powerOfTen_11 ?_
  refine lv_iconst (v := 1) hx hb dX0_powerOfTen_12 (by decide) ?_
  refine lv_isub hx hb dX0_powerOfTen_13 ?_
  refine va_mmin (own := RX0) hx hb (hml.trans hl.1.symm) hown (hts (.methodLink RX0 82 Lib.Math.min.name) (by decide +kernel)) (hts (.static Lib.Math.min.name) (by decide +kernel)) (hts (.initialized "java/lang/Math") (by decide +kernel)) (hts (.code Lib.Math.min.name Lib.Math.min.code 2 (some .int)) (by decide +kernel)) (Nat.le_of_ble_eq_true rfl) (Nat.le_of_ble_eq_true rfl) (Nat.le_of_ble_eq_true rfl) (Nat.le_of_ble_eq_true rfl) dX0_powerOfTen_14 ?_
  refine va_tl hx hb hzt hS pow_ix rfl dX0_powerOfTen_17 ?_
  exact xq_ret (W.lret (v := (p10 (if (19 - 1) < (if k0 < (0 : Int32) then (0 : Int32) else k0) then (19 - 1) else (if k0 < (0 : Int32) then (0 : Int32) else k0)).toNatClampNeg)) hx hb hr (fun t ht hW => ⟨⟨_, (), rfl, (by simp only [D_powerOfTen, ↓reduceIte]), trivial⟩, dF hS ht⟩) hS.2.2 dX0_powerOfTen_18 hlocks)
def D_times (a0 : Int64) (b0 : Int64) : String ⊕ Int64 := if b0 = 0 then (.inr (a0 * b0)) else if (if 0 < a0 then a0 else -a0) ≤ (999999999999999999 / (if 0 < b0 then b0 else -b0)) then (.inr (a0 * b0)) else .inl "java/lang/UnsupportedOperationException"
set_option maxHeartbeats 4000000 in
set_option maxRecDepth 100000 in
theorem c_D_times (l : Launch) (hl9 : l.stackTraces = false) (sz : Nat) (a0 : Int64) (b0 : Int64) : xq_Met l yX0_times wsX0_times ({ frames := 6, cells := 1, slots := 6, locals := 82 } : Room) (va_Pc [.long a0, .long b0] (dPre sz)) (va_Ql (fun r (_ : Unit) => D_times a0 b0 = .inr r) (fun _ _ => True) (fun _ => False)) (dX (D_times a0 b0) sz) 0 0 1 6 (fun q => sz ≤ q) := by
  refine d_ofW (cc := cX0_times) (maxL := 4) (ret := (some .long)) (by decide) rfl rfl (Nat.le_of_ble_eq_true rfl) ?_
  intro p e s m below meth c hx hb hts hown hr hlocks hml hEx hsz hz hS ls hl
  subst hsz
  have hl : lv_has ls 4 [(0, .long a0), (2, .long b0)] := hl
  refine lv_lload_n hx hb dX0_times_0 rfl (lv_at hl 1 rfl) ?_
  refine lv_lconst (v := 0) hx hb dX0_times_1 (by decide) ?_
  refine W.lcmp hx hb dX0_times_2 ?_
  refine lv_if_eq (tgt := 32) hx hb dX0_times_3 (by decide) (fun c_3 => ?_) (fun c_3 => ?_)
  · have c_3 := ((l_cmp_eq _ _).mp c_3)
    have c_3 : b0 = 0 := c_3
    refine lv_lload_n hx hb dX0_times_32 rfl (lv_at hl 0 rfl) ?_
    refine lv_lload_n hx hb dX0_times_33 rfl (lv_at hl 1 rfl) ?_
    refine lv_lmul hx hb dX0_times_34 ?_
    exact xq_ret (W.lret (v := (a0 * b0)) hx hb hr (fun t ht hW => ⟨⟨_, (), rfl, (by simp only [D_times, eq_true c_3, ↓reduceIte]), trivial⟩, dF hS ht⟩) hS.2.2 dX0_times_35 hlocks)
  · have c_3 := (mt (l_cmp_eq _ _).mpr c_3)
    have c_3 : ¬ (b0 = 0) := c_3
    refine lv_lload_n hx hb dX0_times_6 rfl (lv_at hl 0 rfl) ?_
    refine va_mabs_long (own := RX0) hx hb (hml.trans hl.1.symm) hown (hts (.methodLink RX0 31 Lib.MathLoose.abs_long.x) (by decide +kernel)) (hts (.static Lib.MathLoose.abs_long.x) (by decide +kernel)) (hts (.initialized "java/lang/Math") (by decide +kernel)) (hts (.code Lib.MathLoose.abs_long.x Lib.MathLoose.abs_long.code 2 (some .long)) (by decide +kernel)) (Nat.le_of_ble_eq_true rfl) (Nat.le_of_ble_eq_true rfl) (Nat.le_of_ble_eq_true rfl) (Nat.le_of_ble_eq_true rfl) dX0_times_7 ?_
    refine lv_ldc2 (v := 999999999999999999) hx hb hown (hts (.constantLong RX0 34 (999999999999999999)) (by decide +kernel)) dX0_times_10 ?_
    refine lv_lload_n hx hb dX0_times_13 rfl (lv_at hl 1 rfl) ?_
    refine va_mabs_long (own := RX0) hx hb (hml.trans hl.1.symm) hown (hts (.methodLink RX0 31 Lib.MathLoose.abs_long.x) (by decide +kernel)) (hts (.static Lib.MathLoose.abs_long.x) (by decide +kernel)) (hts (.initialized "java/lang/Math") (by decide +kernel)) (hts (.code Lib.MathLoose.abs_long.x Lib.MathLoose.abs_long.code 2 (some .long)) (by decide +kernel)) (Nat.le_of_ble_eq_true rfl) (Nat.le_of_ble_eq_true rfl) (Nat.le_of_ble_eq_true rfl) (Nat.le_of_ble_eq_true rfl) dX0_times_14 ?_
    refine lv_ldiv hx hb dX0_times_17 (abs_nz c_3) ?_
    refine W.lcmp hx hb dX0_times_18 ?_
    refine lv_if_le (tgt := 32) hx hb dX0_times_19 (by decide) (fun c_19 => ?_) (fun c_19 => ?_)
    · have c_19 := ((l_cmp_le _ _).mp c_19)
      have c_19 : (if 0 < a0 then a0 else -a0) ≤ (999999999999999999 / (if 0 < b0 then b0 else -b0)) := c_19
      refine lv_lload_n hx hb dX0_times_32 rfl (lv_at hl 0 rfl) ?_
      refine lv_lload_n hx hb dX0_times_33 rfl (lv_at hl 1 rfl) ?_
      refine lv_lmul hx hb dX0_times_34 ?_
      exact xq_ret (W.lret (v := (a0 * b0)) hx hb hr (fun t ht hW => ⟨⟨_, (), rfl, (by simp only [D_times, eq_false c_3, eq_true c_19, ↓reduceIte]), trivial⟩, dF hS ht⟩) hS.2.2 dX0_times_35 hlocks)
    · have c_19 := (mt (l_cmp_le _ _).mpr c_19)
      have c_19 : ¬ ((if 0 < a0 then a0 else -a0) ≤ (999999999999999999 / (if 0 < b0 then b0 else -b0))) := c_19
      obtain ⟨sa, hstr⟩ := zstr hz (own := RX0) (k := 38) (text := "more than 18 digits") (by decide +kernel)
      exact xq_thr (vx_throwS (own := RX0) (cls := "java/lang/UnsupportedOperationException") (text := "more than 18 digits") (names := ["java/lang/RuntimeException", "java/lang/Exception"]) hx hb hl9 hown (by decide +kernel) (by decide +kernel) (hts (.classLink RX0 36 "java/lang/UnsupportedOperationException") (by decide +kernel)) (hts (.initialized "java/lang/UnsupportedOperationException") (by decide +kernel)) hstr (zhat hz hts (by decide +kernel) (fun w hw => List.mem_cons_of_mem _ (List.mem_append_right _ hw)) (by decide +kernel)) (by decide +kernel) hz.2.1 hz.2.2.1 hS (hl.1.trans hml.symm) dX0_times_22 dX0_times_25 dX0_times_26 dX0_times_28 dX0_times_31 (fun x hx => (hEx x hx).elim) (Nat.le_of_ble_eq_true rfl) (Nat.le_of_ble_eq_true rfl) (Nat.le_of_ble_eq_true rfl) (Nat.le_of_ble_eq_true rfl) hlocks (fun t ha hsz hk => ⟨(), trivial, (by simp only [D_times, eq_false c_3, eq_false c_19, ↓reduceIte]), Nat.le_trans hS.1 hsz, fun q h1 h2 => (hk q (Nat.lt_of_lt_of_le h1 hS.1)).trans (hS.2.1 q h1 h2)⟩) hS.2.2 (Nat.le_of_ble_eq_true rfl) (Nat.le_of_ble_eq_true rfl))
def D_raise (a0 : Int64) (k0 : Int32) : String ⊕ Int64 := (match D_powerOfTen k0 with | .inl e9 => .inl e9 | .inr r2 => (match D_times a0 r2 with | .inl e9 => .inl e9 | .inr r5 => .inr r5))
set_option maxHeartbeats 4000000 in
set_option maxRecDepth 100000 in
theorem c_D_raise (l : Launch) (hl9 : l.stackTraces = false) (sz : Nat) (a0 : Int64) (k0 : Int32) : xq_Met l yX0_raise wsX0_raise ({ frames := 7, cells := 1, slots := 6, locals := 105 } : Room) (va_Pc [.long a0, .int k0] (dPre sz)) (va_Ql (fun r (_ : Unit) => D_raise a0 k0 = .inr r) (fun _ _ => True) (fun _ => False)) (dX (D_raise a0 k0) sz) 0 0 1 6 (fun q => sz ≤ q) := by
  refine d_ofW (cc := cX0_raise) (maxL := 3) (ret := (some .long)) (by decide) rfl rfl (Nat.le_of_ble_eq_true rfl) ?_
  intro p e s m below meth c hx hb hts hown hr hlocks hml hEx hsz hz hS ls hl
  subst hsz
  have hl : lv_has ls 3 [(0, .long a0), (2, .int k0)] := hl
  refine lv_lload_n hx hb dX0_raise_0 rfl (lv_at hl 0 rfl) ?_
  refine lv_iload_n hx hb dX0_raise_1 rfl (lv_at hl 1 rfl) ?_
  refine d_calll (As := [.int k0]) (rest := [.long a0]) hx hb hml hown hts hEx hlocks hz hS (c_D_powerOfTen l hl9 s.heap.size k0) (va_cwS 1 hts gX0_raise_X0_powerOfTen rfl rfl rfl (by decide +kernel) ⟨(Nat.le_of_ble_eq_true rfl), (Nat.le_of_ble_eq_true rfl)⟩) rfl hl.1 rfl (Nat.le_of_ble_eq_true rfl) dX0_raise_2 ⟨(Nat.le_of_ble_eq_true rfl), (Nat.le_of_ble_eq_true rfl)⟩ ⟨rfl, rfl⟩ (fun E hw_2 => (by simp only [D_raise, hw_2, ↓reduceIte])) (fun r_2 H locs hw_2 hS => ?_)
  refine d_calll (As := [.long a0, .long r_2]) (rest := []) hx hb hml hown hts hEx hlocks hz hS (c_D_times l hl9 H.size a0 r_2) (va_cwS 2 hts gX0_raise_X0_times rfl rfl rfl (by decide +kernel) ⟨(Nat.le_of_ble_eq_true rfl), (Nat.le_of_ble_eq_true rfl)⟩) rfl hl.1 rfl (Nat.le_of_ble_eq_true rfl) dX0_raise_5 ⟨(Nat.le_of_ble_eq_true rfl), (Nat.le_of_ble_eq_true rfl)⟩ ⟨rfl, rfl⟩ (fun E hw_5 => (by simp only [D_raise, hw_2, hw_5, ↓reduceIte])) (fun r_5 H locs hw_5 hS => ?_)
  exact xq_ret (W.lret (v := r_5) hx hb hr (fun t ht hW => ⟨⟨_, (), rfl, (by simp only [D_raise, hw_2, hw_5, ↓reduceIte]), trivial⟩, dF hS ht⟩) hS.2.2 dX0_raise_8 hlocks)
