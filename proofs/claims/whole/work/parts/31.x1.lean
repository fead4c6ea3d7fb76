theorem row_in {i : Int32} (h0 : ¬ i < 0) (h1 : i < 160) : vp_in i 160 := by
  rw [vp_in_iff]
  rw [Int32.lt_iff_toInt_lt] at h0 h1
  have z0 : (0 : Int32).toInt = 0 := rfl
  have z1 : (160 : Int32).toInt = 160 := rfl
  omega
def Xrow_charAt (σ : XS) (c0 : Nat) (i0 : Int32) : Int32 := if i0 < 0 then 0 else if (σ.1 c0) ≤ i0 then 0 else if i0 < 160 then ((σ.2.1 (c0 + 1) i0.toNatClampNeg)) else 0
set_option maxHeartbeats 4000000 in
set_option maxRecDepth 100000 in
theorem c_Xrow_charAt (l : Launch) (dC : Nat → ClassId) (dI : Nat → Nat → Nat) (kc : Nat → ClassId) (ad : Nat → Nat) (sz : Nat) (σ : XS) (c0 : Nat) (i0 : Int32) (h0 : xv σ c0) : Met l yX2_charAt wsX2_charAt ({ frames := 0, cells := 0, slots := 0, locals := 0 } : Room) (va_Pc [.ref (ad c0), .int i0] (xPre dC dI kc ad sz σ)) (va_Qi (fun r u => r = Xrow_charAt σ c0 i0 ∧ u = σ) (xAt dC dI kc ad (xA kc ad σ sz)) (xA kc ad σ sz)) 0 0 (xA kc ad σ sz) := by
  refine x_ofW (cc := cX2_charAt) (maxL := 2) (ret := (some .int)) (by decide) rfl rfl (Nat.le_of_ble_eq_true rfl) ?_
  intro p e s m below meth c X G hA hr hlocks hml ls hl
  have hl : lv_has ls 2 [(0, .ref (ad c0)), (1, .int i0)] := hl
  have hx := X.1
  have hb := X.2.1
  have hts := X.2.2.1
  have hown := X.2.2.2.1
  have hz := X.2.2.2.2.2
  have hin2 : ∀ w ∈ wsX20, w ∈ wsX2_charAt := (fun w hw => List.mem_cons_of_mem _ (List.mem_append_right _ hw))
  refine lv_iload_n hx hb dX2_charAt_0 rfl (lv_at hl 1 rfl) ?_
  refine lv_if_lt (tgt := 21) hx hb dX2_charAt_1 (by decide) (fun c_1 => ?_) (fun c_1 => ?_)
  · have c_1 : i0 < 0 := c_1
    refine lv_iconst (v := 0) hx hb dX2_charAt_21 (by decide) ?_
    refine lv_goto (tgt := 31) hx hb dX2_charAt_22 (by decide) ?_
    exact x_iret (v := 0) X G hr hlocks ⟨(by simp only [Xrow_charAt, eq_true c_1, ↓reduceIte]), rfl⟩ dX2_charAt_31
  · have c_1 : ¬ (i0 < 0) := c_1
    refine lv_iload_n hx hb dX2_charAt_4 rfl (lv_at hl 1 rfl) ?_
    refine lv_aload_n hx hb dX2_charAt_5 rfl (lv_at hl 0 rfl) ?_
    refine x_rget_1 X G hin2 h0 (by decide +kernel) dX2_charAt_6 ?_
    refine lv_icmp_ge (tgt := 21) hx hb dX2_charAt_9 (by decide) (fun c_9 => ?_) (fun c_9 => ?_)
    · have c_9 : (σ.1 c0) ≤ i0 := c_9
      refine lv_iconst (v := 0) hx hb dX2_charAt_21 (by decide) ?_
      refine lv_goto (tgt := 31) hx hb dX2_charAt_22 (by decide) ?_
      exact x_iret (v := 0) X G hr hlocks ⟨(by simp only [Xrow_charAt, eq_false c_1, eq_true c_9, ↓reduceIte]), rfl⟩ dX2_charAt_31
    · have c_9 : ¬ ((σ.1 c0) ≤ i0) := c_9
      refine lv_iload_n hx hb dX2_charAt_12 rfl (lv_at hl 1 rfl) ?_
      refine lv_aload_n hx hb dX2_charAt_13 rfl (lv_at hl 0 rfl) ?_
      refine x_rget_0 X G hin2 h0 (by decide +kernel) dX2_charAt_14 ?_
      refine x_alenB X G h0 dX2_charAt_17 ?_
      refine lv_icmp_lt (tgt := 25) hx hb dX2_charAt_18 (by decide) (fun c_18 => ?_) (fun c_18 => ?_)
      · have c_18 : i0 < 160 := c_18
        refine lv_aload_n hx hb dX2_charAt_25 rfl (lv_at hl 0 rfl) ?_
        refine x_rget_0 X G hin2 h0 (by decide +kernel) dX2_charAt_26 ?_
        refine lv_iload_n hx hb dX2_charAt_29 rfl (lv_at hl 1 rfl) ?_
        refine x_bld X G h0 (row_in c_1 c_18) dX2_charAt_30 ?_
        exact x_iret (v := (σ.2.1 (c0 + 1) i0.toNatClampNeg)) X G hr hlocks ⟨(by simp only [Xrow_charAt, eq_false c_1, eq_false c_9, eq_true c_18, ↓reduceIte]), rfl⟩ dX2_charAt_31
      · have c_18 : ¬ (i0 < 160) := c_18
        refine lv_iconst (v := 0) hx hb dX2_charAt_21 (by decide) ?_
        refine lv_goto (tgt := 31) hx hb dX2_charAt_22 (by decide) ?_
        exact x_iret (v := 0) X G hr hlocks ⟨(by simp only [Xrow_charAt, eq_false c_1, eq_false c_9, eq_false c_18, ↓reduceIte]), rfl⟩ dX2_charAt_31
def Xrow_append (σ : XS) (c0 : Nat) (i0 : Int32) : XS := if 160 ≤ (σ.1 c0) then σ else (xi (xa σ (c0 + 1) (σ.1 c0).toNatClampNeg (vp_nar .byte i0.toInt8.toInt32)) c0 (((xa σ (c0 + 1) (σ.1 c0).toNatClampNeg (vp_nar .byte i0.toInt8.toInt32)).1 c0) + 1))
set_option maxHeartbeats 4000000 in
set_option maxRecDepth 100000 in
theorem c_Xrow_append (l : Launch) (dC : Nat → ClassId) (dI : Nat → Nat → Nat) (kc : Nat → ClassId) (ad : Nat → Nat) (sz : Nat) (σ : XS) (c0 : Nat) (i0 : Int32) (h0 : xv σ c0) (hsz : ¬ σ.1 c0 < 0) : Met l yX2_append wsX2_append ({ frames := 0, cells := 0, slots := 0, locals := 0 } : Room) (va_Pc [.ref (ad c0), .int i0] (xPre dC dI kc ad sz σ)) (va_Qv (fun u => Xrow_append σ c0 i0 = u) (xAt dC dI kc ad (xA kc ad σ sz)) (xA kc ad σ sz)) 0 0 (xA kc ad σ sz) := by
  refine x_ofW (cc := cX2_append) (maxL := 2) (ret := none) (by decide) rfl rfl (Nat.le_of_ble_eq_true rfl) ?_
  intro p e s m below meth c X G hA hr hlocks hml ls hl
  have hl : lv_has ls 2 [(0, .ref (ad c0)), (1, .int i0)] := hl
  have hx := X.1
  have hb := X.2.1
  have hts := X.2.2.1
  have hown := X.2.2.2.1
  have hz := X.2.2.2.2.2
  have hin2 : ∀ w ∈ wsX20, w ∈ wsX2_append := (fun w hw => List.mem_cons_of_mem _ (List.mem_append_right _ hw))
  refine lv_aload_n hx hb dX2_append_0 rfl (lv_at hl 0 rfl) ?_
  refine x_rget_1 X G hin2 h0 (by decide +kernel) dX2_append_1 ?_
  refine lv_aload_n hx hb dX2_append_4 rfl (lv_at hl 0 rfl) ?_
  refine x_rget_0 X G hin2 h0 (by decide +kernel) dX2_append_5 ?_
  refine x_alenB X G h0 dX2_append_8 ?_
  refine lv_icmp_ge (tgt := 33) hx hb dX2_append_9 (by decide) (fun c_9 => ?_) (fun c_9 => ?_)
  · have c_9 : 160 ≤ (σ.1 c0) := c_9
    exact x_vret X G hr hlocks (by simp only [Xrow_append, eq_true c_9, ↓reduceIte]) dX2_append_33
  · have c_9 : ¬ (160 ≤ (σ.1 c0)) := c_9
    refine lv_aload_n hx hb dX2_append_12 rfl (lv_at hl 0 rfl) ?_
    refine x_rget_0 X G hin2 h0 (by decide +kernel) dX2_append_13 ?_
    refine lv_aload_n hx hb dX2_append_16 rfl (lv_at hl 0 rfl) ?_
    refine x_rget_1 X G hin2 h0 (by decide +kernel) dX2_append_17 ?_
    refine lv_iload_n hx hb dX2_append_20 rfl (lv_at hl 1 rfl) ?_
    refine lv_i2b hx hb dX2_append_21 rfl ?_
    refine x_bst X G h0 (row_in hsz (Int32.not_le.mp c_9)) dX2_append_22 (fun H locs G => ?_)
    have G : xH dC dI kc ad (xa σ (c0 + 1) (σ.1 c0).toNatClampNeg (vp_nar .byte i0.toInt8.toInt32)) _ s.heap H locs := G
    refine lv_aload_n hx hb dX2_append_23 rfl (lv_at hl 0 rfl) ?_
    refine lv_dup hx hb dX2_append_24 rfl ?_
    refine x_rget_1 X G hin2 h0 (by decide +kernel) dX2_append_25 ?_
    refine lv_iconst (v := 1) hx hb dX2_append_28 (by decide) ?_
    refine lv_iadd hx hb dX2_append_29 ?_
    refine x_rput_1 X G hin2 h0 (by decide +kernel) dX2_append_30 (fun H locs G => ?_)
    have G : xH dC dI kc ad (xi (xa σ (c0 + 1) (σ.1 c0).toNatClampNeg (vp_nar .byte i0.toInt8.toInt32)) c0 (((xa σ (c0 + 1) (σ.1 c0).toNatClampNeg (vp_nar .byte i0.toInt8.toInt32)).1 c0) + 1)) _ s.heap H locs := G
    exact x_vret X G hr hlocks (by simp only [Xrow_append, eq_false c_9, ↓reduceIte]) dX2_append_33
def Xsh_isFull (σ : XS) (c0 : Nat) : Int32 := if (σ.1 c0) < (Int32.ofNat (xlen c0)) then 0 else 1
set_option maxHeartbeats 4000000 in
set_option maxRecDepth 100000 in
theorem c_Xsh_isFull (l : Launch) (dC : Nat → ClassId) (dI : Nat → Nat → Nat) (kc : Nat → ClassId) (ad : Nat → Nat) (sz : Nat) (σ : XS) (c0 : Nat) (h0 : c0 ∈ shN) : Met l yX3_isFull wsX3_isFull ({ frames := 0, cells := 0, slots := 0, locals := 0 } : Room) (va_Pc [.ref (ad c0)] (xPre dC dI kc ad sz σ)) (va_Qi (fun r u => r = Xsh_isFull σ c0 ∧ u = σ) (xAt dC dI kc ad (xA kc ad σ sz)) (xA kc ad σ sz)) 0 0 (xA kc ad σ sz) := by
  refine x_ofW (cc := cX3_isFull) (maxL := 1) (ret := (some .boolean)) (by decide) rfl rfl (Nat.le_of_ble_eq_true rfl) ?_
  intro p e s m below meth c X G hA hr hlocks hml ls hl
  have hl : lv_has ls 1 [(0, .ref (ad c0))] := hl
  have hx := X.1
  have hb := X.2.1
  have hts := X.2.2.1
  have hown := X.2.2.2.1
  have hz := X.2.2.2.2.2
  have hin3 : ∀ w ∈ wsX30, w ∈ wsX3_isFull := (fun w hw => List.mem_cons_of_mem _ (List.mem_append_right _ hw))
  refine lv_aload_n hx hb dX3_isFull_0 rfl (lv_at hl 0 rfl) ?_
  refine x_sget_4 X G hin3 h0 (by decide +kernel) dX3_isFull_1 ?_
  refine lv_aload_n hx hb dX3_isFull_4 rfl (lv_at hl 0 rfl) ?_
  refine x_sget_0 X G hin3 h0 (by decide +kernel) dX3_isFull_5 ?_
  refine x_alenJ X G (xJ_sh h0) dX3_isFull_8 ?_
  refine lv_icmp_lt (tgt := 16) hx hb dX3_isFull_9 (by decide) (fun c_9 => ?_) (fun c_9 => ?_)
  · have c_9 : (σ.1 c0) < (Int32.ofNat (xlen c0)) := c_9
    refine lv_iconst (v := 0) hx hb dX3_isFull_16 (by decide) ?_
    exact x_zret (v := 0) X G hr hlocks rfl ⟨(by simp only [Xsh_isFull, eq_true c_9, ↓reduceIte]), rfl⟩ dX3_isFull_17
  · have c_9 : ¬ ((σ.1 c0) < (Int32.ofNat (xlen c0))) := c_9
    refine lv_iconst (v := 1) hx hb dX3_isFull_12 (by decide) ?_
    refine lv_goto (tgt := 17) hx hb dX3_isFull_13 (by decide) ?_
    exact x_zret (v := 1) X G hr hlocks rfl ⟨(by simp only [Xsh_isFull, eq_false c_9, ↓reduceIte]), rfl⟩ dX3_isFull_17
def Xsh_has (σ : XS) (c0 : Nat) (i0 : Int32) : Int32 := if i0 < 0 then 0 else if (σ.1 c0) ≤ i0 then 0 else if (Int32.ofNat (xlen c0)) ≤ i0 then 0 else 1
theorem has_in {σ : XS} {c0 : Nat} {i0 : Int32} (hs : c0 ∈ shN) (h : ¬ Xsh_has σ c0 i0 = 0) : vp_in i0 (xlen c0) := by
  unfold Xsh_has at h
  by_cases h1 : i0 < 0
  · exact absurd (by simp only [h1, ↓reduceIte]) h
  · by_cases h2 : σ.1 c0 ≤ i0
    · exact absurd (by simp only [h1, h2, ↓reduceIte]) h
    · by_cases h3 : Int32.ofNat (xlen c0) ≤ i0
      · exact absurd (by simp only [h1, h2, h3, ↓reduceIte]) h
      · exact sh_in hs h1 (Int32.not_le.mp h3)
set_option maxHeartbeats 4000000 in
set_option maxRecDepth 100000 in
theorem c_Xsh_has (l : Launch) (dC : Nat → ClassId) (dI : Nat → Nat → Nat) (kc : Nat → ClassId) (ad : Nat → Nat) (sz : Nat) (σ : XS) (c0 : Nat) (i0 : Int32) (h0 : c0 ∈ shN) : Met l yX3_has wsX3_has ({ frames := 0, cells := 0, slots := 0, locals := 0 } : Room) (va_Pc [.ref (ad c0), .int i0] (xPre dC dI kc ad sz σ)) (va_Qi (fun r u => r = Xsh_has σ c0 i0 ∧ u = σ) (xAt dC dI kc ad (xA kc ad σ sz)) (xA kc ad σ sz)) 0 0 (xA kc ad σ sz) := by
  refine x_ofW (cc := cX3_has) (maxL := 2) (ret := (some .boolean)) (by decide) rfl rfl (Nat.le_of_ble_eq_true rfl) ?_
  intro p e s m below meth c X G hA hr hlocks hml ls hl
  have hl : lv_has ls 2 [(0, .ref (ad c0)), (1, .int i0)] := hl
  have hx := X.1
  have hb := X.2.1
  have hts := X.2.2.1
  have hown := X.2.2.2.1
  have hz := X.2.2.2.2.2
  have hin3 : ∀ w ∈ wsX30, w ∈ wsX3_has := (fun w hw => List.mem_cons_of_mem _ (List.mem_append_right _ hw))
  refine lv_iload_n hx hb dX3_has_0 rfl (lv_at hl 1 rfl) ?_
  refine lv_if_lt (tgt := 25) hx hb dX3_has_1 (by decide) (fun c_1 => ?_) (fun c_1 => ?_)
  · have c_1 : i0 < 0 := c_1
    refine lv_iconst (v := 0) hx hb dX3_has_25 (by decide) ?_
    exact x_zret (v := 0) X G hr hlocks rfl ⟨(by simp only [Xsh_has, eq_true c_1, ↓reduceIte]), rfl⟩ dX3_has_26
  · have c_1 : ¬ (i0 < 0) := c_1
    refine lv_iload_n hx hb dX3_has_4 rfl (lv_at hl 1 rfl) ?_
    refine lv_aload_n hx hb dX3_has_5 rfl (lv_at hl 0 rfl) ?_
    refine x_sget_4 X G hin3 h0 (by decide +kernel) dX3_has_6 ?_
    refine lv_icmp_ge (tgt := 25) hx hb dX3_has_9 (by decide) (fun c_9 => ?_) (fun c_9 => ?_)
    · have c_9 : (σ.1 c0) ≤ i0 := c_9
      refine lv_iconst (v := 0) hx hb dX3_has_25 (by decide) ?_
      exact x_zret (v := 0) X G hr hlocks rfl ⟨(by simp only [Xsh_has, eq_false c_1, eq_true c_9, ↓reduceIte]), rfl⟩ dX3_has_26
    · have c_9 : ¬ ((σ.1 c0) ≤ i0) := c_9
      refine lv_iload_n hx hb dX3_has_12 rfl (lv_at hl 1 rfl) ?_
      refine lv_aload_n hx hb dX3_has_13 rfl (lv_at hl 0 rfl) ?_
      refine x_sget_0 X G hin3 h0 (by decide +kernel) dX3_has_14 ?_
      refine x_alenJ X G (xJ_sh h0) dX3_has_17 ?_
      refine lv_icmp_ge (tgt := 25) hx hb dX3_has_18 (by decide) (fun c_18 => ?_) (fun c_18 => ?_)
      · have c_18 : (Int32.ofNat (xlen c0)) ≤ i0 := c_18
        refine lv_iconst (v := 0) hx hb dX3_has_25 (by decide) ?_
        exact x_zret (v := 0) X G hr hlocks rfl ⟨(by simp only [Xsh_has, eq_false c_1, eq_false c_9, eq_true c_18, ↓reduceIte]), rfl⟩ dX3_has_26
      · have c_18 : ¬ ((Int32.ofNat (xlen c0)) ≤ i0) := c_18
        refine lv_iconst (v := 1) hx hb dX3_has_21 (by decide) ?_
        refine lv_goto (tgt := 26) hx hb dX3_has_22 (by decide) ?_
        exact x_zret (v := 1) X G hr hlocks rfl ⟨(by simp only [Xsh_has, eq_false c_1, eq_false c_9, eq_false c_18, ↓reduceIte]), rfl⟩ dX3_has_26
def Xsh_slotBelowTop (σ : XS) (c0 : Nat) (i0 : Int32) : Int32 := if i0 < 0 then (-1) else if i0 < (σ.1 c0) then ((((σ.1 c0) - 1) - i0)) else (-1)
set_option maxHeartbeats 4000000 in
set_option maxRecDepth 100000 in
theorem c_Xsh_slotBelowTop (l : Launch) (dC : Nat → ClassId) (dI : Nat → Nat → Nat) (kc : Nat → ClassId) (ad : Nat → Nat) (sz : Nat) (σ : XS) (c0 : Nat) (i0 : Int32) (h0 : c0 ∈ shN) : Met l yX3_slotBelowTop wsX3_slotBelowTop ({ frames := 0, cells := 0, slots := 0, locals := 0 } : Room) (va_Pc [.ref (ad c0), .int i0] (xPre dC dI kc ad sz σ)) (va_Qi (fun r u => r = Xsh_slotBelowTop σ c0 i0 ∧ u = σ) (xAt dC dI kc ad (xA kc ad σ sz)) (xA kc ad σ sz)) 0 0 (xA kc ad σ sz) := by
  refine x_ofW (cc := cX3_slotBelowTop) (maxL := 2) (ret := (some .int)) (by decide) rfl rfl (Nat.le_of_ble_eq_true rfl) ?_
  intro p e s m below meth c X G hA hr hlocks hml ls hl
  have hl : lv_has ls 2 [(0, .ref (ad c0)), (1, .int i0)] := hl
  have hx := X.1
  have hb := X.2.1
  have hts := X.2.2.1
  have hown := X.2.2.2.1
  have hz := X.2.2.2.2.2
  have hin3 : ∀ w ∈ wsX30, w ∈ wsX3_slotBelowTop := (fun w hw => List.mem_cons_of_mem _ (List.mem_append_right _ hw))
  refine lv_iload_n hx hb dX3_slotBelowTop_0 rfl (lv_at hl 1 rfl) ?_
  refine lv_if_lt (tgt := 12) hx hb dX3_slotBelowTop_1 (by decide) (fun c_1 => ?_) (fun c_1 => ?_)
  · have c_1 : i0 < 0 := c_1
    refine lv_iconst (v := -1) hx hb dX3_slotBelowTop_12 (by decide) ?_
    refine lv_goto (tgt := 24) hx hb dX3_slotBelowTop_13 (by decide) ?_
    exact x_iret (v := (-1)) X G hr hlocks ⟨(by simp only [Xsh_slotBelowTop, eq_true c_1, ↓reduceIte]), rfl⟩ dX3_slotBelowTop_24
  · have c_1 : ¬ (i0 < 0) := c_1
    refine lv_iload_n hx hb dX3_slotBelowTop_4 rfl (lv_at hl 1 rfl) ?_
    refine lv_aload_n hx hb dX3_slotBelowTop_5 rfl (lv_at hl 0 rfl) ?_
    refine x_sget_4 X G hin3 h0 (by decide +kernel) dX3_slotBelowTop_6 ?_
    refine lv_icmp_lt (tgt := 16) hx hb dX3_slotBelowTop_9 (by decide) (fun c_9 => ?_) (fun c_9 => ?_)
    · have c_9 : i0 < (σ.1 c0) := c_9
      refine lv_aload_n hx hb dX3_slotBelowTop_16 rfl (lv_at hl 0 rfl) ?_
      refine x_sget_4 X G hin3 h0 (by decide +kernel) dX3_slotBelowTop_17 ?_
      refine lv_iconst (v := 1) hx hb dX3_slotBelowTop_20 (by decide) ?_
      refine lv_isub hx hb dX3_slotBelowTop_21 ?_
      refine lv_iload_n hx hb dX3_slotBelowTop_22 rfl (lv_at hl 1 rfl) ?_
      refine lv_isub hx hb dX3_slotBelowTop_23 ?_
      exact x_iret (v := (((σ.1 c0) - 1) - i0)) X G hr hlocks ⟨(by simp only [Xsh_slotBelowTop, eq_false c_1, eq_true c_9, ↓reduceIte]), rfl⟩ dX3_slotBelowTop_24
    · have c_9 : ¬ (i0 < (σ.1 c0)) := c_9
      refine lv_iconst (v := -1) hx hb dX3_slotBelowTop_12 (by decide) ?_
      refine lv_goto (tgt := 24) hx hb dX3_slotBelowTop_13 (by decide) ?_
      exact x_iret (v := (-1)) X G hr hlocks ⟨(by simp only [Xsh_slotBelowTop, eq_false c_1, eq_false c_9, ↓reduceIte]), rfl⟩ dX3_slotBelowTop_24
def Xsh_valueAt (σ : XS) (c0 : Nat) (i0 : Int32) : Int64 := if (Xsh_has σ c0 i0) = 0 then 0 else (σ.2.2.1 ((c0 + 1)) i0.toNatClampNeg)
set_option maxHeartbeats 4000000 in
set_option maxRecDepth 100000 in
theorem c_Xsh_valueAt (l : Launch) (dC : Nat → ClassId) (dI : Nat → Nat → Nat) (kc : Nat → ClassId) (ad : Nat → Nat) (sz : Nat) (σ : XS) (c0 : Nat) (i0 : Int32) (h0 : c0 ∈ shN) : Met l yX3_valueAt wsX3_valueAt ({ frames := 1, cells := 0, slots := 0, locals := 21 } : Room) (va_Pc [.ref (ad c0), .int i0] (xPre dC dI kc ad sz σ)) (va_Ql (fun r u => r = Xsh_valueAt σ c0 i0 ∧ u = σ) (xAt dC dI kc ad (xA kc ad σ sz)) (xA kc ad σ sz)) 0 0 (xA kc ad σ sz) := by
  refine x_ofW (cc := cX3_valueAt) (maxL := 2) (ret := (some .long)) (by decide) rfl rfl (Nat.le_of_ble_eq_true rfl) ?_
  intro p e s m below meth c X G hA hr hlocks hml ls hl
  have hl : lv_has ls 2 [(0, .ref (ad c0)), (1, .int i0)] := hl
  have hx := X.1
  have hb := X.2.1
  have hts := X.2.2.1
  have hown := X.2.2.2.1
  have hz := X.2.2.2.2.2
  have hin3 : ∀ w ∈ wsX30, w ∈ wsX3_valueAt := (fun w hw => List.mem_cons_of_mem _ (List.mem_append_right _ hw))
  refine lv_aload_n hx hb dX3_valueAt_0 rfl (lv_at hl 0 rfl) ?_
  refine lv_iload_n hx hb dX3_valueAt_1 rfl (lv_at hl 1 rfl) ?_
  refine x_calli (As := [.int i0]) (rest := []) X hml G hA (xW_sh h0) rfl (c_Xsh_has l dC dI kc ad _ σ c0 i0 h0) (cwV 1 hts gX3_valueAt_X3_has rfl rfl rfl (by decide +kernel) ⟨Nat.le_of_ble_eq_true rfl, Nat.le_of_ble_eq_true rfl⟩) rfl hl.1 rfl (Nat.le_of_ble_eq_true rfl) dX3_valueAt_2 ⟨Nat.zero_le _, Nat.zero_le _⟩ (fun r_2 u_2 H locs hw_2 G => ?_)
  obtain ⟨rfl, hu_2⟩ := hw_2
  rw [hu_2] at G
  refine lv_if_eq (tgt := 17) hx hb dX3_valueAt_5 (by decide) (fun c_5 => ?_) (fun c_5 => ?_)
  · have c_5 : (Xsh_has σ c0 i0) = 0 := c_5
    refine lv_lconst (v := 0) hx hb dX3_valueAt_17 (by decide) ?_
    exact x_lret (v := 0) X G hr hlocks ⟨(by simp only [Xsh_valueAt, eq_true c_5, ↓reduceIte]), rfl⟩ dX3_valueAt_18
  · have c_5 : ¬ ((Xsh_has σ c0 i0) = 0) := c_5
    refine lv_aload_n hx hb dX3_valueAt_8 rfl (lv_at hl 0 rfl) ?_
    refine x_sget_0 X G hin3 h0 (by decide +kernel) dX3_valueAt_9 ?_
    refine lv_iload_n hx hb dX3_valueAt_12 rfl (lv_at hl 1 rfl) ?_
    refine x_lld X G (xJ_sh h0) (has_in h0 c_5) dX3_valueAt_13 ?_
    refine lv_goto (tgt := 18) hx hb dX3_valueAt_14 (by decide) ?_
    exact x_lret (v := (σ.2.2.1 ((c0 + 1)) i0.toNatClampNeg)) X G hr hlocks ⟨(by simp only [Xsh_valueAt, eq_false c_5, ↓reduceIte]), rfl⟩ dX3_valueAt_18
def Xsh_placesAt (σ : XS) (c0 : Nat) (i0 : Int32) : Int32 := if (Xsh_has σ c0 i0) = 0 then (-2) else (σ.2.1 ((c0 + 2)) i0.toNatClampNeg)
set_option maxHeartbeats 4000000 in
set_option maxRecDepth 100000 in
theorem c_Xsh_placesAt (l : Launch) (dC : Nat → ClassId) (dI : Nat → Nat → Nat) (kc : Nat → ClassId) (ad : Nat → Nat) (sz : Nat) (σ : XS) (c0 : Nat) (i0 : Int32) (h0 : c0 ∈ shN) : Met l yX3_placesAt wsX3_placesAt ({ frames := 1, cells := 0, slots := 0, locals := 21 } : Room) (va_Pc [.ref (ad c0), .int i0] (xPre dC dI kc ad sz σ)) (va_Qi (fun r u => r = Xsh_placesAt σ c0 i0 ∧ u = σ) (xAt dC dI kc ad (xA kc ad σ sz)) (xA kc ad σ sz)) 0 0 (xA kc ad σ sz) := by
  refine x_ofW (cc := cX3_placesAt) (maxL := 2) (ret := (some .int)) (by decide) rfl rfl (Nat.le_of_ble_eq_true rfl) ?_
  intro p e s m below meth c X G hA hr hlocks hml ls hl
  have hl : lv_has ls 2 [(0, .ref (ad c0)), (1, .int i0)] := hl
  have hx := X.1
  have hb := X.2.1
  have hts := X.2.2.1
  have hown := X.2.2.2.1
  have hz := X.2.2.2.2.2
  have hin3 : ∀ w ∈ wsX30, w ∈ wsX3_placesAt := (fun w hw => List.mem_cons_of_mem _ (List.mem_append_right _ hw))
  refine lv_aload_n hx hb dX3_placesAt_0 rfl (lv_at hl 0 rfl) ?_
  refine lv_iload_n hx hb dX3_placesAt_1 rfl (lv_at hl 1 rfl) ?_
  refine x_calli (As := [.int i0]) (rest := []) X hml G hA (xW_sh h0) rfl (c_Xsh_has l dC dI kc ad _ σ c0 i0 h0) (cwV 1 hts gX3_placesAt_X3_has rfl rfl rfl (by decide +kernel) ⟨Nat.le_of_ble_eq_true rfl, Nat.le_of_ble_eq_true rfl⟩) rfl hl.1 rfl (Nat.le_of_ble_eq_true rfl) dX3_placesAt_2 ⟨Nat.zero_le _, Nat.zero_le _⟩ (fun r_2 u_2 H locs hw_2 G => ?_)
  obtain ⟨rfl, hu_2⟩ := hw_2
  rw [hu_2] at G
  refine lv_if_eq (tgt := 17) hx hb dX3_placesAt_5 (by decide) (fun c_5 => ?_) (fun c_5 => ?_)
  · have c_5 : (Xsh_has σ c0 i0) = 0 := c_5
    refine lv_bipush (v := -2) hx hb dX3_placesAt_17 (by decide) ?_
    exact x_iret (v := (-2)) X G hr hlocks ⟨(by simp only [Xsh_placesAt, eq_true c_5, ↓reduceIte]), rfl⟩ dX3_placesAt_19
  · have c_5 : ¬ ((Xsh_has σ c0 i0) = 0) := c_5
    refine lv_aload_n hx hb dX3_placesAt_8 rfl (lv_at hl 0 rfl) ?_
    refine x_sget_1 X G hin3 h0 (by decide +kernel) dX3_placesAt_9 ?_
    refine lv_iload_n hx hb dX3_placesAt_12 rfl (lv_at hl 1 rfl) ?_
    refine x_ild X G (xI_sh2 h0) (has_in h0 c_5) dX3_placesAt_13 ?_
    refine lv_goto (tgt := 19) hx hb dX3_placesAt_14 (by decide) ?_
    exact x_iret (v := (σ.2.1 ((c0 + 2)) i0.toNatClampNeg)) X G hr hlocks ⟨(by simp only [Xsh_placesAt, eq_false c_5, ↓reduceIte]), rfl⟩ dX3_placesAt_19
def Xsh_rowAt (σ : XS) (c0 : Nat) (i0 : Int32) : Option Nat := if (Xsh_has σ c0 i0) = 0 then (((none : Option Nat))) else ((σ.2.2.2.1 ((c0 + 3)) i0.toNatClampNeg))
set_option maxHeartbeats 4000000 in
set_option maxRecDepth 100000 in
theorem c_Xsh_rowAt (l : Launch) (dC : Nat → ClassId) (dI : Nat → Nat → Nat) (kc : Nat → ClassId) (ad : Nat → Nat) (sz : Nat) (σ : XS) (c0 : Nat) (i0 : Int32) (h0 : c0 ∈ shN) : Met l yX3_rowAt wsX3_rowAt ({ frames := 1, cells := 0, slots := 0, locals := 21 } : Room) (va_Pc [.ref (ad c0), .int i0] (xPre dC dI kc ad sz σ)) (va_Qq (fun r u => ∃ o : Option Nat, r = o.map ad ∧ o = Xsh_rowAt σ c0 i0 ∧ u = σ) (xAt dC dI kc ad (xA kc ad σ sz)) (xA kc ad σ sz)) 0 0 (xA kc ad σ sz) := by
  refine x_ofW (cc := cX3_rowAt) (maxL := 2) (ret := (some (.object "DeskStack$Row"))) (by decide) rfl rfl (Nat.le_of_ble_eq_true rfl) ?_
  intro p e s m below meth c X G hA hr hlocks hml ls hl
  have hl : lv_has ls 2 [(0, .ref (ad c0)), (1, .int i0)] := hl
  have hx := X.1
  have hb := X.2.1
  have hts := X.2.2.1
  have hown := X.2.2.2.1
  have hz := X.2.2.2.2.2
  have hin3 : ∀ w ∈ wsX30, w ∈ wsX3_rowAt := (fun w hw => List.mem_cons_of_mem _ (List.mem_append_right _ hw))
  refine lv_aload_n hx hb dX3_rowAt_0 rfl (lv_at hl 0 rfl) ?_
  refine lv_iload_n hx hb dX3_rowAt_1 rfl (lv_at hl 1 rfl) ?_
  refine x_calli (As := [.int i0]) (rest := []) X hml G hA (xW_sh h0) rfl (c_Xsh_has l dC dI kc ad _ σ c0 i0 h0) (cwV 1 hts gX3_rowAt_X3_has rfl rfl rfl (by decide +kernel) ⟨Nat.le_of_ble_eq_true rfl, Nat.le_of_ble_eq_true rfl⟩) rfl hl.1 rfl (Nat.le_of_ble_eq_true rfl) dX3_rowAt_2 ⟨Nat.zero_le _, Nat.zero_le _⟩ (fun r_2 u_2 H locs hw_2 G => ?_)
  obtain ⟨rfl, hu_2⟩ := hw_2
  rw [hu_2] at G
  refine lv_if_eq (tgt := 17) hx hb dX3_rowAt_5 (by decide) (fun c_5 => ?_) (fun c_5 => ?_)
  · have c_5 : (Xsh_has σ c0 i0) = 0 := c_5
    refine lv_null hx hb dX3_rowAt_17 ?_
    exact x_qret (o := ((none : Option Nat)).map ad) X G hr hlocks ⟨((none : Option Nat)), rfl, ⟨(by simp only [Xsh_rowAt, eq_true c_5, ↓reduceIte]), rfl⟩⟩ dX3_rowAt_18
  · have c_5 : ¬ ((Xsh_has σ c0 i0) = 0) := c_5
    refine lv_aload_n hx hb dX3_rowAt_8 rfl (lv_at hl 0 rfl) ?_
    refine x_sget_2 X G hin3 h0 (by decide +kernel) dX3_rowAt_9 ?_
    refine lv_iload_n hx hb dX3_rowAt_12 rfl (lv_at hl 1 rfl) ?_
    refine x_qld X G (xQ_sh h0) (has_in h0 c_5) dX3_rowAt_13 ?_
    refine lv_goto (tgt := 18) hx hb dX3_rowAt_14 (by decide) ?_
    exact x_qret (o := ((σ.2.2.2.1 ((c0 + 3)) i0.toNatClampNeg)).map ad) X G hr hlocks ⟨((σ.2.2.2.1 ((c0 + 3)) i0.toNatClampNeg)), rfl, ⟨(by simp only [Xsh_rowAt, eq_false c_5, ↓reduceIte]), rfl⟩⟩ dX3_rowAt_18
def Xsh_startAt (σ : XS) (c0 : Nat) (i0 : Int32) : Int32 := if (Xsh_has σ c0 i0) = 0 then 0 else (σ.2.1 ((c0 + 4)) i0.toNatClampNeg)
set_option maxHeartbeats 4000000 in
set_option maxRecDepth 100000 in
theorem c_Xsh_startAt (l : Launch) (dC : Nat → ClassId) (dI : Nat → Nat → Nat) (kc : Nat → ClassId) (ad : Nat → Nat) (sz : Nat) (σ : XS) (c0 : Nat) (i0 : Int32) (h0 : c0 ∈ shN) : Met l yX3_startAt wsX3_startAt ({ frames := 1, cells := 0, slots := 0, locals := 21 } : Room) (va_Pc [.ref (ad c0), .int i0] (xPre dC dI kc ad sz σ)) (va_Qi (fun r u => r = Xsh_startAt σ c0 i0 ∧ u = σ) (xAt dC dI kc ad (xA kc ad σ sz)) (xA kc ad σ sz)) 0 0 (xA kc ad σ sz) := by
  refine x_ofW (cc := cX3_startAt) (maxL := 2) (ret := (some .int)) (by decide) rfl rfl (Nat.le_of_ble_eq_true rfl) ?_
  intro p e s m below meth c X G hA hr hlocks hml ls hl
  have hl : lv_has ls 2 [(0, .ref (ad c0)), (1, .int i0)] := hl
  have hx := X.1
  have hb := X.2.1
  have hts := X.2.2.1
  have hown := X.2.2.2.1
  have hz := X.2.2.2.2.2
  have hin3 : ∀ w ∈ wsX30, w ∈ wsX3_startAt := (fun w hw => List.mem_cons_of_mem _ (List.mem_append_right _ hw))
  refine lv_aload_n hx hb dX3_startAt_0 rfl (lv_at hl 0 rfl) ?_
  refine lv_iload_n hx hb dX3_startAt_1 rfl (lv_at hl 1 rfl) ?_
  refine x_calli (As := [.int i0]) (rest := []) X hml G hA (xW_sh h0) rfl (c_Xsh_has l dC dI kc ad _ σ c0 i0 h0) (cwV 1 hts gX3_startAt_X3_has rfl rfl rfl (by decide +kernel) ⟨Nat.le_of_ble_eq_true rfl, Nat.le_of_ble_eq_true rfl⟩) rfl hl.1 rfl (Nat.le_of_ble_eq_true rfl) dX3_startAt_2 ⟨Nat.zero_le _, Nat.zero_le _⟩ (fun r_2 u_2 H locs hw_2 G => ?_)
  obtain ⟨rfl, hu_2⟩ := hw_2
  rw [hu_2] at G
  refine lv_if_eq (tgt := 17) hx hb dX3_startAt_5 (by decide) (fun c_5 => ?_) (fun c_5 => ?_)
  · have c_5 : (Xsh_has σ c0 i0) = 0 := c_5
    refine lv_iconst (v := 0) hx hb dX3_startAt_17 (by decide) ?_
    exact x_iret (v := 0) X G hr hlocks ⟨(by simp only [Xsh_startAt, eq_true c_5, ↓reduceIte]), rfl⟩ dX3_startAt_18
  · have c_5 : ¬ ((Xsh_has σ c0 i0) = 0) := c_5
    refine lv_aload_n hx hb dX3_startAt_8 rfl (lv_at hl 0 rfl) ?_
    refine x_sget_3 X G hin3 h0 (by decide +kernel) dX3_startAt_9 ?_
    refine lv_iload_n hx hb dX3_startAt_12 rfl (lv_at hl 1 rfl) ?_
    refine x_ild X G (xI_sh4 h0) (has_in h0 c_5) dX3_startAt_13 ?_
    refine lv_goto (tgt := 18) hx hb dX3_startAt_14 (by decide) ?_
    exact x_iret (v := (σ.2.1 ((c0 + 4)) i0.toNatClampNeg)) X G hr hlocks ⟨(by simp only [Xsh_startAt, eq_false c_5, ↓reduceIte]), rfl⟩ dX3_startAt_18
def Xsh_set (σ : XS) (c0 : Nat) (i0 : Int32) (b0 : Int64) (p0 : Int32) (r0 : Option Nat) (s0 : Int32) : XS := if (Xsh_has σ c0 i0) = 0 then σ else (xa (xr (xa (xb σ ((c0 + 1)) i0.toNatClampNeg b0) ((c0 + 2)) i0.toNatClampNeg p0) ((c0 + 3)) i0.toNatClampNeg r0) ((c0 + 4)) i0.toNatClampNeg s0)
set_option maxHeartbeats 4000000 in
set_option maxRecDepth 100000 in
theorem c_Xsh_set (l : Launch) (dC : Nat → ClassId) (dI : Nat → Nat → Nat) (kc : Nat → ClassId) (ad : Nat → Nat) (sz : Nat) (σ : XS) (c0 : Nat) (i0 : Int32) (b0 : Int64) (p0 : Int32) (r0 : Option Nat) (s0 : Int32) (h0 : c0 ∈ shN) (hr0 : ∀ n, r0 = some n → xv σ n) : Met l yX3_set wsX3_set ({ frames := 1, cells := 0, slots := 0, locals := 21 } : Room) (va_Pc [.ref (ad c0), .int i0, .long b0, .int p0, va_rf (r0.map ad), .int s0] (xPre dC dI kc ad sz σ)) (va_Qv (fun u => Xsh_set σ c0 i0 b0 p0 r0 s0 = u) (xAt dC dI kc ad (xA kc ad σ sz)) (xA kc ad σ sz)) 0 0 (xA kc ad σ sz) := by
  refine x_ofW (cc := cX3_set) (maxL := 7) (ret := none) (by decide) rfl rfl (by cases r0 <;> exact Nat.le_of_ble_eq_true rfl) ?_
  intro p e s m below meth c X G hA hr hlocks hml ls hl
  have hl : lv_has ls 7 [(0, .ref (ad c0)), (1, .int i0), (2, .long b0), (4, .int p0), (5, va_rf (r0.map ad)), (6, .int s0)] := by cases r0 <;> exact hl
  have hx := X.1
  have hb := X.2.1
  have hts := X.2.2.1
  have hown := X.2.2.2.1
  have hz := X.2.2.2.2.2
  have hin3 : ∀ w ∈ wsX30, w ∈ wsX3_set := (fun w hw => List.mem_cons_of_mem _ (List.mem_append_right _ hw))
  refine lv_aload_n hx hb dX3_set_0 rfl (lv_at hl 0 rfl) ?_
  refine lv_iload_n hx hb dX3_set_1 rfl (lv_at hl 1 rfl) ?_
  refine x_calli (As := [.int i0]) (rest := []) X hml G hA (xW_sh h0) rfl (c_Xsh_has l dC dI kc ad _ σ c0 i0 h0) (cwV 1 hts gX3_set_X3_has rfl rfl rfl (by decide +kernel) ⟨Nat.le_of_ble_eq_true rfl, Nat.le_of_ble_eq_true rfl⟩) rfl hl.1 rfl (Nat.le_of_ble_eq_true rfl) dX3_set_2 ⟨Nat.zero_le _, Nat.zero_le _⟩ (fun r_2 u_2 H locs hw_2 G => ?_)
  obtain ⟨rfl, hu_2⟩ := hw_2
  rw [hu_2] at G
  refine lv_if_eq (tgt := 39) hx hb dX3_set_5 (by decide) (fun c_5 => ?_) (fun c_5 => ?_)
  · have c_5 : (Xsh_has σ c0 i0) = 0 := c_5
    exact x_vret X G hr hlocks (by simp only [Xsh_set, eq_true c_5, ↓reduceIte]) dX3_set_39
  · have c_5 : ¬ ((Xsh_has σ c0 i0) = 0) := c_5
    refine lv_aload_n hx hb dX3_set_8 rfl (lv_at hl 0 rfl) ?_
    refine x_sget_0 X G hin3 h0 (by decide +kernel) dX3_set_9 ?_
    refine lv_iload_n hx hb dX3_set_12 rfl (lv_at hl 1 rfl) ?_
    refine lv_lload_n hx hb dX3_set_13 rfl (lv_at hl 2 rfl) ?_
    refine x_lst X G (xJ_sh h0) (has_in h0 c_5) dX3_set_14 (fun H locs G => ?_)
    have G : xH dC dI kc ad (xb σ ((c0 + 1)) i0.toNatClampNeg b0) _ s.heap H locs := G
    refine lv_aload_n hx hb dX3_set_15 rfl (lv_at hl 0 rfl) ?_
    refine x_sget_1 X G hin3 h0 (by decide +kernel) dX3_set_16 ?_
    refine lv_iload_n hx hb dX3_set_19 rfl (lv_at hl 1 rfl) ?_
    refine lv_iload hx hb dX3_set_20 (lv_at hl 3 rfl) ?_
    refine x_ist X G (xI_sh2 h0) (has_in h0 c_5) dX3_set_22 (fun H locs G => ?_)
    have G : xH dC dI kc ad (xa (xb σ ((c0 + 1)) i0.toNatClampNeg b0) ((c0 + 2)) i0.toNatClampNeg p0) _ s.heap H locs := G
    refine lv_aload_n hx hb dX3_set_23 rfl (lv_at hl 0 rfl) ?_
    refine x_sget_2 X G hin3 h0 (by decide +kernel) dX3_set_24 ?_
    refine lv_iload_n hx hb dX3_set_27 rfl (lv_at hl 1 rfl) ?_
    refine x_aloadq hx hb dX3_set_28 (lv_at hl 4 rfl) ?_
    refine x_qst (v := r0) X G (xQ_sh h0) hr0 (has_in h0 c_5) dX3_set_30 (fun H locs G => ?_)
    have G : xH dC dI kc ad (xr (xa (xb σ ((c0 + 1)) i0.toNatClampNeg b0) ((c0 + 2)) i0.toNatClampNeg p0) ((c0 + 3)) i0.toNatClampNeg r0) _ s.heap H locs := G
    refine lv_aload_n hx hb dX3_set_31 rfl (lv_at hl 0 rfl) ?_
    refine x_sget_3 X G hin3 h0 (by decide +kernel) dX3_set_32 ?_
    refine lv_iload_n hx hb dX3_set_35 rfl (lv_at hl 1 rfl) ?_
    refine lv_iload hx hb dX3_set_36 (lv_at hl 5 rfl) ?_
    refine x_ist X G (xI_sh4 h0) (has_in h0 c_5) dX3_set_38 (fun H locs G => ?_)
    have G : xH dC dI kc ad (xa (xr (xa (xb σ ((c0 + 1)) i0.toNatClampNeg b0) ((c0 + 2)) i0.toNatClampNeg p0) ((c0 + 3)) i0.toNatClampNeg r0) ((c0 + 4)) i0.toNatClampNeg s0) _ s.heap H locs := G
    exact x_vret X G hr hlocks (by simp only [Xsh_set, eq_false c_5, ↓reduceIte]) dX3_set_39
def Xsh_drop (σ : XS) (c0 : Nat) (i0 : Int32) : XS := (xi σ c0 (if (0 : Int32) < ((σ.1 c0) - i0) then ((σ.1 c0) - i0) else (0 : Int32)))
set_option maxHeartbeats 4000000 in
set_option maxRecDepth 100000 in
theorem c_Xsh_drop (l : Launch) (dC : Nat → ClassId) (dI : Nat → Nat → Nat) (kc : Nat → ClassId) (ad : Nat → Nat) (sz : Nat) (σ : XS) (c0 : Nat) (i0 : Int32) (h0 : c0 ∈ shN) : Met l yX3_drop wsX3_drop ({ frames := 1, cells := 0, slots := 0, locals := 14 } : Room) (va_Pc [.ref (ad c0), .int i0] (xPre dC dI kc ad sz σ)) (va_Qv (fun u => Xsh_drop σ c0 i0 = u) (xAt dC dI kc ad (xA kc ad σ sz)) (xA kc ad σ sz)) 0 0 (xA kc ad σ sz) := by
  refine x_ofW (cc := cX3_drop) (maxL := 2) (ret := none) (by decide) rfl rfl (Nat.le_of_ble_eq_true rfl) ?_
  intro p e s m below meth c X G hA hr hlocks hml ls hl
  have hl : lv_has ls 2 [(0, .ref (ad c0)), (1, .int i0)] := hl
  have hx := X.1
  have hb := X.2.1
  have hts := X.2.2.1
  have hown := X.2.2.2.1
  have hz := X.2.2.2.2.2
  have hin3 : ∀ w ∈ wsX30, w ∈ wsX3_drop := (fun w hw => List.mem_cons_of_mem _ (List.mem_append_right _ hw))
  refine lv_aload_n hx hb dX3_drop_0 rfl (lv_at hl 0 rfl) ?_
  refine lv_iconst (v := 0) hx hb dX3_drop_1 (by decide) ?_
  refine lv_aload_n hx hb dX3_drop_2 rfl (lv_at hl 0 rfl) ?_
  refine x_sget_4 X G hin3 h0 (by decide +kernel) dX3_drop_3 ?_
  refine lv_iload_n hx hb dX3_drop_6 rfl (lv_at hl 1 rfl) ?_
  refine lv_isub hx hb dX3_drop_7 ?_
  refine va_mmax (own := RX3) hx hb (hml.trans hl.1.symm) hown (hts (.methodLink RX3 73 Lib.Math.max.name) (by decide +kernel)) (hts (.static Lib.Math.max.name) (by decide +kernel)) (hts (.initialized "java/lang/Math") (by decide +kernel)) (hts (.code Lib.Math.max.name Lib.Math.max.code 2 (some .int)) (by decide +kernel)) (Nat.le_of_ble_eq_true rfl) (Nat.le_of_ble_eq_true rfl) (Nat.le_of_ble_eq_true rfl) (Nat.le_of_ble_eq_true rfl) dX3_drop_8 ?_
  refine x_sput_4 X G hin3 h0 (by decide +kernel) dX3_drop_11 (fun H locs G => ?_)
  have G : xH dC dI kc ad (xi σ c0 (if (0 : Int32) < ((σ.1 c0) - i0) then ((σ.1 c0) - i0) else (0 : Int32))) _ s.heap H locs := G
  exact x_vret X G hr hlocks (by simp only [Xsh_drop, ↓reduceIte]) dX3_drop_14
def Xsh_clear (σ : XS) (c0 : Nat) : XS := (xi σ c0 0)
set_option maxHeartbeats 4000000 in
set_option maxRecDepth 100000 in
theorem c_Xsh_clear (l : Launch) (dC : Nat → ClassId) (dI : Nat → Nat → Nat) (kc : Nat → ClassId) (ad : Nat → Nat) (sz : Nat) (σ : XS) (c0 : Nat) (h0 : c0 ∈ shN) : Met l yX3_clear wsX3_clear ({ frames := 0, cells := 0, slots := 0, locals := 0 } : Room) (va_Pc [.ref (ad c0)] (xPre dC dI kc ad sz σ)) (va_Qv (fun u => Xsh_clear σ c0 = u) (xAt dC dI kc ad (xA kc ad σ sz)) (xA kc ad σ sz)) 0 0 (xA kc ad σ sz) := by
  refine x_ofW (cc := cX3_clear) (maxL := 1) (ret := none) (by decide) rfl rfl (Nat.le_of_ble_eq_true rfl) ?_
  intro p e s m below meth c X G hA hr hlocks hml ls hl
  have hl : lv_has ls 1 [(0, .ref (ad c0))] := hl
  have hx := X.1
  have hb := X.2.1
  have hts := X.2.2.1
  have hown := X.2.2.2.1
  have hz := X.2.2.2.2.2
  have hin3 : ∀ w ∈ wsX30, w ∈ wsX3_clear := (fun w hw => List.mem_cons_of_mem _ (List.mem_append_right _ hw))
  refine lv_aload_n hx hb dX3_clear_0 rfl (lv_at hl 0 rfl) ?_
  refine lv_iconst (v := 0) hx hb dX3_clear_1 (by decide) ?_
  refine x_sput_4 X G hin3 h0 (by decide +kernel) dX3_clear_2 (fun H locs G => ?_)
  have G : xH dC dI kc ad (xi σ c0 0) _ s.heap H locs := G
  exact x_vret X G hr hlocks (by simp only [Xsh_clear, ↓reduceIte]) dX3_clear_5
def Xsh_put (σ : XS) (c0 : Nat) (b0 : Int64) (p0 : Int32) (r0 : Option Nat) (s0 : Int32) : (String × XS) ⊕ XS := if (Xsh_isFull σ c0) = 0 then (let q_40 := Xsh_set (xi σ c0 ((σ.1 c0) + 1)) c0 (((xi σ c0 ((σ.1 c0) + 1)).1 c0) - 1) b0 p0 r0 s0; .inr q_40) else .inl ("java/lang/UnsupportedOperationException", σ)
set_option maxHeartbeats 4000000 in
set_option maxRecDepth 100000 in
theorem c_Xsh_put (l : Launch) (hl9 : l.stackTraces = false) (dC : Nat → ClassId) (dI : Nat → Nat → Nat) (kc : Nat → ClassId) (ad : Nat → Nat) (sz : Nat) (σ : XS) (c0 : Nat) (b0 : Int64) (p0 : Int32) (r0 : Option Nat) (s0 : Int32) (h0 : c0 ∈ shN) (hr0 : ∀ n, r0 = some n → xv σ n) : xq_Met l yX3_put wsX3_put ({ frames := 6, cells := 1, slots := 6, locals := 82 } : Room) (va_Pc [.ref (ad c0), .long b0, .int p0, va_rf (r0.map ad), .int s0] (xPre dC dI kc ad sz σ)) (va_Qv (fun u => Xsh_put σ c0 b0 p0 r0 s0 = .inr u) (xAt dC dI kc ad (xA kc ad σ sz)) (xA kc ad σ sz)) (xE (Xsh_put σ c0 b0 p0 r0 s0) dC dI kc ad (xA kc ad σ sz)) 0 0 1 6 (xA kc ad σ sz) := by
  refine y_ofW (cc := cX3_put) (maxL := 6) (ret := none) (by decide) rfl rfl (by cases r0 <;> exact Nat.le_of_ble_eq_true rfl) ?_
  intro p e s m below meth c X G hA hr hlocks hml hEx ls hl
  have hl : lv_has ls 6 [(0, .ref (ad c0)), (1, .long b0), (3, .int p0), (4, va_rf (r0.map ad)), (5, .int s0)] := by cases r0 <;> exact hl
  have hx := X.1
  have hb := X.2.1
  have hts := X.2.2.1
  have hown := X.2.2.2.1
  have hz := X.2.2.2.2.2
  have hin3 : ∀ w ∈ wsX30, w ∈ wsX3_put := (fun w hw => List.mem_cons_of_mem _ (List.mem_append_left _ (List.mem_append_right _ hw)))
  refine lv_aload_n hx hb dX3_put_0 rfl (lv_at hl 0 rfl) ?_
  refine x_calli (As := []) (rest := []) X hml G hA (xW_sh h0) rfl (c_Xsh_isFull l dC dI kc ad _ σ c0 h0) (cwV 0 hts gX3_put_X3_isFull rfl rfl rfl (by decide +kernel) ⟨Nat.le_of_ble_eq_true rfl, Nat.le_of_ble_eq_true rfl⟩) rfl hl.1 rfl (Nat.le_of_ble_eq_true rfl) dX3_put_1 ⟨Nat.zero_le _, Nat.zero_le _⟩ (fun r_1 u_1 H locs hw_1 G => ?_)
  obtain ⟨rfl, hu_1⟩ := hw_1
  rw [hu_1] at G
  refine lv_if_eq (tgt := 17) hx hb dX3_put_4 (by decide) (fun c_4 => ?_) (fun c_4 => ?_)
  · have c_4 : (Xsh_isFull σ c0) = 0 := c_4
    refine lv_aload_n hx hb dX3_put_17 rfl (lv_at hl 0 rfl) ?_
    refine lv_dup hx hb dX3_put_18 rfl ?_
    refine x_sget_4 X G hin3 h0 (by decide +kernel) dX3_put_19 ?_
    refine lv_iconst (v := 1) hx hb dX3_put_22 (by decide) ?_
    refine lv_iadd hx hb dX3_put_23 ?_
    refine x_sput_4 X G hin3 h0 (by decide +kernel) dX3_put_24 (fun H locs G => ?_)
    have G : xH dC dI kc ad (xi σ c0 ((σ.1 c0) + 1)) _ s.heap H locs := G
    refine lv_aload_n hx hb dX3_put_27 rfl (lv_at hl 0 rfl) ?_
    refine lv_aload_n hx hb dX3_put_28 rfl (lv_at hl 0 rfl) ?_
    refine x_sget_4 X G hin3 h0 (by decide +kernel) dX3_put_29 ?_
    refine lv_iconst (v := 1) hx hb dX3_put_32 (by decide) ?_
    refine lv_isub hx hb dX3_put_33 ?_
    refine lv_lload_n hx hb dX3_put_34 rfl (lv_at hl 1 rfl) ?_
    refine lv_iload_n hx hb dX3_put_35 rfl (lv_at hl 2 rfl) ?_
    refine x_aloadq hx hb dX3_put_36 (lv_at hl 3 rfl) ?_
    refine lv_iload hx hb dX3_put_38 (lv_at hl 4 rfl) ?_
    refine x_callv (As := [.int (((xi σ c0 ((σ.1 c0) + 1)).1 c0) - 1), .long b0, .int p0, va_rf (r0.map ad), .int s0]) (rest := []) X hml G hA (xW_sh h0) rfl (c_Xsh_set l dC dI kc ad _ (xi σ c0 ((σ.1 c0) + 1)) c0 (((xi σ c0 ((σ.1 c0) + 1)).1 c0) - 1) b0 p0 r0 s0 h0 hr0) (cwV 5 hts gX3_put_X3_set rfl rfl rfl (by decide +kernel) ⟨Nat.le_of_ble_eq_true rfl, Nat.le_of_ble_eq_true rfl⟩) rfl hl.1 rfl (Nat.le_of_ble_eq_true rfl) dX3_put_40 ⟨Nat.zero_le _, Nat.zero_le _⟩ (fun u_40 H locs hw_40 G => ?_)
    exact xq_ret (x_vret X G hr hlocks (by simp only [Xsh_put, eq_true c_4, hw_40, ↓reduceIte]) dX3_put_43)
  · have c_4 : ¬ ((Xsh_isFull σ c0) = 0) := c_4
    obtain ⟨sa, hstr⟩ := zstr hz (own := RX3) (k := 64) (text := "too many items") (by decide +kernel)
    exact xq_thr (vx_throwS (own := RX3) (cls := "java/lang/UnsupportedOperationException") (text := "too many items") (names := ["java/lang/RuntimeException", "java/lang/Exception"]) hx hb hl9 hown (by decide +kernel) (by decide +kernel) (hts (.classLink RX3 62 "java/lang/UnsupportedOperationException") (by decide +kernel)) (hts (.initialized "java/lang/UnsupportedOperationException") (by decide +kernel)) hstr (zhat hz hts (by decide +kernel) (fun w hw => List.mem_cons_of_mem _ (List.mem_append_right _ hw)) (by decide +kernel)) (by decide +kernel) hz.2.1 hz.2.2.1 G.2.2 (hl.1.trans hml.symm) dX3_put_7 dX3_put_10 dX3_put_11 dX3_put_13 dX3_put_16 (fun x hx => (hEx x hx).elim) (Nat.le_of_ble_eq_true rfl) (Nat.le_of_ble_eq_true rfl) (Nat.le_of_ble_eq_true rfl) (Nat.le_of_ble_eq_true rfl) hlocks (fun t ha hsz hk => ⟨σ, trivial, ⟨(by simp only [Xsh_put, eq_false c_4, ↓reduceIte]), (y_kept X G ha hsz hk).1⟩, (y_kept X G ha hsz hk).2⟩) G.2.2.2.2 (Nat.le_of_ble_eq_true rfl) (Nat.le_of_ble_eq_true rfl))
def Xsh_putNumber (σ : XS) (c0 : Nat) (b0 : Int64) (p0 : Int32) : (String × XS) ⊕ XS := (match Xsh_put σ c0 b0 p0 ((none : Option Nat)) 0 with | .inl e9 => .inl e9 | .inr u5 => .inr u5)
set_option maxHeartbeats 4000000 in
set_option maxRecDepth 100000 in
theorem c_Xsh_putNumber (l : Launch) (hl9 : l.stackTraces = false) (dC : Nat → ClassId) (dI : Nat → Nat → Nat) (kc : Nat → ClassId) (ad : Nat → Nat) (sz : Nat) (σ : XS) (c0 : Nat) (b0 : Int64) (p0 : Int32) (h0 : c0 ∈ shN) : xq_Met l yX3_putNumber wsX3_putNumber ({ frames := 7, cells := 1, slots := 6, locals := 107 } : Room) (va_Pc [.ref (ad c0), .long b0, .int p0] (xPre dC dI kc ad sz σ)) (va_Qv (fun u => Xsh_putNumber σ c0 b0 p0 = .inr u) (xAt dC dI kc ad (xA kc ad σ sz)) (xA kc ad σ sz)) (xE (Xsh_putNumber σ c0 b0 p0) dC dI kc ad (xA kc ad σ sz)) 0 0 1 6 (xA kc ad σ sz) := by
  refine y_ofW (cc := cX3_putNumber) (maxL := 4) (ret := none) (by decide) rfl rfl (Nat.le_of_ble_eq_true rfl) ?_
  intro p e s m below meth c X G hA hr hlocks hml hEx ls hl
  have hl : lv_has ls 4 [(0, .ref (ad c0)), (1, .long b0), (3, .int p0)] := hl
  have hx := X.1
  have hb := X.2.1
  have hts := X.2.2.1
  have hown := X.2.2.2.1
  have hz := X.2.2.2.2.2
  have hin3 : ∀ w ∈ wsX30, w ∈ wsX3_putNumber := (fun w hw => List.mem_cons_of_mem _ (List.mem_append_left _ (List.mem_append_right _ hw)))
  refine lv_aload_n hx hb dX3_putNumber_0 rfl (lv_at hl 0 rfl) ?_
  refine lv_lload_n hx hb dX3_putNumber_1 rfl (lv_at hl 1 rfl) ?_
  refine lv_iload_n hx hb dX3_putNumber_2 rfl (lv_at hl 2 rfl) ?_
  refine lv_null hx hb dX3_putNumber_3 ?_
  refine lv_iconst (v := 0) hx hb dX3_putNumber_4 (by decide) ?_
  refine y_callv (As := [.long b0, .int p0, va_rf (((none : Option Nat)).map ad), .int 0]) (rest := []) X hml G hA hEx hlocks (xW_sh h0) rfl (c_Xsh_put l hl9 dC dI kc ad _ σ c0 b0 p0 ((none : Option Nat)) 0 h0 (fun _ h => by cases h)) (cwV 4 hts gX3_putNumber_X3_put rfl rfl rfl (by decide +kernel) ⟨Nat.le_of_ble_eq_true rfl, Nat.le_of_ble_eq_true rfl⟩) rfl hl.1 rfl (Nat.le_of_ble_eq_true rfl) dX3_putNumber_5 ⟨Nat.le_of_ble_eq_true rfl, Nat.le_of_ble_eq_true rfl⟩ (fun E u9 hw_5 => (by simp only [Xsh_putNumber, hw_5, ↓reduceIte])) (fun u_5 H locs hw_5 G => ?_)
  exact xq_ret (x_vret X G hr hlocks (by simp only [Xsh_putNumber, hw_5, ↓reduceIte]) dX3_putNumber_8)
def Xsh_putText (σ : XS) (c0 : Nat) (r0 : Option Nat) (s0 : Int32) (n0 : Int32) : (String × XS) ⊕ XS := (match Xsh_put σ c0 n0.toInt64 (-1) r0 s0 with | .inl e9 => .inl e9 | .inr u6 => .inr u6)
set_option maxHeartbeats 4000000 in
set_option maxRecDepth 100000 in
theorem c_Xsh_putText (l : Launch) (hl9 : l.stackTraces = false) (dC : Nat → ClassId) (dI : Nat → Nat → Nat) (kc : Nat → ClassId) (ad : Nat → Nat) (sz : Nat) (σ : XS) (c0 : Nat) (r0 : Option Nat) (s0 : Int32) (n0 : Int32) (h0 : c0 ∈ shN) (hr0 : ∀ n, r0 = some n → xv σ n) : xq_Met l yX3_putText wsX3_putText ({ frames := 7, cells := 1, slots := 6, locals := 107 } : Room) (va_Pc [.ref (ad c0), va_rf (r0.map ad), .int s0, .int n0] (xPre dC dI kc ad sz σ)) (va_Qv (fun u => Xsh_putText σ c0 r0 s0 n0 = .inr u) (xAt dC dI kc ad (xA kc ad σ sz)) (xA kc ad σ sz)) (xE (Xsh_putText σ c0 r0 s0 n0) dC dI kc ad (xA kc ad σ sz)) 0 0 1 6 (xA kc ad σ sz) := by
  refine y_ofW (cc := cX3_putText) (maxL := 4) (ret := none) (by decide) rfl rfl (by cases r0 <;> exact Nat.le_of_ble_eq_true rfl) ?_
  intro p e s m below meth c X G hA hr hlocks hml hEx ls hl
  have hl : lv_has ls 4 [(0, .ref (ad c0)), (1, va_rf (r0.map ad)), (2, .int s0), (3, .int n0)] := by cases r0 <;> exact hl
  have hx := X.1
  have hb := X.2.1
  have hts := X.2.2.1
  have hown := X.2.2.2.1
  have hz := X.2.2.2.2.2
  have hin3 : ∀ w ∈ wsX30, w ∈ wsX3_putText := (fun w hw => List.mem_cons_of_mem _ (List.mem_append_left _ (List.mem_append_right _ hw)))
  refine lv_aload_n hx hb dX3_putText_0 rfl (lv_at hl 0 rfl) ?_
  refine lv_iload_n hx hb dX3_putText_1 rfl (lv_at hl 3 rfl) ?_
  refine lv_i2l hx hb dX3_putText_2 rfl ?_
  refine lv_iconst (v := -1) hx hb dX3_putText_3 (by decide) ?_
  refine x_aload_nq hx hb dX3_putText_4 rfl (lv_at hl 1 rfl) ?_
  refine lv_iload_n hx hb dX3_putText_5 rfl (lv_at hl 2 rfl) ?_
  refine y_callv (As := [.long n0.toInt64, .int (-1), va_rf (r0.map ad), .int s0]) (rest := []) X hml G hA hEx hlocks (xW_sh h0) rfl (c_Xsh_put l hl9 dC dI kc ad _ σ c0 n0.toInt64 (-1) r0 s0 h0 hr0) (cwV 4 hts gX3_putText_X3_put rfl rfl rfl (by decide +kernel) ⟨Nat.le_of_ble_eq_true rfl, Nat.le_of_ble_eq_true rfl⟩) rfl hl.1 rfl (Nat.le_of_ble_eq_true rfl) dX3_putText_6 ⟨Nat.le_of_ble_eq_true rfl, Nat.le_of_ble_eq_true rfl⟩ (fun E u9 hw_6 => (by simp only [Xsh_putText, hw_6, ↓reduceIte])) (fun u_6 H locs hw_6 G => ?_)
  exact xq_ret (x_vret X G hr hlocks (by simp only [Xsh_putText, hw_6, ↓reduceIte]) dX3_putText_9)
def xWF (σ : XS) : Prop := (∀ (c i n : Nat), σ.2.2.2.1 c i = some n → xv σ n) ∧ xv σ σ.2.2.2.2.1
theorem rowAt_v {σ : XS} {c0 : Nat} {i0 : Int32} (h : xWF σ) : ∀ n, Xsh_rowAt σ c0 i0 = some n → xv σ n := by
  intro n hn
  unfold Xsh_rowAt at hn
  split at hn
  · cases hn
  · exact h.1 _ _ _ hn
theorem xWF_xr {σ : XS} {k j : Nat} {r : Option Nat} (h : xWF σ) (hr : ∀ n, r = some n → xv σ n) : xWF (xr σ k j r) := by
  refine ⟨fun c i n hn => ?_, h.2⟩
  have hn : (if c = k then va_up (σ.2.2.2.1 k) j r else σ.2.2.2.1 c) i = some n := hn
  show xv σ n
  split at hn
  · unfold va_up at hn
    split at hn
    · exact hr n hn
    · exact h.1 _ _ _ hn
  · exact h.1 _ _ _ hn
theorem set_wf {σ : XS} {c0 : Nat} {i0 : Int32} {b0 : Int64} {p0 : Int32} {r0 : Option Nat} {s0 : Int32} (h : xWF σ) (hr : ∀ n, r0 = some n → xv σ n) : xWF (Xsh_set σ c0 i0 b0 p0 r0 s0) := by
  unfold Xsh_set
  split
  · exact h
  · exact xWF_xr (σ := xa (xb σ (c0 + 1) i0.toNatClampNeg b0) (c0 + 2) i0.toNatClampNeg p0) h hr
theorem drop_wf {σ : XS} {c0 : Nat} {i0 : Int32} (h : xWF σ) : xWF (Xsh_drop σ c0 i0) := h
theorem clear_wf {σ : XS} {c0 : Nat} (h : xWF σ) : xWF (Xsh_clear σ c0) := h
theorem put_wf {σ u : XS} {c0 : Nat} {b0 : Int64} {p0 : Int32} {r0 : Option Nat} {s0 : Int32} (h : xWF σ) (hr : ∀ n, r0 = some n → xv σ n) (hw : Xsh_put σ c0 b0 p0 r0 s0 = .inr u) : xWF u := by
  unfold Xsh_put at hw
  split at hw
  · injection hw with hw; rw [← hw]; exact set_wf (σ := xi σ c0 (σ.1 c0 + 1)) h hr
  · cases hw
theorem putNumber_wf {σ u : XS} {c0 : Nat} {b0 : Int64} {p0 : Int32} (h : xWF σ) (hw : Xsh_putNumber σ c0 b0 p0 = .inr u) : xWF u := by
  unfold Xsh_putNumber at hw
  split at hw
  · cases hw
  · rename_i h9; injection hw with hw; rw [← hw]; exact put_wf h (fun _ h => by cases h) h9
theorem putText_wf {σ u : XS} {c0 : Nat} {r0 : Option Nat} {s0 n0 : Int32} (h : xWF σ) (hr : ∀ n, r0 = some n → xv σ n) (hw : Xsh_putText σ c0 r0 s0 n0 = .inr u) : xWF u := by
  unfold Xsh_putText at hw
  split at hw
  · cases hw
  · rename_i h9; injection hw with hw; rw [← hw]; exact put_wf h hr h9
def Xsh_putTopOf (σ : XS) (c0 : Nat) (d0 : Nat) : (String × XS) ⊕ XS := (match Xsh_put σ c0 (Xsh_valueAt σ d0 (Xsh_slotBelowTop σ d0 0)) (Xsh_placesAt σ d0 (Xsh_slotBelowTop σ d0 0)) ((Xsh_rowAt σ d0 (Xsh_slotBelowTop σ d0 0))) (Xsh_startAt σ d0 (Xsh_slotBelowTop σ d0 0)) with | .inl e9 => .inl e9 | .inr u27 => .inr u27)
set_option maxHeartbeats 4000000 in
set_option maxRecDepth 100000 in
theorem c_Xsh_putTopOf (l : Launch) (hl9 : l.stackTraces = false) (dC : Nat → ClassId) (dI : Nat → Nat → Nat) (kc : Nat → ClassId) (ad : Nat → Nat) (sz : Nat) (σ : XS) (c0 : Nat) (d0 : Nat) (h0 : c0 ∈ shN) (h_d0 : d0 ∈ shN) (hrv : xWF σ) : xq_Met l yX3_putTopOf wsX3_putTopOf ({ frames := 7, cells := 1, slots := 6, locals := 107 } : Room) (va_Pc [.ref (ad c0), .ref (ad d0)] (xPre dC dI kc ad sz σ)) (va_Qv (fun u => Xsh_putTopOf σ c0 d0 = .inr u) (xAt dC dI kc ad (xA kc ad σ sz)) (xA kc ad σ sz)) (xE (Xsh_putTopOf σ c0 d0) dC dI kc ad (xA kc ad σ sz)) 0 0 1 6 (xA kc ad σ sz) := by
  refine y_ofW (cc := cX3_putTopOf) (maxL := 3) (ret := none) (by decide) rfl rfl (Nat.le_of_ble_eq_true rfl) ?_
  intro p e s m below meth c X G hA hr hlocks hml hEx ls hl
  have hl : lv_has ls 3 [(0, .ref (ad c0)), (1, .ref (ad d0))] := hl
  have hx := X.1
  have hb := X.2.1
  have hts := X.2.2.1
  have hown := X.2.2.2.1
  have hz := X.2.2.2.2.2
  have hin3 : ∀ w ∈ wsX30, w ∈ wsX3_putTopOf := (fun w hw => List.mem_cons_of_mem _ (List.mem_append_left _ (List.mem_append_right _ hw)))
  refine lv_aload_n hx hb dX3_putTopOf_0 rfl (lv_at hl 1 rfl) ?_
  refine lv_iconst (v := 0) hx hb dX3_putTopOf_1 (by decide) ?_
  refine x_calli (As := [.int 0]) (rest := []) X hml G hA (xW_sh h_d0) rfl (c_Xsh_slotBelowTop l dC dI kc ad _ σ d0 0 h_d0) (cwV 1 hts gX3_putTopOf_X3_slotBelowTop rfl rfl rfl (by decide +kernel) ⟨Nat.le_of_ble_eq_true rfl, Nat.le_of_ble_eq_true rfl⟩) rfl hl.1 rfl (Nat.le_of_ble_eq_true rfl) dX3_putTopOf_2 ⟨Nat.zero_le _, Nat.zero_le _⟩ (fun r_2 u_2 H locs hw_2 G => ?_)
  obtain ⟨rfl, hu_2⟩ := hw_2
  rw [hu_2] at G
  refine lv_istore_n (lv' := [(2, .int (Xsh_slotBelowTop σ d0 0)), (0, .ref (ad c0)), (1, .ref (ad d0))]) hx hb dX3_putTopOf_5 rfl hl (by decide) rfl (fun ls hl => ?_)
  refine lv_aload_n hx hb dX3_putTopOf_6 rfl (lv_at hl 1 rfl) ?_
  refine lv_aload_n hx hb dX3_putTopOf_7 rfl (lv_at hl 2 rfl) ?_
  refine lv_iload_n hx hb dX3_putTopOf_8 rfl (lv_at hl 0 rfl) ?_
  refine x_calll (As := [.int (Xsh_slotBelowTop σ d0 0)]) (rest := [.ref (ad c0)]) X hml G hA (xW_sh h_d0) rfl (c_Xsh_valueAt l dC dI kc ad _ σ d0 (Xsh_slotBelowTop σ d0 0) h_d0) (cwV 1 hts gX3_putTopOf_X3_valueAt rfl rfl rfl (by decide +kernel) ⟨Nat.le_of_ble_eq_true rfl, Nat.le_of_ble_eq_true rfl⟩) rfl hl.1 rfl (Nat.le_of_ble_eq_true rfl) dX3_putTopOf_9 ⟨Nat.zero_le _, Nat.zero_le _⟩ (fun r_9 u_9 H locs hw_9 G => ?_)
  obtain ⟨rfl, hu_9⟩ := hw_9
  rw [hu_9] at G
  refine lv_aload_n hx hb dX3_putTopOf_12 rfl (lv_at hl 2 rfl) ?_
  refine lv_iload_n hx hb dX3_putTopOf_13 rfl (lv_at hl 0 rfl) ?_
  refine x_calli (As := [.int (Xsh_slotBelowTop σ d0 0)]) (rest := [.long (Xsh_valueAt σ d0 (Xsh_slotBelowTop σ d0 0)), .ref (ad c0)]) X hml G hA (xW_sh h_d0) rfl (c_Xsh_placesAt l dC dI kc ad _ σ d0 (Xsh_slotBelowTop σ d0 0) h_d0) (cwV 1 hts gX3_putTopOf_X3_placesAt rfl rfl rfl (by decide +kernel) ⟨Nat.le_of_ble_eq_true rfl, Nat.le_of_ble_eq_true rfl⟩) rfl hl.1 rfl (Nat.le_of_ble_eq_true rfl) dX3_putTopOf_14 ⟨Nat.zero_le _, Nat.zero_le _⟩ (fun r_14 u_14 H locs hw_14 G => ?_)
  obtain ⟨rfl, hu_14⟩ := hw_14
  rw [hu_14] at G
  refine lv_aload_n hx hb dX3_putTopOf_17 rfl (lv_at hl 2 rfl) ?_
  refine lv_iload_n hx hb dX3_putTopOf_18 rfl (lv_at hl 0 rfl) ?_
  refine x_callq (As := [.int (Xsh_slotBelowTop σ d0 0)]) (rest := [.int (Xsh_placesAt σ d0 (Xsh_slotBelowTop σ d0 0)), .long (Xsh_valueAt σ d0 (Xsh_slotBelowTop σ d0 0)), .ref (ad c0)]) X hml G hA (xW_sh h_d0) rfl (c_Xsh_rowAt l dC dI kc ad _ σ d0 (Xsh_slotBelowTop σ d0 0) h_d0) (cwV 1 hts gX3_putTopOf_X3_rowAt rfl rfl rfl (by decide +kernel) ⟨Nat.le_of_ble_eq_true rfl, Nat.le_of_ble_eq_true rfl⟩) rfl hl.1 rfl (Nat.le_of_ble_eq_true rfl) dX3_putTopOf_19 ⟨Nat.zero_le _, Nat.zero_le _⟩ (fun r_19 u_19 H locs hw_19 G => ?_)
  obtain ⟨_, rfl, rfl, hu_19⟩ := hw_19
  rw [hu_19] at G
  refine lv_aload_n hx hb dX3_putTopOf_22 rfl (lv_at hl 2 rfl) ?_
  refine lv_iload_n hx hb dX3_putTopOf_23 rfl (lv_at hl 0 rfl) ?_
  refine x_calli (As := [.int (Xsh_slotBelowTop σ d0 0)]) (rest := [va_rf ((Xsh_rowAt σ d0 (Xsh_slotBelowTop σ d0 0)).map ad), .int (Xsh_placesAt σ d0 (Xsh_slotBelowTop σ d0 0)), .long (Xsh_valueAt σ d0 (Xsh_slotBelowTop σ d0 0)), .ref (ad c0)]) X hml G hA (xW_sh h_d0) rfl (c_Xsh_startAt l dC dI kc ad _ σ d0 (Xsh_slotBelowTop σ d0 0) h_d0) (cwV 1 hts gX3_putTopOf_X3_startAt rfl rfl rfl (by decide +kernel) ⟨Nat.le_of_ble_eq_true rfl, Nat.le_of_ble_eq_true rfl⟩) rfl hl.1 rfl (by simp only [List.map_cons, List.map_nil, va_rf_cat]; exact Nat.le_of_ble_eq_true rfl) dX3_putTopOf_24 ⟨Nat.zero_le _, Nat.zero_le _⟩ (fun r_24 u_24 H locs hw_24 G => ?_)
  obtain ⟨rfl, hu_24⟩ := hw_24
  rw [hu_24] at G
  refine y_callv (As := [.long (Xsh_valueAt σ d0 (Xsh_slotBelowTop σ d0 0)), .int (Xsh_placesAt σ d0 (Xsh_slotBelowTop σ d0 0)), va_rf (((Xsh_rowAt σ d0 (Xsh_slotBelowTop σ d0 0))).map ad), .int (Xsh_startAt σ d0 (Xsh_slotBelowTop σ d0 0))]) (rest := []) X hml G hA hEx hlocks (xW_sh h0) rfl (c_Xsh_put l hl9 dC dI kc ad _ σ c0 (Xsh_valueAt σ d0 (Xsh_slotBelowTop σ d0 0)) (Xsh_placesAt σ d0 (Xsh_slotBelowTop σ d0 0)) ((Xsh_rowAt σ d0 (Xsh_slotBelowTop σ d0 0))) (Xsh_startAt σ d0 (Xsh_slotBelowTop σ d0 0)) h0 (rowAt_v hrv)) (cwV 4 hts gX3_putTopOf_X3_put rfl rfl rfl (by decide +kernel) ⟨Nat.le_of_ble_eq_true rfl, Nat.le_of_ble_eq_true rfl⟩) rfl hl.1 rfl (Nat.le_of_ble_eq_true rfl) dX3_putTopOf_27 ⟨Nat.le_of_ble_eq_true rfl, Nat.le_of_ble_eq_true rfl⟩ (fun E u9 hw_27 => (by simp only [Xsh_putTopOf, hw_27, ↓reduceIte])) (fun u_27 H locs hw_27 G => ?_)
  have hv_27 : xWF u_27 := put_wf hrv (rowAt_v hrv) hw_27
  exact xq_ret (x_vret X G hr hlocks (by simp only [Xsh_putTopOf, hw_27, ↓reduceIte]) dX3_putTopOf_30)
theorem set_v {σ : XS} {c0 : Nat} {i0 : Int32} {b0 : Int64} {p0 : Int32} {r0 : Option Nat} {s0 : Int32} {n : Nat} (h : xv σ n) : xv (Xsh_set σ c0 i0 b0 p0 r0 s0) n := by
  unfold Xsh_set
  split
  · exact h
  · exact h
def Xsh_swapTopTwo (σ : XS) (c0 : Nat) : XS := let q_61 := Xsh_set σ c0 (Xsh_slotBelowTop σ c0 0) (Xsh_valueAt σ c0 (Xsh_slotBelowTop σ c0 1)) (Xsh_placesAt σ c0 (Xsh_slotBelowTop σ c0 1)) ((Xsh_rowAt σ c0 (Xsh_slotBelowTop σ c0 1))) (Xsh_startAt σ c0 (Xsh_slotBelowTop σ c0 1)); let q_73 := Xsh_set q_61 c0 (Xsh_slotBelowTop σ c0 1) (Xsh_valueAt σ c0 (Xsh_slotBelowTop σ c0 0)) (Xsh_placesAt σ c0 (Xsh_slotBelowTop σ c0 0)) ((Xsh_rowAt σ c0 (Xsh_slotBelowTop σ c0 0))) (Xsh_startAt σ c0 (Xsh_slotBelowTop σ c0 0)); q_73
set_option maxHeartbeats 4000000 in
set_option maxRecDepth 100000 in
theorem c_Xsh_swapTopTwo (l : Launch) (dC : Nat → ClassId) (dI : Nat → Nat → Nat) (kc : Nat → ClassId) (ad : Nat → Nat) (sz : Nat) (σ : XS) (c0 : Nat) (h0 : c0 ∈ shN) (hrv : xWF σ) : Met l yX3_swapTopTwo wsX3_swapTopTwo ({ frames := 2, cells := 0, slots := 0, locals := 47 } : Room) (va_Pc [.ref (ad c0)] (xPre dC dI kc ad sz σ)) (va_Qv (fun u => Xsh_swapTopTwo σ c0 = u) (xAt dC dI kc ad (xA kc ad σ sz)) (xA kc ad σ sz)) 0 0 (xA kc ad σ sz) := by
  refine x_ofW (cc := cX3_swapTopTwo) (maxL := 8) (ret := none) (by decide) rfl rfl (Nat.le_of_ble_eq_true rfl) ?_
  intro p e s m below meth c X G hA hr hlocks hml ls hl
  have hl : lv_has ls 8 [(0, .ref (ad c0))] := hl
  have hx := X.1
  have hb := X.2.1
  have hts := X.2.2.1
  have hown := X.2.2.2.1
  have hz := X.2.2.2.2.2
  have hin3 : ∀ w ∈ wsX30, w ∈ wsX3_swapTopTwo := (fun w hw => List.mem_cons_of_mem _ (List.mem_append_right _ hw))
  refine lv_aload_n hx hb dX3_swapTopTwo_0 rfl (lv_at hl 0 rfl) ?_
  refine lv_iconst (v := 0) hx hb dX3_swapTopTwo_1 (by decide) ?_
  refine x_calli (As := [.int 0]) (rest := []) X hml G hA (xW_sh h0) rfl (c_Xsh_slotBelowTop l dC dI kc ad _ σ c0 0 h0) (cwV 1 hts gX3_swapTopTwo_X3_slotBelowTop rfl rfl rfl (by decide +kernel) ⟨Nat.le_of_ble_eq_true rfl, Nat.le_of_ble_eq_true rfl⟩) rfl hl.1 rfl (Nat.le_of_ble_eq_true rfl) dX3_swapTopTwo_2 ⟨Nat.zero_le _, Nat.zero_le _⟩ (fun r_2 u_2 H locs hw_2 G => ?_)
  obtain ⟨rfl, hu_2⟩ := hw_2
  rw [hu_2] at G
  refine lv_istore_n (lv' := [(1, .int (Xsh_slotBelowTop σ c0 0)), (0, .ref (ad c0))]) hx hb dX3_swapTopTwo_5 rfl hl (by decide) rfl (fun ls hl => ?_)
  refine lv_aload_n hx hb dX3_swapTopTwo_6 rfl (lv_at hl 1 rfl) ?_
  refine lv_iconst (v := 1) hx hb dX3_swapTopTwo_7 (by decide) ?_
  refine x_calli (As := [.int 1]) (rest := []) X hml G hA (xW_sh h0) rfl (c_Xsh_slotBelowTop l dC dI kc ad _ σ c0 1 h0) (cwV 1 hts gX3_swapTopTwo_X3_slotBelowTop rfl rfl rfl (by decide +kernel) ⟨Nat.le_of_ble_eq_true rfl, Nat.le_of_ble_eq_true rfl⟩) rfl hl.1 rfl (Nat.le_of_ble_eq_true rfl) dX3_swapTopTwo_8 ⟨Nat.zero_le _, Nat.zero_le _⟩ (fun r_8 u_8 H locs hw_8 G => ?_)
  obtain ⟨rfl, hu_8⟩ := hw_8
  rw [hu_8] at G
  refine lv_istore_n (lv' := [(2, .int (Xsh_slotBelowTop σ c0 1)), (1, .int (Xsh_slotBelowTop σ c0 0)), (0, .ref (ad c0))]) hx hb dX3_swapTopTwo_11 rfl hl (by decide) rfl (fun ls hl => ?_)
  refine lv_aload_n hx hb dX3_swapTopTwo_12 rfl (lv_at hl 2 rfl) ?_
  refine lv_iload_n hx hb dX3_swapTopTwo_13 rfl (lv_at hl 1 rfl) ?_
  refine x_calll (As := [.int (Xsh_slotBelowTop σ c0 0)]) (rest := []) X hml G hA (xW_sh h0) rfl (c_Xsh_valueAt l dC dI kc ad _ σ c0 (Xsh_slotBelowTop σ c0 0) h0) (cwV 1 hts gX3_swapTopTwo_X3_valueAt rfl rfl rfl (by decide +kernel) ⟨Nat.le_of_ble_eq_true rfl, Nat.le_of_ble_eq_true rfl⟩) rfl hl.1 rfl (Nat.le_of_ble_eq_true rfl) dX3_swapTopTwo_14 ⟨Nat.zero_le _, Nat.zero_le _⟩ (fun r_14 u_14 H locs hw_14 G => ?_)
  obtain ⟨rfl, hu_14⟩ := hw_14
  rw [hu_14] at G
  refine lv_lstore_n (lv' := [(3, .long (Xsh_valueAt σ c0 (Xsh_slotBelowTop σ c0 0))), (2, .int (Xsh_slotBelowTop σ c0 1)), (1, .int (Xsh_slotBelowTop σ c0 0)), (0, .ref (ad c0))]) hx hb dX3_swapTopTwo_17 rfl hl (by decide) rfl (fun ls hl => ?_)
  refine lv_aload_n hx hb dX3_swapTopTwo_18 rfl (lv_at hl 3 rfl) ?_
  refine lv_iload_n hx hb dX3_swapTopTwo_19 rfl (lv_at hl 2 rfl) ?_
  refine x_calli (As := [.int (Xsh_slotBelowTop σ c0 0)]) (rest := []) X hml G hA (xW_sh h0) rfl (c_Xsh_placesAt l dC dI kc ad _ σ c0 (Xsh_slotBelowTop σ c0 0) h0) (cwV 1 hts gX3_swapTopTwo_X3_placesAt rfl rfl rfl (by decide +kernel) ⟨Nat.le_of_ble_eq_true rfl, Nat.le_of_ble_eq_true rfl⟩) rfl hl.1 rfl (Nat.le_of_ble_eq_true rfl) dX3_swapTopTwo_20 ⟨Nat.zero_le _, Nat.zero_le _⟩ (fun r_20 u_20 H locs hw_20 G => ?_)
  obtain ⟨rfl, hu_20⟩ := hw_20
  rw [hu_20] at G
  refine lv_istore (lv' := [(5, .int (Xsh_placesAt σ c0 (Xsh_slotBelowTop σ c0 0))), (3, .long (Xsh_valueAt σ c0 (Xsh_slotBelowTop σ c0 0))), (2, .int (Xsh_slotBelowTop σ c0 1)), (1, .int (Xsh_slotBelowTop σ c0 0)), (0, .ref (ad c0))]) hx hb dX3_swapTopTwo_23 hl (by decide) rfl (fun ls hl => ?_)
  refine lv_aload_n hx hb dX3_swapTopTwo_25 rfl (lv_at hl 4 rfl) ?_
  refine lv_iload_n hx hb dX3_swapTopTwo_26 rfl (lv_at hl 3 rfl) ?_
  refine x_callq (As := [.int (Xsh_slotBelowTop σ c0 0)]) (rest := []) X hml G hA (xW_sh h0) rfl (c_Xsh_rowAt l dC dI kc ad _ σ c0 (Xsh_slotBelowTop σ c0 0) h0) (cwV 1 hts gX3_swapTopTwo_X3_rowAt rfl rfl rfl (by decide +kernel) ⟨Nat.le_of_ble_eq_true rfl, Nat.le_of_ble_eq_true rfl⟩) rfl hl.1 rfl (Nat.le_of_ble_eq_true rfl) dX3_swapTopTwo_27 ⟨Nat.zero_le _, Nat.zero_le _⟩ (fun r_27 u_27 H locs hw_27 G => ?_)
  obtain ⟨_, rfl, rfl, hu_27⟩ := hw_27
  rw [hu_27] at G
  refine x_astoreq (lv' := [(6, va_rf ((Xsh_rowAt σ c0 (Xsh_slotBelowTop σ c0 0)).map ad)), (5, .int (Xsh_placesAt σ c0 (Xsh_slotBelowTop σ c0 0))), (3, .long (Xsh_valueAt σ c0 (Xsh_slotBelowTop σ c0 0))), (2, .int (Xsh_slotBelowTop σ c0 1)), (1, .int (Xsh_slotBelowTop σ c0 0)), (0, .ref (ad c0))]) hx hb dX3_swapTopTwo_30 hl (by decide) rfl (fun ls hl => ?_)
  refine lv_aload_n hx hb dX3_swapTopTwo_32 rfl (lv_at hl 5 rfl) ?_
  refine lv_iload_n hx hb dX3_swapTopTwo_33 rfl (lv_at hl 4 rfl) ?_
  refine x_calli (As := [.int (Xsh_slotBelowTop σ c0 0)]) (rest := []) X hml G hA (xW_sh h0) rfl (c_Xsh_startAt l dC dI kc ad _ σ c0 (Xsh_slotBelowTop σ c0 0) h0) (cwV 1 hts gX3_swapTopTwo_X3_startAt rfl rfl rfl (by decide +kernel) ⟨Nat.le_of_ble_eq_true rfl, Nat.le_of_ble_eq_true rfl⟩) rfl hl.1 rfl (Nat.le_of_ble_eq_true rfl) dX3_swapTopTwo_34 ⟨Nat.zero_le _, Nat.zero_le _⟩ (fun r_34 u_34 H locs hw_34 G => ?_)
  obtain ⟨rfl, hu_34⟩ := hw_34
  rw [hu_34] at G
  refine lv_istore (lv' := [(7, .int (Xsh_startAt σ c0 (Xsh_slotBelowTop σ c0 0))), (6, va_rf ((Xsh_rowAt σ c0 (Xsh_slotBelowTop σ c0 0)).map ad)), (5, .int (Xsh_placesAt σ c0 (Xsh_slotBelowTop σ c0 0))), (3, .long (Xsh_valueAt σ c0 (Xsh_slotBelowTop σ c0 0))), (2, .int (Xsh_slotBelowTop σ c0 1)), (1, .int (Xsh_slotBelowTop σ c0 0)), (0, .ref (ad c0))]) hx hb dX3_swapTopTwo_37 hl (by decide) (by simp [List.filter_cons, va_rf_cat]) (fun ls hl => ?_)
  refine lv_aload_n hx hb dX3_swapTopTwo_39 rfl (lv_at hl 6 rfl) ?_
  refine lv_iload_n hx hb dX3_swapTopTwo_40 rfl (lv_at hl 5 rfl) ?_
  refine lv_aload_n hx hb dX3_swapTopTwo_41 rfl (lv_at hl 6 rfl) ?_
  refine lv_iload_n hx hb dX3_swapTopTwo_42 rfl (lv_at hl 4 rfl) ?_
  refine x_calll (As := [.int (Xsh_slotBelowTop σ c0 1)]) (rest := [.int (Xsh_slotBelowTop σ c0 0), .ref (ad c0)]) X hml G hA (xW_sh h0) rfl (c_Xsh_valueAt l dC dI kc ad _ σ c0 (Xsh_slotBelowTop σ c0 1) h0) (cwV 1 hts gX3_swapTopTwo_X3_valueAt rfl rfl rfl (by decide +kernel) ⟨Nat.le_of_ble_eq_true rfl, Nat.le_of_ble_eq_true rfl⟩) rfl hl.1 rfl (Nat.le_of_ble_eq_true rfl) dX3_swapTopTwo_43 ⟨Nat.zero_le _, Nat.zero_le _⟩ (fun r_43 u_43 H locs hw_43 G => ?_)
  obtain ⟨rfl, hu_43⟩ := hw_43
  rw [hu_43] at G
  refine lv_aload_n hx hb dX3_swapTopTwo_46 rfl (lv_at hl 6 rfl) ?_
  refine lv_iload_n hx hb dX3_swapTopTwo_47 rfl (lv_at hl 4 rfl) ?_
  refine x_calli (As := [.int (Xsh_slotBelowTop σ c0 1)]) (rest := [.long (Xsh_valueAt σ c0 (Xsh_slotBelowTop σ c0 1)), .int (Xsh_slotBelowTop σ c0 0), .ref (ad c0)]) X hml G hA (xW_sh h0) rfl (c_Xsh_placesAt l dC dI kc ad _ σ c0 (Xsh_slotBelowTop σ c0 1) h0) (cwV 1 hts gX3_swapTopTwo_X3_placesAt rfl rfl rfl (by decide +kernel) ⟨Nat.le_of_ble_eq_true rfl, Nat.le_of_ble_eq_true rfl⟩) rfl hl.1 rfl (Nat.le_of_ble_eq_true rfl) dX3_swapTopTwo_48 ⟨Nat.zero_le _, Nat.zero_le _⟩ (fun r_48 u_48 H locs hw_48 G => ?_)
  obtain ⟨rfl, hu_48⟩ := hw_48
  rw [hu_48] at G
  refine lv_aload_n hx hb dX3_swapTopTwo_51 rfl (lv_at hl 6 rfl) ?_
  refine lv_iload_n hx hb dX3_swapTopTwo_52 rfl (lv_at hl 4 rfl) ?_
  refine x_callq (As := [.int (Xsh_slotBelowTop σ c0 1)]) (rest := [.int (Xsh_placesAt σ c0 (Xsh_slotBelowTop σ c0 1)), .long (Xsh_valueAt σ c0 (Xsh_slotBelowTop σ c0 1)), .int (Xsh_slotBelowTop σ c0 0), .ref (ad c0)]) X hml G hA (xW_sh h0) rfl (c_Xsh_rowAt l dC dI kc ad _ σ c0 (Xsh_slotBelowTop σ c0 1) h0) (cwV 1 hts gX3_swapTopTwo_X3_rowAt rfl rfl rfl (by decide +kernel) ⟨Nat.le_of_ble_eq_true rfl, Nat.le_of_ble_eq_true rfl⟩) rfl hl.1 rfl (Nat.le_of_ble_eq_true rfl) dX3_swapTopTwo_53 ⟨Nat.zero_le _, Nat.zero_le _⟩ (fun r_53 u_53 H locs hw_53 G => ?_)
  obtain ⟨_, rfl, rfl, hu_53⟩ := hw_53
  rw [hu_53] at G
  refine lv_aload_n hx hb dX3_swapTopTwo_56 rfl (lv_at hl 6 rfl) ?_
  refine lv_iload_n hx hb dX3_swapTopTwo_57 rfl (lv_at hl 4 rfl) ?_
  refine x_calli (As := [.int (Xsh_slotBelowTop σ c0 1)]) (rest := [va_rf ((Xsh_rowAt σ c0 (Xsh_slotBelowTop σ c0 1)).map ad), .int (Xsh_placesAt σ c0 (Xsh_slotBelowTop σ c0 1)), .long (Xsh_valueAt σ c0 (Xsh_slotBelowTop σ c0 1)), .int (Xsh_slotBelowTop σ c0 0), .ref (ad c0)]) X hml G hA (xW_sh h0) rfl (c_Xsh_startAt l dC dI kc ad _ σ c0 (Xsh_slotBelowTop σ c0 1) h0) (cwV 1 hts gX3_swapTopTwo_X3_startAt rfl rfl rfl (by decide +kernel) ⟨Nat.le_of_ble_eq_true rfl, Nat.le_of_ble_eq_true rfl⟩) rfl hl.1 rfl (by simp only [List.map_cons, List.map_nil, va_rf_cat]; exact Nat.le_of_ble_eq_true rfl) dX3_swapTopTwo_58 ⟨Nat.zero_le _, Nat.zero_le _⟩ (fun r_58 u_58 H locs hw_58 G => ?_)
  obtain ⟨rfl, hu_58⟩ := hw_58
  rw [hu_58] at G
  refine x_callv (As := [.int (Xsh_slotBelowTop σ c0 0), .long (Xsh_valueAt σ c0 (Xsh_slotBelowTop σ c0 1)), .int (Xsh_placesAt σ c0 (Xsh_slotBelowTop σ c0 1)), va_rf (((Xsh_rowAt σ c0 (Xsh_slotBelowTop σ c0 1))).map ad), .int (Xsh_startAt σ c0 (Xsh_slotBelowTop σ c0 1))]) (rest := []) X hml G hA (xW_sh h0) rfl (c_Xsh_set l dC dI kc ad _ σ c0 (Xsh_slotBelowTop σ c0 0) (Xsh_valueAt σ c0 (Xsh_slotBelowTop σ c0 1)) (Xsh_placesAt σ c0 (Xsh_slotBelowTop σ c0 1)) ((Xsh_rowAt σ c0 (Xsh_slotBelowTop σ c0 1))) (Xsh_startAt σ c0 (Xsh_slotBelowTop σ c0 1)) h0 (rowAt_v hrv)) (cwV 5 hts gX3_swapTopTwo_X3_set rfl rfl rfl (by decide +kernel) ⟨Nat.le_of_ble_eq_true rfl, Nat.le_of_ble_eq_true rfl⟩) rfl hl.1 rfl (Nat.le_of_ble_eq_true rfl) dX3_swapTopTwo_61 ⟨Nat.zero_le _, Nat.zero_le _⟩ (fun u_61 H locs hw_61 G => ?_)
  have hv_61 : xWF u_61 := by have h9 : xWF (Xsh_set σ c0 (Xsh_slotBelowTop σ c0 0) (Xsh_valueAt σ c0 (Xsh_slotBelowTop σ c0 1)) (Xsh_placesAt σ c0 (Xsh_slotBelowTop σ c0 1)) ((Xsh_rowAt σ c0 (Xsh_slotBelowTop σ c0 1))) (Xsh_startAt σ c0 (Xsh_slotBelowTop σ c0 1))) := set_wf hrv (rowAt_v hrv); rw [hw_61] at h9; exact h9
  refine lv_aload_n hx hb dX3_swapTopTwo_64 rfl (lv_at hl 6 rfl) ?_
  refine lv_iload_n hx hb dX3_swapTopTwo_65 rfl (lv_at hl 4 rfl) ?_
  refine lv_lload_n hx hb dX3_swapTopTwo_66 rfl (lv_at hl 3 rfl) ?_
  refine lv_iload hx hb dX3_swapTopTwo_67 (lv_at hl 2 rfl) ?_
  refine x_aloadq hx hb dX3_swapTopTwo_69 (lv_at hl 1 rfl) ?_
  refine lv_iload hx hb dX3_swapTopTwo_71 (lv_at hl 0 rfl) ?_
  refine x_callv (As := [.int (Xsh_slotBelowTop σ c0 1), .long (Xsh_valueAt σ c0 (Xsh_slotBelowTop σ c0 0)), .int (Xsh_placesAt σ c0 (Xsh_slotBelowTop σ c0 0)), va_rf (((Xsh_rowAt σ c0 (Xsh_slotBelowTop σ c0 0))).map ad), .int (Xsh_startAt σ c0 (Xsh_slotBelowTop σ c0 0))]) (rest := []) X hml G hA (xW_sh h0) rfl (c_Xsh_set l dC dI kc ad _ u_61 c0 (Xsh_slotBelowTop σ c0 1) (Xsh_valueAt σ c0 (Xsh_slotBelowTop σ c0 0)) (Xsh_placesAt σ c0 (Xsh_slotBelowTop σ c0 0)) ((Xsh_rowAt σ c0 (Xsh_slotBelowTop σ c0 0))) (Xsh_startAt σ c0 (Xsh_slotBelowTop σ c0 0)) h0 (fun n hn => by rw [← hw_61]; exact set_v (rowAt_v hrv n hn))) (cwV 5 hts gX3_swapTopTwo_X3_set rfl rfl rfl (by decide +kernel) ⟨Nat.le_of_ble_eq_true rfl, Nat.le_of_ble_eq_true rfl⟩) rfl hl.1 rfl (Nat.le_of_ble_eq_true rfl) dX3_swapTopTwo_73 ⟨Nat.zero_le _, Nat.zero_le _⟩ (fun u_73 H locs hw_73 G => ?_)
  have hv_73 : xWF u_73 := by have h9 : xWF (Xsh_set u_61 c0 (Xsh_slotBelowTop σ c0 1) (Xsh_valueAt σ c0 (Xsh_slotBelowTop σ c0 0)) (Xsh_placesAt σ c0 (Xsh_slotBelowTop σ c0 0)) ((Xsh_rowAt σ c0 (Xsh_slotBelowTop σ c0 0))) (Xsh_startAt σ c0 (Xsh_slotBelowTop σ c0 0))) := set_wf hv_61 (fun n hn => by rw [← hw_61]; exact set_v (rowAt_v hrv n hn)); rw [hw_73] at h9; exact h9
  exact x_vret X G hr hlocks (by simp only [Xsh_swapTopTwo, hw_61, hw_73, ↓reduceIte]) dX3_swapTopTwo_76
theorem putTopOf_wf {σ u : XS} {c0 d0 : Nat} (h : xWF σ) (hw : Xsh_putTopOf σ c0 d0 = .inr u) : xWF u := by
  unfold Xsh_putTopOf at hw
  split at hw
  · cases hw
  · rename_i h9; injection hw with hw; rw [← hw]; exact put_wf h (rowAt_v h) h9
theorem swapTopTwo_wf {σ : XS} {c0 : Nat} (h : xWF σ) : xWF (Xsh_swapTopTwo σ c0) := by
  unfold Xsh_swapTopTwo
  exact set_wf (set_wf h (rowAt_v h)) (fun n hn => set_v (rowAt_v h n hn))
