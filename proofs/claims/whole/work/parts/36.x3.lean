def Xd_charOf (a0 : Int64) (i0 : Int32) : Int32 := ((((a0.toUInt64 >>> ((8 * i0).toInt64.toUInt64 &&& Int64.toUInt64 63)).toInt64).toInt32) &&& 255)
set_option maxHeartbeats 4000000 in
set_option maxRecDepth 100000 in
theorem c_Xd_charOf (l : Launch) (a0 : Int64) (i0 : Int32) : Met l yX4_charOf wsX4_charOf ({ frames := 0, cells := 0, slots := 0, locals := 0 } : Room) (va_Pc [.long a0, .int i0] (fun _ => True)) (QcRead (Xd_charOf a0 i0)) 0 0 (fun _ => False) := by
  refine s_ofW (cc := cX4_charOf) (maxL := 3) (ret := (some .int)) (cls := RX4) (by decide) rfl rfl (Nat.le_of_ble_eq_true rfl) ?_
  intro p e s m below meth c hx hb hts hown hr hlocks hml ls hl
  have hl : lv_has ls 3 [(0, .long a0), (2, .int i0)] := hl
  refine lv_lload_n hx hb dX4_charOf_0 rfl (lv_at hl 0 rfl) ?_
  refine lv_bipush (v := 8) hx hb dX4_charOf_1 (by decide) ?_
  refine lv_iload_n hx hb dX4_charOf_3 rfl (lv_at hl 1 rfl) ?_
  refine lv_imul hx hb dX4_charOf_4 ?_
  refine lv_lushr hx hb dX4_charOf_5 rfl ?_
  refine lv_l2i hx hb dX4_charOf_6 rfl ?_
  refine lv_sipush (v := 255) hx hb dX4_charOf_7 (by decide) ?_
  refine lv_iand hx hb dX4_charOf_10 ?_
  exact W.iret hx hb hr (fun t ht hW => ⟨(by simp only [Xd_charOf, ↓reduceIte, not_false_eq_true, not_true_eq_false, eq_self]), ht⟩) (fun q h => nomatch h) dX4_charOf_11 hlocks
def Xd_isDigit (i0 : Int32) : Int32 := if i0 < 48 then 0 else if 57 < i0 then 0 else 1
set_option maxHeartbeats 4000000 in
set_option maxRecDepth 100000 in
theorem c_Xd_isDigit (l : Launch) (i0 : Int32) : Met l yX4_isDigit wsX4_isDigit ({ frames := 0, cells := 0, slots := 0, locals := 0 } : Room) (va_Pc [.int i0] (fun _ => True)) (QcRead (Xd_isDigit i0)) 0 0 (fun _ => False) := by
  refine s_ofW (cc := cX4_isDigit) (maxL := 1) (ret := (some .boolean)) (cls := RX4) (by decide) rfl rfl (Nat.le_of_ble_eq_true rfl) ?_
  intro p e s m below meth c hx hb hts hown hr hlocks hml ls hl
  have hl : lv_has ls 1 [(0, .int i0)] := hl
  refine lv_iload_n hx hb dX4_isDigit_0 rfl (lv_at hl 0 rfl) ?_
  refine lv_bipush (v := 48) hx hb dX4_isDigit_1 (by decide) ?_
  refine lv_icmp_lt (tgt := 16) hx hb dX4_isDigit_3 (by decide) (fun c_3 => ?_) (fun c_3 => ?_)
  · have c_3 : i0 < 48 := c_3
    refine lv_iconst (v := 0) hx hb dX4_isDigit_16 (by decide) ?_
    exact W.zret hx hb hr rfl (fun t ht hW => ⟨(by simp only [Xd_isDigit, eq_true c_3, ↓reduceIte, not_false_eq_true, not_true_eq_false, eq_self]), ht⟩) (fun q h => nomatch h) dX4_isDigit_17 hlocks
  · have c_3 : ¬ (i0 < 48) := c_3
    refine lv_iload_n hx hb dX4_isDigit_6 rfl (lv_at hl 0 rfl) ?_
    refine lv_bipush (v := 57) hx hb dX4_isDigit_7 (by decide) ?_
    refine lv_icmp_gt (tgt := 16) hx hb dX4_isDigit_9 (by decide) (fun c_9 => ?_) (fun c_9 => ?_)
    · have c_9 : 57 < i0 := c_9
      refine lv_iconst (v := 0) hx hb dX4_isDigit_16 (by decide) ?_
      exact W.zret hx hb hr rfl (fun t ht hW => ⟨(by simp only [Xd_isDigit, eq_false c_3, eq_true c_9, ↓reduceIte, not_false_eq_true, not_true_eq_false, eq_self]), ht⟩) (fun q h => nomatch h) dX4_isDigit_17 hlocks
    · have c_9 : ¬ (57 < i0) := c_9
      refine lv_iconst (v := 1) hx hb dX4_isDigit_12 (by decide) ?_
      refine lv_goto (tgt := 17) hx hb dX4_isDigit_13 (by decide) ?_
      exact W.zret hx hb hr rfl (fun t ht hW => ⟨(by simp only [Xd_isDigit, eq_false c_3, eq_false c_9, ↓reduceIte, not_false_eq_true, not_true_eq_false, eq_self]), ht⟩) (fun q h => nomatch h) dX4_isDigit_17 hlocks
def Xd_beginsNumber (i0 : Int32) : Int32 := if (Xd_isDigit i0) = 0 then (if i0 = 46 then 1 else if i0 = 95 then 1 else 0) else 1
set_option maxHeartbeats 4000000 in
set_option maxRecDepth 100000 in
theorem c_Xd_beginsNumber (l : Launch) (i0 : Int32) : Met l yX4_beginsNumber wsX4_beginsNumber ({ frames := 1, cells := 0, slots := 0, locals := 20 } : Room) (va_Pc [.int i0] (fun _ => True)) (QcRead (Xd_beginsNumber i0)) 0 0 (fun _ => False) := by
  refine s_ofW (cc := cX4_beginsNumber) (maxL := 1) (ret := (some .boolean)) (cls := RX4) (by decide) rfl rfl (Nat.le_of_ble_eq_true rfl) ?_
  intro p e s m below meth c hx hb hts hown hr hlocks hml ls hl
  have hl : lv_has ls 1 [(0, .int i0)] := hl
  refine lv_iload_n hx hb dX4_beginsNumber_0 rfl (lv_at hl 0 rfl) ?_
  refine W.callR (W.runS (As := [.int i0]) (rest := []) ⟨hx, hb, hml, hown, hts⟩ (c_Xd_isDigit l i0) (va_cwS 1 hts gX4_beginsNumber_X4_isDigit rfl rfl rfl (by decide +kernel) ⟨Nat.le_of_ble_eq_true rfl, Nat.le_of_ble_eq_true rfl⟩) ⟨fun a U g mk q => q, fun U _ _ => ⟨rfl, trivial⟩⟩ rfl rfl hl.1 rfl (lv_room (Nat.le_of_ble_eq_true rfl)) dX4_beginsNumber_1 ⟨Nat.zero_le _, Nat.zero_le _⟩) ?_
  refine W.eq (g2 := F0 m 4 ls [.int (Xd_isDigit i0)]) rfl ?_
  refine lv_if_ne (tgt := 19) hx hb dX4_beginsNumber_4 (by decide) (fun c_4 => ?_) (fun c_4 => ?_)
  · have c_4 : ¬ ((Xd_isDigit i0) = 0) := c_4
    refine lv_iconst (v := 1) hx hb dX4_beginsNumber_19 (by decide) ?_
    refine lv_goto (tgt := 24) hx hb dX4_beginsNumber_20 (by decide) ?_
    exact W.zret hx hb hr rfl (fun t ht hW => ⟨(by simp only [Xd_beginsNumber, eq_false c_4, ↓reduceIte, not_false_eq_true, not_true_eq_false, eq_self]), ht⟩) (fun q h => nomatch h) dX4_beginsNumber_24 hlocks
  · have c_4 : (Xd_isDigit i0) = 0 := c_4
    refine lv_iload_n hx hb dX4_beginsNumber_7 rfl (lv_at hl 0 rfl) ?_
    refine lv_bipush (v := 46) hx hb dX4_beginsNumber_8 (by decide) ?_
    refine lv_icmp_eq (tgt := 19) hx hb dX4_beginsNumber_10 (by decide) (fun c_10 => ?_) (fun c_10 => ?_)
    · have c_10 : i0 = 46 := c_10
      refine lv_iconst (v := 1) hx hb dX4_beginsNumber_19 (by decide) ?_
      refine lv_goto (tgt := 24) hx hb dX4_beginsNumber_20 (by decide) ?_
      exact W.zret hx hb hr rfl (fun t ht hW => ⟨(by simp only [Xd_beginsNumber, eq_true c_4, eq_true c_10, ↓reduceIte, not_false_eq_true, not_true_eq_false, eq_self]), ht⟩) (fun q h => nomatch h) dX4_beginsNumber_24 hlocks
    · have c_10 : ¬ (i0 = 46) := c_10
      refine lv_iload_n hx hb dX4_beginsNumber_13 rfl (lv_at hl 0 rfl) ?_
      refine lv_bipush (v := 95) hx hb dX4_beginsNumber_14 (by decide) ?_
      refine lv_icmp_ne (tgt := 23) hx hb dX4_beginsNumber_16 (by decide) (fun c_16 => ?_) (fun c_16 => ?_)
      · have c_16 : ¬ (i0 = 95) := c_16
        refine lv_iconst (v := 0) hx hb dX4_beginsNumber_23 (by decide) ?_
        exact W.zret hx hb hr rfl (fun t ht hW => ⟨(by simp only [Xd_beginsNumber, eq_true c_4, eq_false c_10, eq_false c_16, ↓reduceIte, not_false_eq_true, not_true_eq_false, eq_self]), ht⟩) (fun q h => nomatch h) dX4_beginsNumber_24 hlocks
      · have c_16 : i0 = 95 := c_16
        refine lv_iconst (v := 1) hx hb dX4_beginsNumber_19 (by decide) ?_
        refine lv_goto (tgt := 24) hx hb dX4_beginsNumber_20 (by decide) ?_
        exact W.zret hx hb hr rfl (fun t ht hW => ⟨(by simp only [Xd_beginsNumber, eq_true c_4, eq_false c_10, eq_true c_16, ↓reduceIte, not_false_eq_true, not_true_eq_false, eq_self]), ht⟩) (fun q h => nomatch h) dX4_beginsNumber_24 hlocks
def Xdesk_cost (σ : XS) : Int32 := (σ.1 1)
set_option maxHeartbeats 4000000 in
set_option maxRecDepth 100000 in
theorem c_Xdesk_cost (l : Launch) (dC : Nat → ClassId) (dI : Nat → Nat → Nat) (kc : Nat → ClassId) (ad : Nat → Nat) (sz : Nat) (σ : XS) : Met l yX4_cost wsX4_cost ({ frames := 0, cells := 0, slots := 0, locals := 0 } : Room) (va_Pc [.ref (ad 0)] (xPre dC dI kc ad sz σ)) (va_Qi (fun r u => r = Xdesk_cost σ ∧ u = σ) (xAt dC dI kc ad (xA kc ad σ sz)) (xA kc ad σ sz)) 0 0 (xA kc ad σ sz) := by
  refine x_ofW (cc := cX4_cost) (maxL := 1) (ret := (some .int)) (by decide) rfl rfl (Nat.le_of_ble_eq_true rfl) ?_
  intro p e s m below meth c X G hA hr hlocks hml ls hl
  have hl : lv_has ls 1 [(0, .ref (ad 0))] := hl
  have hx := X.1
  have hb := X.2.1
  have hts := X.2.2.1
  have hown := X.2.2.2.1
  have hz := X.2.2.2.2.2
  have hin4 : ∀ w ∈ wsX40, w ∈ wsX4_cost := (fun w hw => List.mem_cons_of_mem _ (List.mem_append_right _ hw))
  refine lv_aload_n hx hb dX4_cost_0 rfl (lv_at hl 0 rfl) ?_
  refine x_dget_6 X G hin4 (by decide +kernel) dX4_cost_1 ?_
  exact x_iret (v := (σ.1 1)) X G hr hlocks ⟨(by unfold Xdesk_cost; first | simp only [↓reduceIte] | rfl), rfl⟩ dX4_cost_4
def Xdesk_prints (σ : XS) : Int32 := (σ.1 31)
set_option maxHeartbeats 4000000 in
set_option maxRecDepth 100000 in
theorem c_Xdesk_prints (l : Launch) (dC : Nat → ClassId) (dI : Nat → Nat → Nat) (kc : Nat → ClassId) (ad : Nat → Nat) (sz : Nat) (σ : XS) : Met l yX4_prints wsX4_prints ({ frames := 0, cells := 0, slots := 0, locals := 0 } : Room) (va_Pc [.ref (ad 0)] (xPre dC dI kc ad sz σ)) (va_Qi (fun r u => r = Xdesk_prints σ ∧ u = σ) (xAt dC dI kc ad (xA kc ad σ sz)) (xA kc ad σ sz)) 0 0 (xA kc ad σ sz) := by
  refine x_ofW (cc := cX4_prints) (maxL := 1) (ret := (some .int)) (by decide) rfl rfl (Nat.le_of_ble_eq_true rfl) ?_
  intro p e s m below meth c X G hA hr hlocks hml ls hl
  have hl : lv_has ls 1 [(0, .ref (ad 0))] := hl
  have hx := X.1
  have hb := X.2.1
  have hts := X.2.2.1
  have hown := X.2.2.2.1
  have hz := X.2.2.2.2.2
  have hin3 : ∀ w ∈ wsX30, w ∈ wsX4_prints := (fun w hw => List.mem_cons_of_mem _ (List.mem_append_right _ hw))
  have hin4 : ∀ w ∈ wsX40, w ∈ wsX4_prints := (fun w hw => List.mem_cons_of_mem _ (List.mem_append_left _ (List.mem_append_right _ hw)))
  refine lv_aload_n hx hb dX4_prints_0 rfl (lv_at hl 0 rfl) ?_
  refine x_dget_2 X G hin4 (by decide +kernel) dX4_prints_1 ?_
  refine x_sget_4 X G hin3 (by decide) (by decide +kernel) dX4_prints_4 ?_
  exact x_iret (v := (σ.1 31)) X G hr hlocks ⟨(by unfold Xdesk_prints; first | simp only [↓reduceIte] | rfl), rfl⟩ dX4_prints_7
def Xdesk_printed (σ : XS) (i0 : Int32) : Int64 := (Xsh_valueAt σ 31 i0)
set_option maxHeartbeats 4000000 in
set_option maxRecDepth 100000 in
theorem c_Xdesk_printed (l : Launch) (dC : Nat → ClassId) (dI : Nat → Nat → Nat) (kc : Nat → ClassId) (ad : Nat → Nat) (sz : Nat) (σ : XS) (i0 : Int32) : Met l yX4_printed wsX4_printed ({ frames := 2, cells := 0, slots := 0, locals := 42 } : Room) (va_Pc [.ref (ad 0), .int i0] (xPre dC dI kc ad sz σ)) (va_Ql (fun r u => r = Xdesk_printed σ i0 ∧ u = σ) (xAt dC dI kc ad (xA kc ad σ sz)) (xA kc ad σ sz)) 0 0 (xA kc ad σ sz) := by
  refine x_ofW (cc := cX4_printed) (maxL := 2) (ret := (some .long)) (by decide) rfl rfl (Nat.le_of_ble_eq_true rfl) ?_
  intro p e s m below meth c X G hA hr hlocks hml ls hl
  have hl : lv_has ls 2 [(0, .ref (ad 0)), (1, .int i0)] := hl
  have hx := X.1
  have hb := X.2.1
  have hts := X.2.2.1
  have hown := X.2.2.2.1
  have hz := X.2.2.2.2.2
  have hin3 : ∀ w ∈ wsX30, w ∈ wsX4_printed := (fun w hw => List.mem_cons_of_mem _ (List.mem_append_right _ hw))
  have hin4 : ∀ w ∈ wsX40, w ∈ wsX4_printed := (fun w hw => List.mem_cons_of_mem _ (List.mem_append_left _ (List.mem_append_right _ hw)))
  refine lv_aload_n hx hb dX4_printed_0 rfl (lv_at hl 0 rfl) ?_
  refine x_dget_2 X G hin4 (by decide +kernel) dX4_printed_1 ?_
  refine lv_iload_n hx hb dX4_printed_4 rfl (lv_at hl 1 rfl) ?_
  refine x_calll (As := [.int i0]) (rest := []) X hml G hA (xW_sh (by decide)) rfl (c_Xsh_valueAt l dC dI kc ad _ σ 31 i0 (by decide)) (cwV 1 hts gX4_printed_X3_valueAt rfl rfl rfl (by decide +kernel) ⟨Nat.le_of_ble_eq_true rfl, Nat.le_of_ble_eq_true rfl⟩) rfl hl.1 rfl (Nat.le_of_ble_eq_true rfl) dX4_printed_5 ⟨Nat.zero_le _, Nat.zero_le _⟩ (fun r_5 u_5 H locs hw_5 G => ?_)
  obtain ⟨rfl, hu_5⟩ := hw_5
  rw [hu_5] at G
  exact x_lret (v := (Xsh_valueAt σ 31 i0)) X G hr hlocks ⟨(by unfold Xdesk_printed; first | simp only [↓reduceIte] | rfl), rfl⟩ dX4_printed_8
def Xdesk_places (σ : XS) (i0 : Int32) : Int32 := (Xsh_placesAt σ 31 i0)
set_option maxHeartbeats 4000000 in
set_option maxRecDepth 100000 in
theorem c_Xdesk_places (l : Launch) (dC : Nat → ClassId) (dI : Nat → Nat → Nat) (kc : Nat → ClassId) (ad : Nat → Nat) (sz : Nat) (σ : XS) (i0 : Int32) : Met l yX4_places wsX4_places ({ frames := 2, cells := 0, slots := 0, locals := 42 } : Room) (va_Pc [.ref (ad 0), .int i0] (xPre dC dI kc ad sz σ)) (va_Qi (fun r u => r = Xdesk_places σ i0 ∧ u = σ) (xAt dC dI kc ad (xA kc ad σ sz)) (xA kc ad σ sz)) 0 0 (xA kc ad σ sz) := by
  refine x_ofW (cc := cX4_places) (maxL := 2) (ret := (some .int)) (by decide) rfl rfl (Nat.le_of_ble_eq_true rfl) ?_
  intro p e s m below meth c X G hA hr hlocks hml ls hl
  have hl : lv_has ls 2 [(0, .ref (ad 0)), (1, .int i0)] := hl
  have hx := X.1
  have hb := X.2.1
  have hts := X.2.2.1
  have hown := X.2.2.2.1
  have hz := X.2.2.2.2.2
  have hin3 : ∀ w ∈ wsX30, w ∈ wsX4_places := (fun w hw => List.mem_cons_of_mem _ (List.mem_append_right _ hw))
  have hin4 : ∀ w ∈ wsX40, w ∈ wsX4_places := (fun w hw => List.mem_cons_of_mem _ (List.mem_append_left _ (List.mem_append_right _ hw)))
  refine lv_aload_n hx hb dX4_places_0 rfl (lv_at hl 0 rfl) ?_
  refine x_dget_2 X G hin4 (by decide +kernel) dX4_places_1 ?_
  refine lv_iload_n hx hb dX4_places_4 rfl (lv_at hl 1 rfl) ?_
  refine x_calli (As := [.int i0]) (rest := []) X hml G hA (xW_sh (by decide)) rfl (c_Xsh_placesAt l dC dI kc ad _ σ 31 i0 (by decide)) (cwV 1 hts gX4_places_X3_placesAt rfl rfl rfl (by decide +kernel) ⟨Nat.le_of_ble_eq_true rfl, Nat.le_of_ble_eq_true rfl⟩) rfl hl.1 rfl (Nat.le_of_ble_eq_true rfl) dX4_places_5 ⟨Nat.zero_le _, Nat.zero_le _⟩ (fun r_5 u_5 H locs hw_5 G => ?_)
  obtain ⟨rfl, hu_5⟩ := hw_5
  rw [hu_5] at G
  exact x_iret (v := (Xsh_placesAt σ 31 i0)) X G hr hlocks ⟨(by unfold Xdesk_places; first | simp only [↓reduceIte] | rfl), rfl⟩ dX4_places_8
def Xdesk_depth (σ : XS) : Int32 := (σ.1 6)
set_option maxHeartbeats 4000000 in
set_option maxRecDepth 100000 in
theorem c_Xdesk_depth (l : Launch) (dC : Nat → ClassId) (dI : Nat → Nat → Nat) (kc : Nat → ClassId) (ad : Nat → Nat) (sz : Nat) (σ : XS) : Met l yX4_depth wsX4_depth ({ frames := 0, cells := 0, slots := 0, locals := 0 } : Room) (va_Pc [.ref (ad 0)] (xPre dC dI kc ad sz σ)) (va_Qi (fun r u => r = Xdesk_depth σ ∧ u = σ) (xAt dC dI kc ad (xA kc ad σ sz)) (xA kc ad σ sz)) 0 0 (xA kc ad σ sz) := by
  refine x_ofW (cc := cX4_depth) (maxL := 1) (ret := (some .int)) (by decide) rfl rfl (Nat.le_of_ble_eq_true rfl) ?_
  intro p e s m below meth c X G hA hr hlocks hml ls hl
  have hl : lv_has ls 1 [(0, .ref (ad 0))] := hl
  have hx := X.1
  have hb := X.2.1
  have hts := X.2.2.1
  have hown := X.2.2.2.1
  have hz := X.2.2.2.2.2
  have hin3 : ∀ w ∈ wsX30, w ∈ wsX4_depth := (fun w hw => List.mem_cons_of_mem _ (List.mem_append_right _ hw))
  have hin4 : ∀ w ∈ wsX40, w ∈ wsX4_depth := (fun w hw => List.mem_cons_of_mem _ (List.mem_append_left _ (List.mem_append_right _ hw)))
  refine lv_aload_n hx hb dX4_depth_0 rfl (lv_at hl 0 rfl) ?_
  refine x_dget_0 X G hin4 (by decide +kernel) dX4_depth_1 ?_
  refine x_sget_4 X G hin3 (by decide) (by decide +kernel) dX4_depth_4 ?_
  exact x_iret (v := (σ.1 6)) X G hr hlocks ⟨(by unfold Xdesk_depth; first | simp only [↓reduceIte] | rfl), rfl⟩ dX4_depth_7
def Xdesk_item (σ : XS) (i0 : Int32) : Int64 := (Xsh_valueAt σ 6 (Xsh_slotBelowTop σ 6 i0))
set_option maxHeartbeats 4000000 in
set_option maxRecDepth 100000 in
theorem c_Xdesk_item (l : Launch) (dC : Nat → ClassId) (dI : Nat → Nat → Nat) (kc : Nat → ClassId) (ad : Nat → Nat) (sz : Nat) (σ : XS) (i0 : Int32) : Met l yX4_item wsX4_item ({ frames := 2, cells := 0, slots := 0, locals := 42 } : Room) (va_Pc [.ref (ad 0), .int i0] (xPre dC dI kc ad sz σ)) (va_Ql (fun r u => r = Xdesk_item σ i0 ∧ u = σ) (xAt dC dI kc ad (xA kc ad σ sz)) (xA kc ad σ sz)) 0 0 (xA kc ad σ sz) := by
  refine x_ofW (cc := cX4_item) (maxL := 2) (ret := (some .long)) (by decide) rfl rfl (Nat.le_of_ble_eq_true rfl) ?_
  intro p e s m below meth c X G hA hr hlocks hml ls hl
  have hl : lv_has ls 2 [(0, .ref (ad 0)), (1, .int i0)] := hl
  have hx := X.1
  have hb := X.2.1
  have hts := X.2.2.1
  have hown := X.2.2.2.1
  have hz := X.2.2.2.2.2
  have hin3 : ∀ w ∈ wsX30, w ∈ wsX4_item := (fun w hw => List.mem_cons_of_mem _ (List.mem_append_right _ hw))
  have hin4 : ∀ w ∈ wsX40, w ∈ wsX4_item := (fun w hw => List.mem_cons_of_mem _ (List.mem_append_left _ (List.mem_append_right _ hw)))
  refine lv_aload_n hx hb dX4_item_0 rfl (lv_at hl 0 rfl) ?_
  refine x_dget_0 X G hin4 (by decide +kernel) dX4_item_1 ?_
  refine lv_aload_n hx hb dX4_item_4 rfl (lv_at hl 0 rfl) ?_
  refine x_dget_0 X G hin4 (by decide +kernel) dX4_item_5 ?_
  refine lv_iload_n hx hb dX4_item_8 rfl (lv_at hl 1 rfl) ?_
  refine x_calli (As := [.int i0]) (rest := [.ref (ad 6)]) X hml G hA (xW_sh (by decide)) rfl (c_Xsh_slotBelowTop l dC dI kc ad _ σ 6 i0 (by decide)) (cwV 1 hts gX4_item_X3_slotBelowTop rfl rfl rfl (by decide +kernel) ⟨Nat.le_of_ble_eq_true rfl, Nat.le_of_ble_eq_true rfl⟩) rfl hl.1 rfl (Nat.le_of_ble_eq_true rfl) dX4_item_9 ⟨Nat.zero_le _, Nat.zero_le _⟩ (fun r_9 u_9 H locs hw_9 G => ?_)
  obtain ⟨rfl, hu_9⟩ := hw_9
  rw [hu_9] at G
  refine x_calll (As := [.int (Xsh_slotBelowTop σ 6 i0)]) (rest := []) X hml G hA (xW_sh (by decide)) rfl (c_Xsh_valueAt l dC dI kc ad _ σ 6 (Xsh_slotBelowTop σ 6 i0) (by decide)) (cwV 1 hts gX4_item_X3_valueAt rfl rfl rfl (by decide +kernel) ⟨Nat.le_of_ble_eq_true rfl, Nat.le_of_ble_eq_true rfl⟩) rfl hl.1 rfl (Nat.le_of_ble_eq_true rfl) dX4_item_12 ⟨Nat.zero_le _, Nat.zero_le _⟩ (fun r_12 u_12 H locs hw_12 G => ?_)
  obtain ⟨rfl, hu_12⟩ := hw_12
  rw [hu_12] at G
  exact x_lret (v := (Xsh_valueAt σ 6 (Xsh_slotBelowTop σ 6 i0))) X G hr hlocks ⟨(by unfold Xdesk_item; first | simp only [↓reduceIte] | rfl), rfl⟩ dX4_item_15
def Xdesk_scale (σ : XS) (i0 : Int32) : Int32 := (Xsh_placesAt σ 6 (Xsh_slotBelowTop σ 6 i0))
set_option maxHeartbeats 4000000 in
set_option maxRecDepth 100000 in
theorem c_Xdesk_scale (l : Launch) (dC : Nat → ClassId) (dI : Nat → Nat → Nat) (kc : Nat → ClassId) (ad : Nat → Nat) (sz : Nat) (σ : XS) (i0 : Int32) : Met l yX4_scale wsX4_scale ({ frames := 2, cells := 0, slots := 0, locals := 42 } : Room) (va_Pc [.ref (ad 0), .int i0] (xPre dC dI kc ad sz σ)) (va_Qi (fun r u => r = Xdesk_scale σ i0 ∧ u = σ) (xAt dC dI kc ad (xA kc ad σ sz)) (xA kc ad σ sz)) 0 0 (xA kc ad σ sz) := by
  refine x_ofW (cc := cX4_scale) (maxL := 2) (ret := (some .int)) (by decide) rfl rfl (Nat.le_of_ble_eq_true rfl) ?_
  intro p e s m below meth c X G hA hr hlocks hml ls hl
  have hl : lv_has ls 2 [(0, .ref (ad 0)), (1, .int i0)] := hl
  have hx := X.1
  have hb := X.2.1
  have hts := X.2.2.1
  have hown := X.2.2.2.1
  have hz := X.2.2.2.2.2
  have hin3 : ∀ w ∈ wsX30, w ∈ wsX4_scale := (fun w hw => List.mem_cons_of_mem _ (List.mem_append_right _ hw))
  have hin4 : ∀ w ∈ wsX40, w ∈ wsX4_scale := (fun w hw => List.mem_cons_of_mem _ (List.mem_append_left _ (List.mem_append_right _ hw)))
  refine lv_aload_n hx hb dX4_scale_0 rfl (lv_at hl 0 rfl) ?_
  refine x_dget_0 X G hin4 (by decide +kernel) dX4_scale_1 ?_
  refine lv_aload_n hx hb dX4_scale_4 rfl (lv_at hl 0 rfl) ?_
  refine x_dget_0 X G hin4 (by decide +kernel) dX4_scale_5 ?_
  refine lv_iload_n hx hb dX4_scale_8 rfl (lv_at hl 1 rfl) ?_
  refine x_calli (As := [.int i0]) (rest := [.ref (ad 6)]) X hml G hA (xW_sh (by decide)) rfl (c_Xsh_slotBelowTop l dC dI kc ad _ σ 6 i0 (by decide)) (cwV 1 hts gX4_scale_X3_slotBelowTop rfl rfl rfl (by decide +kernel) ⟨Nat.le_of_ble_eq_true rfl, Nat.le_of_ble_eq_true rfl⟩) rfl hl.1 rfl (Nat.le_of_ble_eq_true rfl) dX4_scale_9 ⟨Nat.zero_le _, Nat.zero_le _⟩ (fun r_9 u_9 H locs hw_9 G => ?_)
  obtain ⟨rfl, hu_9⟩ := hw_9
  rw [hu_9] at G
  refine x_calli (As := [.int (Xsh_slotBelowTop σ 6 i0)]) (rest := []) X hml G hA (xW_sh (by decide)) rfl (c_Xsh_placesAt l dC dI kc ad _ σ 6 (Xsh_slotBelowTop σ 6 i0) (by decide)) (cwV 1 hts gX4_scale_X3_placesAt rfl rfl rfl (by decide +kernel) ⟨Nat.le_of_ble_eq_true rfl, Nat.le_of_ble_eq_true rfl⟩) rfl hl.1 rfl (Nat.le_of_ble_eq_true rfl) dX4_scale_12 ⟨Nat.zero_le _, Nat.zero_le _⟩ (fun r_12 u_12 H locs hw_12 G => ?_)
  obtain ⟨rfl, hu_12⟩ := hw_12
  rw [hu_12] at G
  exact x_iret (v := (Xsh_placesAt σ 6 (Xsh_slotBelowTop σ 6 i0))) X G hr hlocks ⟨(by unfold Xdesk_scale; first | simp only [↓reduceIte] | rfl), rfl⟩ dX4_scale_15
def Xdesk_precision (σ : XS) : Int32 := (σ.1 0)
set_option maxHeartbeats 4000000 in
set_option maxRecDepth 100000 in
theorem c_Xdesk_precision (l : Launch) (dC : Nat → ClassId) (dI : Nat → Nat → Nat) (kc : Nat → ClassId) (ad : Nat → Nat) (sz : Nat) (σ : XS) : Met l yX4_precision wsX4_precision ({ frames := 0, cells := 0, slots := 0, locals := 0 } : Room) (va_Pc [.ref (ad 0)] (xPre dC dI kc ad sz σ)) (va_Qi (fun r u => r = Xdesk_precision σ ∧ u = σ) (xAt dC dI kc ad (xA kc ad σ sz)) (xA kc ad σ sz)) 0 0 (xA kc ad σ sz) := by
  refine x_ofW (cc := cX4_precision) (maxL := 1) (ret := (some .int)) (by decide) rfl rfl (Nat.le_of_ble_eq_true rfl) ?_
  intro p e s m below meth c X G hA hr hlocks hml ls hl
  have hl : lv_has ls 1 [(0, .ref (ad 0))] := hl
  have hx := X.1
  have hb := X.2.1
  have hts := X.2.2.1
  have hown := X.2.2.2.1
  have hz := X.2.2.2.2.2
  have hin4 : ∀ w ∈ wsX40, w ∈ wsX4_precision := (fun w hw => List.mem_cons_of_mem _ (List.mem_append_right _ hw))
  refine lv_aload_n hx hb dX4_precision_0 rfl (lv_at hl 0 rfl) ?_
  refine x_dget_5 X G hin4 (by decide +kernel) dX4_precision_1 ?_
  exact x_iret (v := (σ.1 0)) X G hr hlocks ⟨(by unfold Xdesk_precision; first | simp only [↓reduceIte] | rfl), rfl⟩ dX4_precision_4
theorem reg_in {i : Int32} (h0 : ¬ i < 0) (h1 : i < 4) : vp_in i 4 := by
  rw [vp_in_iff]
  rw [Int32.lt_iff_toInt_lt] at h0 h1
  have z0 : (0 : Int32).toInt = 0 := rfl
  have z1 : (4 : Int32).toInt = 4 := rfl
  omega
def Xdesk_registerNumbered (σ : XS) (i0 : Int32) : Option Nat := if i0 < 0 then (((none : Option Nat))) else if i0 < 4 then (((some ((11 + 5 * i0.toNatClampNeg))))) else ((none : Option Nat))
set_option maxHeartbeats 4000000 in
set_option maxRecDepth 100000 in
theorem c_Xdesk_registerNumbered (l : Launch) (dC : Nat → ClassId) (dI : Nat → Nat → Nat) (kc : Nat → ClassId) (ad : Nat → Nat) (sz : Nat) (σ : XS) (i0 : Int32) : Met l yX4_registerNumbered wsX4_registerNumbered ({ frames := 0, cells := 0, slots := 0, locals := 0 } : Room) (va_Pc [.ref (ad 0), .int i0] (xPre dC dI kc ad sz σ)) (va_Qq (fun r u => ∃ o : Option Nat, r = o.map ad ∧ o = Xdesk_registerNumbered σ i0 ∧ u = σ) (xAt dC dI kc ad (xA kc ad σ sz)) (xA kc ad σ sz)) 0 0 (xA kc ad σ sz) := by
  refine x_ofW (cc := cX4_registerNumbered) (maxL := 2) (ret := (some (.object "DeskStack$Shelf"))) (by decide) rfl rfl (Nat.le_of_ble_eq_true rfl) ?_
  intro p e s m below meth c X G hA hr hlocks hml ls hl
  have hl : lv_has ls 2 [(0, .ref (ad 0)), (1, .int i0)] := hl
  have hx := X.1
  have hb := X.2.1
  have hts := X.2.2.1
  have hown := X.2.2.2.1
  have hz := X.2.2.2.2.2
  have hin4 : ∀ w ∈ wsX40, w ∈ wsX4_registerNumbered := (fun w hw => List.mem_cons_of_mem _ (List.mem_append_right _ hw))
  refine lv_iload_n hx hb dX4_registerNumbered_0 rfl (lv_at hl 1 rfl) ?_
  refine lv_if_lt (tgt := 13) hx hb dX4_registerNumbered_1 (by decide) (fun c_1 => ?_) (fun c_1 => ?_)
  · have c_1 : i0 < 0 := c_1
    refine lv_null hx hb dX4_registerNumbered_13 ?_
    refine lv_goto (tgt := 23) hx hb dX4_registerNumbered_14 (by decide) ?_
    exact x_qret (o := ((none : Option Nat)).map ad) X G hr hlocks ⟨((none : Option Nat)), rfl, ⟨(by unfold Xdesk_registerNumbered; first | simp only [eq_true c_1, ↓reduceIte] | rfl), rfl⟩⟩ dX4_registerNumbered_23
  · have c_1 : ¬ (i0 < 0) := c_1
    refine lv_iload_n hx hb dX4_registerNumbered_4 rfl (lv_at hl 1 rfl) ?_
    refine lv_aload_n hx hb dX4_registerNumbered_5 rfl (lv_at hl 0 rfl) ?_
    refine x_dget_1 X G hin4 (by decide +kernel) dX4_registerNumbered_6 ?_
    refine x_alenR X G dX4_registerNumbered_9 ?_
    refine lv_icmp_lt (tgt := 17) hx hb dX4_registerNumbered_10 (by decide) (fun c_10 => ?_) (fun c_10 => ?_)
    · have c_10 : i0 < 4 := c_10
      refine lv_aload_n hx hb dX4_registerNumbered_17 rfl (lv_at hl 0 rfl) ?_
      refine x_dget_1 X G hin4 (by decide +kernel) dX4_registerNumbered_18 ?_
      refine lv_iload_n hx hb dX4_registerNumbered_21 rfl (lv_at hl 1 rfl) ?_
      refine x_rld X G (reg_in c_1 c_10) dX4_registerNumbered_22 ?_
      exact x_qret (o := ((some ((11 + 5 * i0.toNatClampNeg)))).map ad) X G hr hlocks ⟨((some ((11 + 5 * i0.toNatClampNeg)))), rfl, ⟨(by unfold Xdesk_registerNumbered; first | simp only [eq_false c_1, eq_true c_10, ↓reduceIte] | rfl), rfl⟩⟩ dX4_registerNumbered_23
    · have c_10 : ¬ (i0 < 4) := c_10
      refine lv_null hx hb dX4_registerNumbered_13 ?_
      refine lv_goto (tgt := 23) hx hb dX4_registerNumbered_14 (by decide) ?_
      exact x_qret (o := ((none : Option Nat)).map ad) X G hr hlocks ⟨((none : Option Nat)), rfl, ⟨(by unfold Xdesk_registerNumbered; first | simp only [eq_false c_1, eq_false c_10, ↓reduceIte] | rfl), rfl⟩⟩ dX4_registerNumbered_23
theorem regN_mem {σ : XS} {i0 : Int32} {c : Nat} (h : Xdesk_registerNumbered σ i0 = some c) : c ∈ shN := by
  unfold Xdesk_registerNumbered at h
  split at h
  · cases h
  · split at h
    · rename_i h0 h1
      injection h with h
      have h9 := reg_in h0 h1
      rw [vp_in_iff] at h9
      have h8 : (i0.toNatClampNeg : Int) = i0.toInt := i_cl h9.1
      have h7 : i0.toNatClampNeg = 0 ∨ i0.toNatClampNeg = 1 ∨ i0.toNatClampNeg = 2 ∨ i0.toNatClampNeg = 3 := by omega
      rw [← h]
      rcases h7 with h7 | h7 | h7 | h7 <;> rw [h7] <;> decide
    · cases h
def Xdesk_held (σ : XS) (i0 : Int32) : Int32 := (match (Xdesk_registerNumbered σ i0) with | none => (-1) | some n7 => (σ.1 n7))
set_option maxHeartbeats 4000000 in
set_option maxRecDepth 100000 in
theorem c_Xdesk_held (l : Launch) (dC : Nat → ClassId) (dI : Nat → Nat → Nat) (kc : Nat → ClassId) (ad : Nat → Nat) (sz : Nat) (σ : XS) (i0 : Int32) : Met l yX4_held wsX4_held ({ frames := 1, cells := 0, slots := 0, locals := 21 } : Room) (va_Pc [.ref (ad 0), .int i0] (xPre dC dI kc ad sz σ)) (va_Qi (fun r u => r = Xdesk_held σ i0 ∧ u = σ) (xAt dC dI kc ad (xA kc ad σ sz)) (xA kc ad σ sz)) 0 0 (xA kc ad σ sz) := by
  refine x_ofW (cc := cX4_held) (maxL := 3) (ret := (some .int)) (by decide) rfl rfl (Nat.le_of_ble_eq_true rfl) ?_
  intro p e s m below meth c X G hA hr hlocks hml ls hl
  have hl : lv_has ls 3 [(0, .ref (ad 0)), (1, .int i0)] := hl
  have hx := X.1
  have hb := X.2.1
  have hts := X.2.2.1
  have hown := X.2.2.2.1
  have hz := X.2.2.2.2.2
  have hin3 : ∀ w ∈ wsX30, w ∈ wsX4_held := (fun w hw => List.mem_cons_of_mem _ (List.mem_append_left _ (List.mem_append_right _ hw)))
  have hin4 : ∀ w ∈ wsX40, w ∈ wsX4_held := (fun w hw => List.mem_cons_of_mem _ (List.mem_append_right _ hw))
  refine lv_aload_n hx hb dX4_held_0 rfl (lv_at hl 0 rfl) ?_
  refine lv_iload_n hx hb dX4_held_1 rfl (lv_at hl 1 rfl) ?_
  refine x_callq (As := [.int i0]) (rest := []) X hml G hA xW_desk rfl (c_Xdesk_registerNumbered l dC dI kc ad _ σ i0) (cwV 1 hts gX4_held_X4_registerNumbered rfl rfl rfl (by decide +kernel) ⟨Nat.le_of_ble_eq_true rfl, Nat.le_of_ble_eq_true rfl⟩) rfl hl.1 rfl (Nat.le_of_ble_eq_true rfl) dX4_held_2 ⟨Nat.zero_le _, Nat.zero_le _⟩ (fun r_2 u_2 H locs hw_2 G => ?_)
  obtain ⟨_, rfl, rfl, hu_2⟩ := hw_2
  rw [hu_2] at G
  refine x_astore_nq (lv' := [(2, va_rf ((Xdesk_registerNumbered σ i0).map ad)), (0, .ref (ad 0)), (1, .int i0)]) hx hb dX4_held_5 rfl hl (by decide) rfl (fun ls hl => ?_)
  refine x_aload_nq hx hb dX4_held_6 rfl (lv_at hl 0 rfl) ?_
  refine x_ifnonnull (o := (Xdesk_registerNumbered σ i0)) (tgt := 14) hx hb dX4_held_7 (by decide) (fun n_7x n_7 => ?_) (fun n_7 => ?_)
  · have n_7 := n_7
    have hl : lv_has ls 3 [(2, .ref (ad n_7x)), (0, .ref (ad 0)), (1, .int i0)] := by rw [n_7] at hl; exact hl
    refine lv_aload_n hx hb dX4_held_14 rfl (lv_at hl 0 rfl) ?_
    refine x_sget_4 X G hin3 (regN_mem n_7) (by decide +kernel) dX4_held_15 ?_
    exact x_iret (v := (σ.1 n_7x)) X G hr hlocks ⟨(by unfold Xdesk_held; first | simp only [n_7, ↓reduceIte] | rfl), rfl⟩ dX4_held_18
  · have n_7 := n_7
    refine lv_iconst (v := -1) hx hb dX4_held_10 (by decide) ?_
    refine lv_goto (tgt := 18) hx hb dX4_held_11 (by decide) ?_
    exact x_iret (v := (-1)) X G hr hlocks ⟨(by unfold Xdesk_held; first | simp only [n_7, ↓reduceIte] | rfl), rfl⟩ dX4_held_18
def Xdesk_reset_L9 : Nat → Int32 → XS → XS
  | 0, _, τ => τ
  | f + 1, i0, τ => if 4 ≤ i0 then (let q_38 := Xsh_clear τ 31; (xi q_38 0 0)) else (match (Xdesk_registerNumbered τ i0) with | none => Xdesk_reset_L9 f (i0 + 1) τ | some n21 => let q_25 := Xsh_clear τ n21; Xdesk_reset_L9 f (i0 + 1) q_25)
def Xdesk_reset (σ : XS) : XS := let q_4 := Xsh_clear σ 6; Xdesk_reset_L9 (5) 0 q_4
set_option maxHeartbeats 4000000 in
set_option maxRecDepth 100000 in
theorem c_Xdesk_reset_L9 {p : Program} (l : Launch) {e : Env} {s : State} {m : MethodId} {below : List Frame} {meth : Method} {c : Code} {dC : Nat → ClassId} {dI : Nat → Nat → Nat} {kc : Nat → ClassId} {ad : Nat → Nat} {sz : Nat} (σ : XS) (X : xX p s m ([.ref (ad 0)] : List Value).toArray c cX4_reset wsX4_reset dC dI kc RX4 (xA kc ad σ sz)) (hA : ∀ q : Nat, s.heap.size ≤ q → xA kc ad σ sz q) (hr : meth.sig.returnType = none) (hlocks : meth.locks = false) (hml : c.maxLocals = 3) :
    ∀ (fu : Nat) (i0 : Int32) (τ : XS), Xdesk_reset σ = Xdesk_reset_L9 fu i0 τ → (0 ≤ i0.toInt) → (i0.toInt ≤ 4) → (5 ≤ i0.toInt + (fu : Int)) → ∀ (H : Heap) (locs : List Loc), xH dC dI kc ad τ (xA kc ad σ sz) s.heap H locs → ∀ ls : Array Slot, lv_has ls 3 [(0, .ref (ad 0)), (1, .int i0)] → W p l e ({ frames := 1, cells := 0, slots := 0, locals := 21 } : Room) s m ([.ref (ad 0)] : List Value).toArray below meth c H locs 0 0 (MQ below (va_Qv (fun u => Xdesk_reset σ = u) (xAt dC dI kc ad (xA kc ad σ sz)) (xA kc ad σ sz)) ([.ref (ad 0)] : List Value).toArray s 0 0 (xA kc ad σ sz)) (F0 m 9 ls []) := by
  have hx := X.1
  have hb := X.2.1
  have hts := X.2.2.1
  have hown := X.2.2.2.1
  have hz := X.2.2.2.2.2
  have hin3 : ∀ w ∈ wsX30, w ∈ wsX4_reset := (fun w hw => List.mem_cons_of_mem _ (List.mem_append_right _ hw))
  have hin4 : ∀ w ∈ wsX40, w ∈ wsX4_reset := (fun w hw => List.mem_cons_of_mem _ (List.mem_append_left _ (List.mem_append_right _ hw)))
  intro fu
  induction fu with
  | zero =>
    intro i0 τ hI hi0 hi1 hi2
    exact absurd hi2 (by omega)
  | succ fu ih =>
    intro i0 τ hI hi0 hi1 hi2 H locs G ls hl
    refine lv_iload_n hx hb dX4_reset_9 rfl (lv_at hl 1 rfl) ?_
    refine lv_iconst (v := 4) hx hb dX4_reset_10 (by decide) ?_
    refine lv_icmp_ge (tgt := 34) hx hb dX4_reset_11 (by decide) (fun c_11 => ?_) (fun c_11 => ?_)
    · have c_11 : 4 ≤ i0 := c_11
      refine lv_aload_n hx hb dX4_reset_34 rfl (lv_at hl 0 rfl) ?_
      refine x_dget_2 X G hin4 (by decide +kernel) dX4_reset_35 ?_
      refine x_callv (As := []) (rest := []) X hml G hA (xW_sh (by decide)) rfl (c_Xsh_clear l dC dI kc ad _ τ 31 (by decide)) (cwV 0 hts gX4_reset_X3_clear rfl rfl rfl (by decide +kernel) ⟨Nat.le_of_ble_eq_true rfl, Nat.le_of_ble_eq_true rfl⟩) rfl hl.1 rfl (Nat.le_of_ble_eq_true rfl) dX4_reset_38 ⟨Nat.zero_le _, Nat.zero_le _⟩ (fun u_38 H locs hw_38 G => ?_)
      refine lv_aload_n hx hb dX4_reset_41 rfl (lv_at hl 0 rfl) ?_
      refine lv_iconst (v := 0) hx hb dX4_reset_42 (by decide) ?_
      refine x_dput_5 X G hin4 (by decide +kernel) dX4_reset_43 (fun H locs G => ?_)
      have G : xH dC dI kc ad (xi u_38 0 0) _ s.heap H locs := G
      exact x_vret X G hr hlocks (by rw [hI]; simp only [Xdesk_reset_L9, eq_true c_11, hw_38, ↓reduceIte]) dX4_reset_46
    · have c_11 : ¬ (4 ≤ i0) := c_11
      have k_11 : i0.toInt < 4 := by have h9 := c_11; rw [Int32.not_le, Int32.lt_iff_toInt_lt] at h9; exact h9
      have e_11 : (i0 + 1).toInt = i0.toInt + 1 := i_addE rfl (show (1 : Int32).toInt = 1 from rfl) (by omega) (by omega)
      refine lv_aload_n hx hb dX4_reset_14 rfl (lv_at hl 0 rfl) ?_
      refine lv_iload_n hx hb dX4_reset_15 rfl (lv_at hl 1 rfl) ?_
      refine x_callq (As := [.int i0]) (rest := []) X hml G hA xW_desk rfl (c_Xdesk_registerNumbered l dC dI kc ad _ τ i0) (cwV 1 hts gX4_reset_X4_registerNumbered rfl rfl rfl (by decide +kernel) ⟨Nat.le_of_ble_eq_true rfl, Nat.le_of_ble_eq_true rfl⟩) rfl hl.1 rfl (Nat.le_of_ble_eq_true rfl) dX4_reset_16 ⟨Nat.zero_le _, Nat.zero_le _⟩ (fun r_16 u_16 H locs hw_16 G => ?_)
      obtain ⟨_, rfl, rfl, hu_16⟩ := hw_16
      rw [hu_16] at G
      refine x_astore_nq (lv' := [(2, va_rf ((Xdesk_registerNumbered τ i0).map ad)), (0, .ref (ad 0)), (1, .int i0)]) hx hb dX4_reset_19 rfl hl (by decide) rfl (fun ls hl => ?_)
      refine x_aload_nq hx hb dX4_reset_20 rfl (lv_at hl 0 rfl) ?_
      refine x_ifnull (o := (Xdesk_registerNumbered τ i0)) (tgt := 28) hx hb dX4_reset_21 (by decide) (fun n_21 => ?_) (fun n_21x n_21 => ?_)
      · have n_21 := n_21
        refine lv_iinc (v := (i0 + 1)) (lv' := [(1, .int (i0 + 1)), (2, va_rf ((Xdesk_registerNumbered τ i0).map ad)), (0, .ref (ad 0))]) hx hb dX4_reset_28 hl (k := 2) rfl rfl (by decide) rfl (fun ls hl => ?_)
        refine lv_goto (tgt := 9) hx hb dX4_reset_31 (by decide) ?_
        exact ih (i0 + 1) τ (by rw [hI]; simp only [Xdesk_reset_L9, eq_false c_11, n_21, ↓reduceIte]) (by omega) (by omega) (by omega) H locs G ls (lv_sub hl [2, 0] rfl)
      · have n_21 := n_21
        have hl : lv_has ls 3 [(2, .ref (ad n_21x)), (0, .ref (ad 0)), (1, .int i0)] := by rw [n_21] at hl; exact hl
        refine lv_aload_n hx hb dX4_reset_24 rfl (lv_at hl 0 rfl) ?_
        refine x_callv (As := []) (rest := []) X hml G hA (xW_sh (regN_mem n_21)) rfl (c_Xsh_clear l dC dI kc ad _ τ n_21x (regN_mem n_21)) (cwV 0 hts gX4_reset_X3_clear rfl rfl rfl (by decide +kernel) ⟨Nat.le_of_ble_eq_true rfl, Nat.le_of_ble_eq_true rfl⟩) rfl hl.1 rfl (Nat.le_of_ble_eq_true rfl) dX4_reset_25 ⟨Nat.zero_le _, Nat.zero_le _⟩ (fun u_25 H locs hw_25 G => ?_)
        refine lv_iinc (v := (i0 + 1)) (lv' := [(1, .int (i0 + 1)), (2, .ref (ad n_21x)), (0, .ref (ad 0))]) hx hb dX4_reset_28 hl (k := 2) rfl rfl (by decide) rfl (fun ls hl => ?_)
        refine lv_goto (tgt := 9) hx hb dX4_reset_31 (by decide) ?_
        exact ih (i0 + 1) u_25 (by rw [hI]; simp only [Xdesk_reset_L9, eq_false c_11, n_21, hw_25, ↓reduceIte]) (by omega) (by omega) (by omega) H locs G ls (lv_sub hl [2, 0] rfl)
set_option maxHeartbeats 4000000 in
set_option maxRecDepth 100000 in
theorem c_Xdesk_reset (l : Launch) (dC : Nat → ClassId) (dI : Nat → Nat → Nat) (kc : Nat → ClassId) (ad : Nat → Nat) (sz : Nat) (σ : XS) : Met l yX4_reset wsX4_reset ({ frames := 1, cells := 0, slots := 0, locals := 21 } : Room) (va_Pc [.ref (ad 0)] (xPre dC dI kc ad sz σ)) (va_Qv (fun u => Xdesk_reset σ = u) (xAt dC dI kc ad (xA kc ad σ sz)) (xA kc ad σ sz)) 0 0 (xA kc ad σ sz) := by
  refine x_ofW (cc := cX4_reset) (maxL := 3) (ret := none) (by decide) rfl rfl (Nat.le_of_ble_eq_true rfl) ?_
  intro p e s m below meth c X G hA hr hlocks hml ls hl
  have hl : lv_has ls 3 [(0, .ref (ad 0))] := hl
  have hx := X.1
  have hb := X.2.1
  have hts := X.2.2.1
  have hown := X.2.2.2.1
  have hz := X.2.2.2.2.2
  have hin3 : ∀ w ∈ wsX30, w ∈ wsX4_reset := (fun w hw => List.mem_cons_of_mem _ (List.mem_append_right _ hw))
  have hin4 : ∀ w ∈ wsX40, w ∈ wsX4_reset := (fun w hw => List.mem_cons_of_mem _ (List.mem_append_left _ (List.mem_append_right _ hw)))
  refine lv_aload_n hx hb dX4_reset_0 rfl (lv_at hl 0 rfl) ?_
  refine x_dget_0 X G hin4 (by decide +kernel) dX4_reset_1 ?_
  refine x_callv (As := []) (rest := []) X hml G hA (xW_sh (by decide)) rfl (c_Xsh_clear l dC dI kc ad _ σ 6 (by decide)) (cwV 0 hts gX4_reset_X3_clear rfl rfl rfl (by decide +kernel) ⟨Nat.le_of_ble_eq_true rfl, Nat.le_of_ble_eq_true rfl⟩) rfl hl.1 rfl (Nat.le_of_ble_eq_true rfl) dX4_reset_4 ⟨Nat.zero_le _, Nat.zero_le _⟩ (fun u_4 H locs hw_4 G => ?_)
  refine lv_iconst (v := 0) hx hb dX4_reset_7 (by decide) ?_
  refine lv_istore_n (lv' := [(1, .int 0), (0, .ref (ad 0))]) hx hb dX4_reset_8 rfl hl (by decide) rfl (fun ls hl => ?_)
  exact c_Xdesk_reset_L9 l σ X hA hr hlocks hml 5 0 u_4 (by unfold Xdesk_reset; first | simp only [hw_4, ↓reduceIte] | rfl) (by decide) (by decide) (by decide) _ _ G ls (lv_sub hl [1, 0] rfl)
def Xdesk_needItems (σ : XS) (n0 : Int32) : (String × XS) ⊕ XS := if n0 ≤ (σ.1 6) then (.inr σ) else .inl ("java/lang/IllegalStateException", σ)
set_option maxHeartbeats 4000000 in
set_option maxRecDepth 100000 in
theorem c_Xdesk_needItems (l : Launch) (hl9 : l.stackTraces = false) (dC : Nat → ClassId) (dI : Nat → Nat → Nat) (kc : Nat → ClassId) (ad : Nat → Nat) (sz : Nat) (σ : XS) (n0 : Int32) : xq_Met l yX4_needItems wsX4_needItems ({ frames := 6, cells := 1, slots := 6, locals := 82 } : Room) (va_Pc [.ref (ad 0), .int n0] (xPre dC dI kc ad sz σ)) (va_Qv (fun u => Xdesk_needItems σ n0 = .inr u) (xAt dC dI kc ad (xA kc ad σ sz)) (xA kc ad σ sz)) (xE (Xdesk_needItems σ n0) dC dI kc ad (xA kc ad σ sz)) 0 0 1 6 (xA kc ad σ sz) := by
  refine y_ofW (cc := cX4_needItems) (maxL := 2) (ret := none) (by decide) rfl rfl (Nat.le_of_ble_eq_true rfl) ?_
  intro p e s m below meth c X G hA hr hlocks hml hEx ls hl
  have hl : lv_has ls 2 [(0, .ref (ad 0)), (1, .int n0)] := hl
  have hx := X.1
  have hb := X.2.1
  have hts := X.2.2.1
  have hown := X.2.2.2.1
  have hz := X.2.2.2.2.2
  have hin3 : ∀ w ∈ wsX30, w ∈ wsX4_needItems := (fun w hw => List.mem_cons_of_mem _ (List.mem_append_left _ (List.mem_append_right _ hw)))
  have hin4 : ∀ w ∈ wsX40, w ∈ wsX4_needItems := (fun w hw => List.mem_cons_of_mem _ (List.mem_append_left _ (List.mem_append_left _ (List.mem_append_right _ hw))))
  refine lv_aload_n hx hb dX4_needItems_0 rfl (lv_at hl 0 rfl) ?_
  refine x_dget_0 X G hin4 (by decide +kernel) dX4_needItems_1 ?_
  refine x_sget_4 X G hin3 (by decide) (by decide +kernel) dX4_needItems_4 ?_
  refine lv_iload_n hx hb dX4_needItems_7 rfl (lv_at hl 1 rfl) ?_
  refine lv_icmp_ge (tgt := 21) hx hb dX4_needItems_8 (by decide) (fun c_8 => ?_) (fun c_8 => ?_)
  · have c_8 : n0 ≤ (σ.1 6) := c_8
    exact xq_ret (x_vret X G hr hlocks (by unfold Xdesk_needItems; first | simp only [eq_true c_8, ↓reduceIte] | rfl) dX4_needItems_21)
  · have c_8 : ¬ (n0 ≤ (σ.1 6)) := c_8
    obtain ⟨sa, hstr⟩ := zstr hz (own := RX4) (k := 167) (text := "the stack has too few items") (by decide +kernel)
    exact xq_thr (vx_throwS (own := RX4) (cls := "java/lang/IllegalStateException") (text := "the stack has too few items") (names := ["java/lang/RuntimeException", "java/lang/Exception"]) hx hb hl9 hown (by decide +kernel) (by decide +kernel) (hts (.classLink RX4 165 "java/lang/IllegalStateException") (by decide +kernel)) (hts (.initialized "java/lang/IllegalStateException") (by decide +kernel)) hstr (zhat hz hts (by decide +kernel) (fun w hw => List.mem_cons_of_mem _ (List.mem_append_right _ hw)) (by decide +kernel)) (by decide +kernel) hz.2.1 hz.2.2.1 G.2.2 (hl.1.trans hml.symm) dX4_needItems_11 dX4_needItems_14 dX4_needItems_15 dX4_needItems_17 dX4_needItems_20 (fun x hx => (hEx x hx).elim) (Nat.le_of_ble_eq_true rfl) (Nat.le_of_ble_eq_true rfl) (Nat.le_of_ble_eq_true rfl) (Nat.le_of_ble_eq_true rfl) hlocks (fun t ha hsz hk => ⟨σ, trivial, ⟨(by unfold Xdesk_needItems; first | simp only [eq_false c_8, ↓reduceIte] | rfl), (y_kept X G ha hsz hk).1⟩, (y_kept X G ha hsz hk).2⟩) G.2.2.2.2 (Nat.le_of_ble_eq_true rfl) (Nat.le_of_ble_eq_true rfl))
theorem needItems_s {σ u : XS} {n0 : Int32} (h : Xdesk_needItems σ n0 = .inr u) : σ = u := by
  unfold Xdesk_needItems at h
  split at h
  · injection h
  · cases h
def Xdesk_needHeld (σ : XS) (d0 : Nat) : (String × XS) ⊕ XS := if 1 ≤ (σ.1 d0) then (.inr σ) else .inl ("java/lang/IllegalStateException", σ)
set_option maxHeartbeats 4000000 in
set_option maxRecDepth 100000 in
theorem c_Xdesk_needHeld (l : Launch) (hl9 : l.stackTraces = false) (dC : Nat → ClassId) (dI : Nat → Nat → Nat) (kc : Nat → ClassId) (ad : Nat → Nat) (sz : Nat) (σ : XS) (d0 : Nat) (h_d0 : d0 ∈ shN) : xq_Met l yX4_needHeld wsX4_needHeld ({ frames := 6, cells := 1, slots := 6, locals := 82 } : Room) (va_Pc [.ref (ad d0)] (xPre dC dI kc ad sz σ)) (va_Qv (fun u => Xdesk_needHeld σ d0 = .inr u) (xAt dC dI kc ad (xA kc ad σ sz)) (xA kc ad σ sz)) (xE (Xdesk_needHeld σ d0) dC dI kc ad (xA kc ad σ sz)) 0 0 1 6 (xA kc ad σ sz) := by
  refine y_ofW (cc := cX4_needHeld) (maxL := 1) (ret := none) (by decide) rfl rfl (Nat.le_of_ble_eq_true rfl) ?_
  intro p e s m below meth c X G hA hr hlocks hml hEx ls hl
  have hl : lv_has ls 1 [(0, .ref (ad d0))] := hl
  have hx := X.1
  have hb := X.2.1
  have hts := X.2.2.1
  have hown := X.2.2.2.1
  have hz := X.2.2.2.2.2
  have hin3 : ∀ w ∈ wsX30, w ∈ wsX4_needHeld := (fun w hw => List.mem_cons_of_mem _ (List.mem_append_left _ (List.mem_append_right _ hw)))
  refine lv_aload_n hx hb dX4_needHeld_0 rfl (lv_at hl 0 rfl) ?_
  refine x_sget_4 X G hin3 h_d0 (by decide +kernel) dX4_needHeld_1 ?_
  refine lv_iconst (v := 1) hx hb dX4_needHeld_4 (by decide) ?_
  refine lv_icmp_ge (tgt := 18) hx hb dX4_needHeld_5 (by decide) (fun c_5 => ?_) (fun c_5 => ?_)
  · have c_5 : 1 ≤ (σ.1 d0) := c_5
    exact xq_ret (x_vret X G hr hlocks (by unfold Xdesk_needHeld; first | simp only [eq_true c_5, ↓reduceIte] | rfl) dX4_needHeld_18)
  · have c_5 : ¬ (1 ≤ (σ.1 d0)) := c_5
    obtain ⟨sa, hstr⟩ := zstr hz (own := RX4) (k := 240) (text := "the register has no item") (by decide +kernel)
    exact xq_thr (vx_throwS (own := RX4) (cls := "java/lang/IllegalStateException") (text := "the register has no item") (names := ["java/lang/RuntimeException", "java/lang/Exception"]) hx hb hl9 hown (by decide +kernel) (by decide +kernel) (hts (.classLink RX4 165 "java/lang/IllegalStateException") (by decide +kernel)) (hts (.initialized "java/lang/IllegalStateException") (by decide +kernel)) hstr (zhat hz hts (by decide +kernel) (fun w hw => List.mem_cons_of_mem _ (List.mem_append_right _ hw)) (by decide +kernel)) (by decide +kernel) hz.2.1 hz.2.2.1 G.2.2 (hl.1.trans hml.symm) dX4_needHeld_8 dX4_needHeld_11 dX4_needHeld_12 dX4_needHeld_14 dX4_needHeld_17 (fun x hx => (hEx x hx).elim) (Nat.le_of_ble_eq_true rfl) (Nat.le_of_ble_eq_true rfl) (Nat.le_of_ble_eq_true rfl) (Nat.le_of_ble_eq_true rfl) hlocks (fun t ha hsz hk => ⟨σ, trivial, ⟨(by unfold Xdesk_needHeld; first | simp only [eq_false c_5, ↓reduceIte] | rfl), (y_kept X G ha hsz hk).1⟩, (y_kept X G ha hsz hk).2⟩) G.2.2.2.2 (Nat.le_of_ble_eq_true rfl) (Nat.le_of_ble_eq_true rfl))
theorem needHeld_s {σ u : XS} {d0 : Nat} (h : Xdesk_needHeld σ d0 = .inr u) : σ = u := by
  unfold Xdesk_needHeld at h
  split at h
  · injection h
  · cases h
def Xdesk_needNumbers_L7 (n0 : Int32) : Nat → Int32 → XS → (String × XS) ⊕ XS
  | 0, _, τ => .inr τ
  | f + 1, i0, τ => if n0 ≤ i0 then (.inr τ) else (match (Xsh_rowAt τ 6 (Xsh_slotBelowTop τ 6 i0)) with | none => Xdesk_needNumbers_L7 n0 f (i0 + 1) τ | some n27 => .inl ("java/lang/IndexOutOfBoundsException", τ))
def Xdesk_needNumbers (σ : XS) (n0 : Int32) : (String × XS) ⊕ XS := (match Xdesk_needItems σ n0 with | .inl e9 => .inl e9 | .inr u2 => Xdesk_needNumbers_L7 n0 (3) 0 σ)
set_option maxHeartbeats 4000000 in
set_option maxRecDepth 100000 in
theorem c_Xdesk_needNumbers_L7 {p : Program} (l : Launch) (hl9 : l.stackTraces = false) {e : Env} {s : State} {m : MethodId} {below : List Frame} {meth : Method} {c : Code} {dC : Nat → ClassId} {dI : Nat → Nat → Nat} {kc : Nat → ClassId} {ad : Nat → Nat} {sz : Nat} (σ : XS) (n0 : Int32) (hn0 : 0 ≤ n0.toInt) (hn1 : n0.toInt ≤ 2) (X : xX p s m ([.ref (ad 0), .int n0] : List Value).toArray c cX4_needNumbers wsX4_needNumbers dC dI kc RX4 (xA kc ad σ sz)) (hA : ∀ q : Nat, s.heap.size ≤ q → xA kc ad σ sz q) (hr : meth.sig.returnType = none) (hlocks : meth.locks = false) (hml : c.maxLocals = 3) (hEx : ∀ x ∈ c.exceptionTable.toList, False) :
    ∀ (fu : Nat) (i0 : Int32) (τ : XS), Xdesk_needNumbers σ n0 = Xdesk_needNumbers_L7 n0 fu i0 τ → (0 ≤ i0.toInt) → (i0.toInt ≤ n0.toInt) → (3 ≤ i0.toInt + (fu : Int)) → ∀ (H : Heap) (locs : List Loc), xH dC dI kc ad τ (xA kc ad σ sz) s.heap H locs → ∀ ls : Array Slot, lv_has ls 3 [(0, .ref (ad 0)), (1, .int n0), (2, .int i0)] → W p l e ({ frames := 7, cells := 1, slots := 6, locals := 103 } : Room) s m ([.ref (ad 0), .int n0] : List Value).toArray below meth c H locs 0 0 (xq_MQ below (va_Qv (fun u => Xdesk_needNumbers σ n0 = .inr u) (xAt dC dI kc ad (xA kc ad σ sz)) (xA kc ad σ sz)) (xE (Xdesk_needNumbers σ n0) dC dI kc ad (xA kc ad σ sz)) ([.ref (ad 0), .int n0] : List Value).toArray s 0 0 1 6 (xA kc ad σ sz)) (F0 m 7 ls []) := by
  have hx := X.1
  have hb := X.2.1
  have hts := X.2.2.1
  have hown := X.2.2.2.1
  have hz := X.2.2.2.2.2
  have hin3 : ∀ w ∈ wsX30, w ∈ wsX4_needNumbers := (fun w hw => List.mem_cons_of_mem _ (List.mem_append_left _ (List.mem_append_left _ (List.mem_append_right _ hw))))
  have hin4 : ∀ w ∈ wsX40, w ∈ wsX4_needNumbers := (fun w hw => List.mem_cons_of_mem _ (List.mem_append_left _ (List.mem_append_left _ (List.mem_append_left _ (List.mem_append_right _ hw)))))
  intro fu
  induction fu with
  | zero =>
    intro i0 τ hI hi0 hi1 hi2
    exact absurd hi2 (by omega)
  | succ fu ih =>
    intro i0 τ hI hi0 hi1 hi2 H locs G ls hl
    refine lv_iload_n hx hb dX4_needNumbers_7 rfl (lv_at hl 2 rfl) ?_
    refine lv_iload_n hx hb dX4_needNumbers_8 rfl (lv_at hl 1 rfl) ?_
    refine lv_icmp_ge (tgt := 46) hx hb dX4_needNumbers_9 (by decide) (fun c_9 => ?_) (fun c_9 => ?_)
    · have c_9 : n0 ≤ i0 := c_9
      exact xq_ret (x_vret X G hr hlocks (by rw [hI]; simp only [Xdesk_needNumbers_L7, eq_true c_9, ↓reduceIte]) dX4_needNumbers_46)
    · have c_9 : ¬ (n0 ≤ i0) := c_9
      have k_9 : i0.toInt < n0.toInt := by have h9 := c_9; rw [Int32.not_le, Int32.lt_iff_toInt_lt] at h9; exact h9
      have e_9 : (i0 + 1).toInt = i0.toInt + 1 := i_addE rfl (show (1 : Int32).toInt = 1 from rfl) (by omega) (by omega)
      refine lv_aload_n hx hb dX4_needNumbers_12 rfl (lv_at hl 0 rfl) ?_
      refine x_dget_0 X G hin4 (by decide +kernel) dX4_needNumbers_13 ?_
      refine lv_aload_n hx hb dX4_needNumbers_16 rfl (lv_at hl 0 rfl) ?_
      refine x_dget_0 X G hin4 (by decide +kernel) dX4_needNumbers_17 ?_
      refine lv_iload_n hx hb dX4_needNumbers_20 rfl (lv_at hl 2 rfl) ?_
      refine x_calli (As := [.int i0]) (rest := [.ref (ad 6)]) X hml G hA (xW_sh (by decide)) rfl (c_Xsh_slotBelowTop l dC dI kc ad _ τ 6 i0 (by decide)) (cwV 1 hts gX4_needNumbers_X3_slotBelowTop rfl rfl rfl (by decide +kernel) ⟨Nat.le_of_ble_eq_true rfl, Nat.le_of_ble_eq_true rfl⟩) rfl hl.1 rfl (Nat.le_of_ble_eq_true rfl) dX4_needNumbers_21 ⟨Nat.zero_le _, Nat.zero_le _⟩ (fun r_21 u_21 H locs hw_21 G => ?_)
      obtain ⟨rfl, hu_21⟩ := hw_21
      rw [hu_21] at G
      refine x_callq (As := [.int (Xsh_slotBelowTop τ 6 i0)]) (rest := []) X hml G hA (xW_sh (by decide)) rfl (c_Xsh_rowAt l dC dI kc ad _ τ 6 (Xsh_slotBelowTop τ 6 i0) (by decide)) (cwV 1 hts gX4_needNumbers_X3_rowAt rfl rfl rfl (by decide +kernel) ⟨Nat.le_of_ble_eq_true rfl, Nat.le_of_ble_eq_true rfl⟩) rfl hl.1 rfl (Nat.le_of_ble_eq_true rfl) dX4_needNumbers_24 ⟨Nat.zero_le _, Nat.zero_le _⟩ (fun r_24 u_24 H locs hw_24 G => ?_)
      obtain ⟨_, rfl, rfl, hu_24⟩ := hw_24
      rw [hu_24] at G
      refine x_ifnull (o := (Xsh_rowAt τ 6 (Xsh_slotBelowTop τ 6 i0))) (tgt := 40) hx hb dX4_needNumbers_27 (by decide) (fun n_27 => ?_) (fun n_27x n_27 => ?_)
      · have n_27 := n_27
        refine lv_iinc (v := (i0 + 1)) (lv' := [(2, .int (i0 + 1)), (0, .ref (ad 0)), (1, .int n0)]) hx hb dX4_needNumbers_40 hl (k := 2) rfl rfl (by decide) rfl (fun ls hl => ?_)
        refine lv_goto (tgt := 7) hx hb dX4_needNumbers_43 (by decide) ?_
        exact ih (i0 + 1) τ (by rw [hI]; simp only [Xdesk_needNumbers_L7, eq_false c_9, n_27, ↓reduceIte]) (by omega) (by omega) (by omega) H locs G ls (lv_sub hl [1, 2, 0] rfl)
      · have n_27 := n_27
        obtain ⟨sa, hstr⟩ := zstr hz (own := RX4) (k := 179) (text := "a number is wanted and the item is a text") (by decide +kernel)
        exact xq_thr (vx_throwS (own := RX4) (cls := "java/lang/IndexOutOfBoundsException") (text := "a number is wanted and the item is a text") (names := ["java/lang/RuntimeException", "java/lang/Exception"]) hx hb hl9 hown (by decide +kernel) (by decide +kernel) (hts (.classLink RX4 177 "java/lang/IndexOutOfBoundsException") (by decide +kernel)) (hts (.initialized "java/lang/IndexOutOfBoundsException") (by decide +kernel)) hstr (zhat hz hts (by decide +kernel) (fun w hw => List.mem_cons_of_mem _ (List.mem_append_left _ (List.mem_append_right _ hw))) (by decide +kernel)) (by decide +kernel) hz.2.1 hz.2.2.1 G.2.2 (hl.1.trans hml.symm) dX4_needNumbers_30 dX4_needNumbers_33 dX4_needNumbers_34 dX4_needNumbers_36 dX4_needNumbers_39 (fun x hx => (hEx x hx).elim) (Nat.le_of_ble_eq_true rfl) (Nat.le_of_ble_eq_true rfl) (Nat.le_of_ble_eq_true rfl) (Nat.le_of_ble_eq_true rfl) hlocks (fun t ha hsz hk => ⟨τ, trivial, ⟨(by rw [hI]; simp only [Xdesk_needNumbers_L7, eq_false c_9, n_27, ↓reduceIte]), (y_kept X G ha hsz hk).1⟩, (y_kept X G ha hsz hk).2⟩) G.2.2.2.2 (Nat.le_of_ble_eq_true rfl) (Nat.le_of_ble_eq_true rfl))
set_option maxHeartbeats 4000000 in
set_option maxRecDepth 100000 in
theorem c_Xdesk_needNumbers (l : Launch) (hl9 : l.stackTraces = false) (dC : Nat → ClassId) (dI : Nat → Nat → Nat) (kc : Nat → ClassId) (ad : Nat → Nat) (sz : Nat) (σ : XS) (n0 : Int32) (hn0 : 0 ≤ n0.toInt) (hn1 : n0.toInt ≤ 2) : xq_Met l yX4_needNumbers wsX4_needNumbers ({ frames := 7, cells := 1, slots := 6, locals := 103 } : Room) (va_Pc [.ref (ad 0), .int n0] (xPre dC dI kc ad sz σ)) (va_Qv (fun u => Xdesk_needNumbers σ n0 = .inr u) (xAt dC dI kc ad (xA kc ad σ sz)) (xA kc ad σ sz)) (xE (Xdesk_needNumbers σ n0) dC dI kc ad (xA kc ad σ sz)) 0 0 1 6 (xA kc ad σ sz) := by
  refine y_ofW (cc := cX4_needNumbers) (maxL := 3) (ret := none) (by decide) rfl rfl (Nat.le_of_ble_eq_true rfl) ?_
  intro p e s m below meth c X G hA hr hlocks hml hEx ls hl
  have hl : lv_has ls 3 [(0, .ref (ad 0)), (1, .int n0)] := hl
  have hx := X.1
  have hb := X.2.1
  have hts := X.2.2.1
  have hown := X.2.2.2.1
  have hz := X.2.2.2.2.2
  have hin3 : ∀ w ∈ wsX30, w ∈ wsX4_needNumbers := (fun w hw => List.mem_cons_of_mem _ (List.mem_append_left _ (List.mem_append_left _ (List.mem_append_right _ hw))))
  have hin4 : ∀ w ∈ wsX40, w ∈ wsX4_needNumbers := (fun w hw => List.mem_cons_of_mem _ (List.mem_append_left _ (List.mem_append_left _ (List.mem_append_left _ (List.mem_append_right _ hw)))))
  refine lv_aload_n hx hb dX4_needNumbers_0 rfl (lv_at hl 0 rfl) ?_
  refine lv_iload_n hx hb dX4_needNumbers_1 rfl (lv_at hl 1 rfl) ?_
  refine y_callv (As := [.int n0]) (rest := []) X hml G hA hEx hlocks xW_desk rfl (c_Xdesk_needItems l hl9 dC dI kc ad _ σ n0) (cwV 1 hts gX4_needNumbers_X4_needItems rfl rfl rfl (by decide +kernel) ⟨Nat.le_of_ble_eq_true rfl, Nat.le_of_ble_eq_true rfl⟩) rfl hl.1 rfl (Nat.le_of_ble_eq_true rfl) dX4_needNumbers_2 ⟨Nat.le_of_ble_eq_true rfl, Nat.le_of_ble_eq_true rfl⟩ (fun E u9 hw_2 => (by unfold Xdesk_needNumbers; first | simp only [hw_2, ↓reduceIte] | rfl)) (fun u_2 H locs hw_2 G => ?_)
  have hs_2 := needItems_s hw_2
  subst hs_2
  refine lv_iconst (v := 0) hx hb dX4_needNumbers_5 (by decide) ?_
  refine lv_istore_n (lv' := [(2, .int 0), (0, .ref (ad 0)), (1, .int n0)]) hx hb dX4_needNumbers_6 rfl hl (by decide) rfl (fun ls hl => ?_)
  exact c_Xdesk_needNumbers_L7 l hl9 σ n0 hn0 hn1 X hA hr hlocks hml hEx 3 0 σ (by unfold Xdesk_needNumbers; first | simp only [hw_2, ↓reduceIte] | rfl) (by decide) (show (0 : Int32).toInt ≤ n0.toInt from hn0) (by decide) _ _ G ls (lv_sub hl [1, 2, 0] rfl)
theorem needNumbersL_s {n0 : Int32} : ∀ (fu : Nat) (i0 : Int32) (τ u : XS), Xdesk_needNumbers_L7 n0 fu i0 τ = .inr u → τ = u := by
  intro fu
  induction fu with
  | zero => intro i0 τ u h; simp only [Xdesk_needNumbers_L7] at h; injection h
  | succ fu ih =>
    intro i0 τ u h
    simp only [Xdesk_needNumbers_L7] at h
    split at h
    · injection h
    · split at h
      · exact ih _ _ _ h
      · cases h
theorem needNumbers_s {σ u : XS} {n0 : Int32} (h : Xdesk_needNumbers σ n0 = .inr u) : σ = u := by
  unfold Xdesk_needNumbers at h
  split at h
  · cases h
  · rename_i h9
    exact needNumbersL_s _ _ _ _ h
def Xdesk_registerOfLetter (σ : XS) : (String × XS) ⊕ (Option Nat × XS) := (match (Xdesk_registerNumbered σ ((Xnest_look σ) - 97)) with | none => .inl ("java/lang/IllegalArgumentException", σ) | some n16 => let q_33 := Xnest_pass σ; .inr (((some n16)), q_33))
set_option maxHeartbeats 4000000 in
set_option maxRecDepth 100000 in
theorem c_Xdesk_registerOfLetter (l : Launch) (hl9 : l.stackTraces = false) (dC : Nat → ClassId) (dI : Nat → Nat → Nat) (kc : Nat → ClassId) (ad : Nat → Nat) (sz : Nat) (σ : XS) (hrv : xWF σ) : xq_Met l yX4_registerOfLetter wsX4_registerOfLetter ({ frames := 6, cells := 1, slots := 6, locals := 82 } : Room) (va_Pc [.ref (ad 0)] (xPre dC dI kc ad sz σ)) (va_Qq (fun r u => ∃ o : Option Nat, r = o.map ad ∧ Xdesk_registerOfLetter σ = .inr (o, u)) (xAt dC dI kc ad (xA kc ad σ sz)) (xA kc ad σ sz)) (xE (Xdesk_registerOfLetter σ) dC dI kc ad (xA kc ad σ sz)) 0 0 1 6 (xA kc ad σ sz) := by
  refine y_ofW (cc := cX4_registerOfLetter) (maxL := 2) (ret := (some (.object "DeskStack$Shelf"))) (by decide) rfl rfl (Nat.le_of_ble_eq_true rfl) ?_
  intro p e s m below meth c X G hA hr hlocks hml hEx ls hl
  have hl : lv_has ls 2 [(0, .ref (ad 0))] := hl
  have hx := X.1
  have hb := X.2.1
  have hts := X.2.2.1
  have hown := X.2.2.2.1
  have hz := X.2.2.2.2.2
  have hin2 : ∀ w ∈ wsX20, w ∈ wsX4_registerOfLetter := (fun w hw => List.mem_cons_of_mem _ (List.mem_append_left _ (List.mem_append_right _ hw)))
  have hin1 : ∀ w ∈ wsX10, w ∈ wsX4_registerOfLetter := (fun w hw => List.mem_cons_of_mem _ (List.mem_append_left _ (List.mem_append_left _ (List.mem_append_right _ hw))))
  have hin4 : ∀ w ∈ wsX40, w ∈ wsX4_registerOfLetter := (fun w hw => List.mem_cons_of_mem _ (List.mem_append_left _ (List.mem_append_left _ (List.mem_append_left _ (List.mem_append_right _ hw)))))
  refine lv_aload_n hx hb dX4_registerOfLetter_0 rfl (lv_at hl 0 rfl) ?_
  refine lv_aload_n hx hb dX4_registerOfLetter_1 rfl (lv_at hl 0 rfl) ?_
  refine x_dget_3 X G hin4 (by decide +kernel) dX4_registerOfLetter_2 ?_
  refine x_calli (As := []) (rest := [.ref (ad 0)]) X hml G hA xW_nest rfl (c_Xnest_look l dC dI kc ad _ σ hrv) (cwV 0 hts gX4_registerOfLetter_X1_look rfl rfl rfl (by decide +kernel) ⟨Nat.le_of_ble_eq_true rfl, Nat.le_of_ble_eq_true rfl⟩) rfl hl.1 rfl (Nat.le_of_ble_eq_true rfl) dX4_registerOfLetter_5 ⟨Nat.zero_le _, Nat.zero_le _⟩ (fun r_5 u_5 H locs hw_5 G => ?_)
  obtain ⟨rfl, hu_5⟩ := hw_5
  rw [hu_5] at G
  refine lv_bipush (v := 97) hx hb dX4_registerOfLetter_8 (by decide) ?_
  refine lv_isub hx hb dX4_registerOfLetter_10 ?_
  refine x_callq (As := [.int ((Xnest_look σ) - 97)]) (rest := []) X hml G hA xW_desk rfl (c_Xdesk_registerNumbered l dC dI kc ad _ σ ((Xnest_look σ) - 97)) (cwV 1 hts gX4_registerOfLetter_X4_registerNumbered rfl rfl rfl (by decide +kernel) ⟨Nat.le_of_ble_eq_true rfl, Nat.le_of_ble_eq_true rfl⟩) rfl hl.1 rfl (Nat.le_of_ble_eq_true rfl) dX4_registerOfLetter_11 ⟨Nat.zero_le _, Nat.zero_le _⟩ (fun r_11 u_11 H locs hw_11 G => ?_)
  obtain ⟨_, rfl, rfl, hu_11⟩ := hw_11
  rw [hu_11] at G
  refine x_astore_nq (lv' := [(1, va_rf ((Xdesk_registerNumbered σ ((Xnest_look σ) - 97)).map ad)), (0, .ref (ad 0))]) hx hb dX4_registerOfLetter_14 rfl hl (by decide) rfl (fun ls hl => ?_)
  refine x_aload_nq hx hb dX4_registerOfLetter_15 rfl (lv_at hl 0 rfl) ?_
  refine x_ifnonnull (o := (Xdesk_registerNumbered σ ((Xnest_look σ) - 97))) (tgt := 29) hx hb dX4_registerOfLetter_16 (by decide) (fun n_16x n_16 => ?_) (fun n_16 => ?_)
  · have n_16 := n_16
    have hl : lv_has ls 2 [(1, .ref (ad n_16x)), (0, .ref (ad 0))] := by rw [n_16] at hl; exact hl
    refine lv_aload_n hx hb dX4_registerOfLetter_29 rfl (lv_at hl 1 rfl) ?_
    refine x_dget_3 X G hin4 (by decide +kernel) dX4_registerOfLetter_30 ?_
    refine x_callv (As := []) (rest := []) X hml G hA xW_nest rfl (c_Xnest_pass l dC dI kc ad _ σ) (cwV 0 hts gX4_registerOfLetter_X1_pass rfl rfl rfl (by decide +kernel) ⟨Nat.le_of_ble_eq_true rfl, Nat.le_of_ble_eq_true rfl⟩) rfl hl.1 rfl (Nat.le_of_ble_eq_true rfl) dX4_registerOfLetter_33 ⟨Nat.zero_le _, Nat.zero_le _⟩ (fun u_33 H locs hw_33 G => ?_)
    have hv_33 : xWF u_33 := by have h9 : xWF (Xnest_pass σ) := pass_wf hrv; rw [hw_33] at h9; exact h9
    refine lv_aload_n hx hb dX4_registerOfLetter_36 rfl (lv_at hl 0 rfl) ?_
    exact xq_ret (x_qret (o := ((some n_16x)).map ad) X G hr hlocks ⟨((some n_16x)), rfl, (by unfold Xdesk_registerOfLetter; first | simp only [n_16, hw_33, ↓reduceIte] | rfl)⟩ dX4_registerOfLetter_37)
  · have n_16 := n_16
    obtain ⟨sa, hstr⟩ := zstr hz (own := RX4) (k := 238) (text := "a letter a to d is wanted and is not there") (by decide +kernel)
    exact xq_thr (vx_throwS (own := RX4) (cls := "java/lang/IllegalArgumentException") (text := "a letter a to d is wanted and is not there") (names := ["java/lang/RuntimeException", "java/lang/Exception"]) hx hb hl9 hown (by decide +kernel) (by decide +kernel) (hts (.classLink RX4 56 "java/lang/IllegalArgumentException") (by decide +kernel)) (hts (.initialized "java/lang/IllegalArgumentException") (by decide +kernel)) hstr (zhat hz hts (by decide +kernel) (fun w hw => List.mem_cons_of_mem _ (List.mem_append_right _ hw)) (by decide +kernel)) (by decide +kernel) hz.2.1 hz.2.2.1 G.2.2 (hl.1.trans hml.symm) dX4_registerOfLetter_19 dX4_registerOfLetter_22 dX4_registerOfLetter_23 dX4_registerOfLetter_25 dX4_registerOfLetter_28 (fun x hx => (hEx x hx).elim) (Nat.le_of_ble_eq_true rfl) (Nat.le_of_ble_eq_true rfl) (Nat.le_of_ble_eq_true rfl) (Nat.le_of_ble_eq_true rfl) hlocks (fun t ha hsz hk => ⟨σ, trivial, ⟨(by unfold Xdesk_registerOfLetter; first | simp only [n_16, ↓reduceIte] | rfl), (y_kept X G ha hsz hk).1⟩, (y_kept X G ha hsz hk).2⟩) G.2.2.2.2 (Nat.le_of_ble_eq_true rfl) (Nat.le_of_ble_eq_true rfl))
theorem regOf_some {σ u : XS} {r : Option Nat} (h : Xdesk_registerOfLetter σ = .inr (r, u)) : ∃ c, r = some c ∧ c ∈ shN := by
  unfold Xdesk_registerOfLetter at h
  split at h
  · cases h
  · rename_i n h9
    injection h with h
    injection h with h1 h2
    exact ⟨n, h1.symm, regN_mem h9⟩
theorem regOf_wf {σ u : XS} {r : Option Nat} (hv : xWF σ) (h : Xdesk_registerOfLetter σ = .inr (r, u)) : xWF u := by
  unfold Xdesk_registerOfLetter at h
  split at h
  · cases h
  · injection h with h
    injection h with h1 h2
    rw [← h2]; exact pass_wf hv
def Xdesk_moveToOrFromRegister (σ : XS) (k0 : Int32) : (String × XS) ⊕ XS := (match Xdesk_registerOfLetter σ with | .inl e9 => .inl e9 | .inr (r1, u1) => if k0 = 115 then ((match Xdesk_needItems u1 1 with | .inl e9 => .inl e9 | .inr u13 => let q_18 := Xsh_drop u1 (r1.getD 0) 1; (match Xsh_putTopOf q_18 (r1.getD 0) 6 with | .inl e9 => .inl e9 | .inr u26 => let q_34 := Xsh_drop u26 6 1; .inr q_34))) else if k0 = 83 then ((match Xdesk_needItems u1 1 with | .inl e9 => .inl e9 | .inr u48 => (match Xsh_putTopOf u1 (r1.getD 0) 6 with | .inl e9 => .inl e9 | .inr u56 => let q_64 := Xsh_drop u56 6 1; .inr q_64))) else (match Xdesk_needHeld u1 (r1.getD 0) with | .inl e9 => .inl e9 | .inr u71 => (match Xsh_putTopOf u1 6 (r1.getD 0) with | .inl e9 => .inl e9 | .inr u79 => if k0 = 76 then (let q_94 := Xsh_drop u79 (r1.getD 0) 1; .inr q_94) else let q_94 := Xsh_drop u79 (r1.getD 0) 0; .inr q_94)))
set_option maxHeartbeats 4000000 in
set_option maxRecDepth 100000 in
theorem c_Xdesk_moveToOrFromRegister (l : Launch) (hl9 : l.stackTraces = false) (dC : Nat → ClassId) (dI : Nat → Nat → Nat) (kc : Nat → ClassId) (ad : Nat → Nat) (sz : Nat) (σ : XS) (k0 : Int32) (hrv : xWF σ) : xq_Met l yX4_moveToOrFromRegister wsX4_moveToOrFromRegister ({ frames := 8, cells := 1, slots := 6, locals := 129 } : Room) (va_Pc [.ref (ad 0), .int k0] (xPre dC dI kc ad sz σ)) (va_Qv (fun u => Xdesk_moveToOrFromRegister σ k0 = .inr u) (xAt dC dI kc ad (xA kc ad σ sz)) (xA kc ad σ sz)) (xE (Xdesk_moveToOrFromRegister σ k0) dC dI kc ad (xA kc ad σ sz)) 0 0 1 6 (xA kc ad σ sz) := by
  refine y_ofW (cc := cX4_moveToOrFromRegister) (maxL := 3) (ret := none) (by decide) rfl rfl (Nat.le_of_ble_eq_true rfl) ?_
  intro p e s m below meth c X G hA hr hlocks hml hEx ls hl
  have hl : lv_has ls 3 [(0, .ref (ad 0)), (1, .int k0)] := hl
  have hx := X.1
  have hb := X.2.1
  have hts := X.2.2.1
  have hown := X.2.2.2.1
  have hz := X.2.2.2.2.2
  have hin3 : ∀ w ∈ wsX30, w ∈ wsX4_moveToOrFromRegister := (fun w hw => List.mem_cons_of_mem _ (List.mem_append_left _ (List.mem_append_left _ (List.mem_append_left _ (List.mem_append_right _ hw)))))
  have hin2 : ∀ w ∈ wsX20, w ∈ wsX4_moveToOrFromRegister := (fun w hw => List.mem_cons_of_mem _ (List.mem_append_left _ (List.mem_append_left _ (List.mem_append_left _ (List.mem_append_left _ (List.mem_append_right _ hw))))))
  have hin1 : ∀ w ∈ wsX10, w ∈ wsX4_moveToOrFromRegister := (fun w hw => List.mem_cons_of_mem _ (List.mem_append_left _ (List.mem_append_left _ (List.mem_append_left _ (List.mem_append_left _ (List.mem_append_left _ (List.mem_append_right _ hw)))))))
  have hin4 : ∀ w ∈ wsX40, w ∈ wsX4_moveToOrFromRegister := (fun w hw => List.mem_cons_of_mem _ (List.mem_append_left _ (List.mem_append_left _ (List.mem_append_left _ (List.mem_append_left _ (List.mem_append_left _ (List.mem_append_left _ (List.mem_append_right _ hw))))))))
  refine lv_aload_n hx hb dX4_moveToOrFromRegister_0 rfl (lv_at hl 0 rfl) ?_
  refine y_callq (As := []) (rest := []) X hml G hA hEx hlocks xW_desk rfl (c_Xdesk_registerOfLetter l hl9 dC dI kc ad _ σ hrv) (cwV 0 hts gX4_moveToOrFromRegister_X4_registerOfLetter rfl rfl rfl (by decide +kernel) ⟨Nat.le_of_ble_eq_true rfl, Nat.le_of_ble_eq_true rfl⟩) rfl hl.1 rfl (Nat.le_of_ble_eq_true rfl) dX4_moveToOrFromRegister_1 ⟨Nat.le_of_ble_eq_true rfl, Nat.le_of_ble_eq_true rfl⟩ (fun E u9 hw_1 => (by unfold Xdesk_moveToOrFromRegister; first | simp only [Option.getD_some, hw_1, ↓reduceIte] | rfl)) (fun r_1 u_1 H locs hw_1 G => ?_)
  have hv_1 : xWF u_1 := regOf_wf hrv hw_1
  obtain ⟨c_1x, rfl, hc_1⟩ := regOf_some hw_1
  refine W.eq (g2 := F0 m 4 ls [.ref (ad c_1x)]) rfl ?_
  refine lv_astore_n (lv' := [(2, .ref (ad c_1x)), (0, .ref (ad 0)), (1, .int k0)]) hx hb dX4_moveToOrFromRegister_4 rfl hl (by decide) rfl (fun ls hl => ?_)
  refine lv_iload_n hx hb dX4_moveToOrFromRegister_5 rfl (lv_at hl 2 rfl) ?_
  refine lv_bipush (v := 115) hx hb dX4_moveToOrFromRegister_6 (by decide) ?_
  refine lv_icmp_ne (tgt := 40) hx hb dX4_moveToOrFromRegister_8 (by decide) (fun c_8 => ?_) (fun c_8 => ?_)
  · have c_8 : ¬ (k0 = 115) := c_8
    refine lv_iload_n hx hb dX4_moveToOrFromRegister_40 rfl (lv_at hl 2 rfl) ?_
    refine lv_bipush (v := 83) hx hb dX4_moveToOrFromRegister_41 (by decide) ?_
    refine lv_icmp_ne (tgt := 70) hx hb dX4_moveToOrFromRegister_43 (by decide) (fun c_43 => ?_) (fun c_43 => ?_)
    · have c_43 : ¬ (k0 = 83) := c_43
      refine lv_aload_n hx hb dX4_moveToOrFromRegister_70 rfl (lv_at hl 0 rfl) ?_
      refine y_callSv (As := [.ref (ad c_1x)]) (rest := []) X hml G hA hEx hlocks (c_Xdesk_needHeld l hl9 dC dI kc ad _ u_1 c_1x hc_1) (va_cwS 1 hts gX4_moveToOrFromRegister_X4_needHeld rfl rfl rfl (by decide +kernel) ⟨Nat.le_of_ble_eq_true rfl, Nat.le_of_ble_eq_true rfl⟩) rfl hl.1 rfl (Nat.le_of_ble_eq_true rfl) dX4_moveToOrFromRegister_71 ⟨Nat.le_of_ble_eq_true rfl, Nat.le_of_ble_eq_true rfl⟩ (fun E u9 hw_71 => (by unfold Xdesk_moveToOrFromRegister; first | simp only [Option.getD_some, hw_1, eq_false c_8, eq_false c_43, hw_71, ↓reduceIte] | rfl)) (fun u_71 H locs hw_71 G => ?_)
      have hs_71 := needHeld_s hw_71
      subst hs_71
      refine lv_aload_n hx hb dX4_moveToOrFromRegister_74 rfl (lv_at hl 1 rfl) ?_
      refine x_dget_0 X G hin4 (by decide +kernel) dX4_moveToOrFromRegister_75 ?_
      refine lv_aload_n hx hb dX4_moveToOrFromRegister_78 rfl (lv_at hl 0 rfl) ?_
      refine y_callv (As := [.ref (ad c_1x)]) (rest := []) X hml G hA hEx hlocks (xW_sh (by decide)) rfl (c_Xsh_putTopOf l hl9 dC dI kc ad _ u_1 6 c_1x (by decide) hc_1 hv_1) (cwV 1 hts gX4_moveToOrFromRegister_X3_putTopOf rfl rfl rfl (by decide +kernel) ⟨Nat.le_of_ble_eq_true rfl, Nat.le_of_ble_eq_true rfl⟩) rfl hl.1 rfl (Nat.le_of_ble_eq_true rfl) dX4_moveToOrFromRegister_79 ⟨Nat.le_of_ble_eq_true rfl, Nat.le_of_ble_eq_true rfl⟩ (fun E u9 hw_79 => (by unfold Xdesk_moveToOrFromRegister; first | simp only [Option.getD_some, hw_1, eq_false c_8, eq_false c_43, hw_71, hw_79, ↓reduceIte] | rfl)) (fun u_79 H locs hw_79 G => ?_)
      have hv_79 : xWF u_79 := putTopOf_wf hv_1 hw_79
      refine lv_aload_n hx hb dX4_moveToOrFromRegister_82 rfl (lv_at hl 0 rfl) ?_
      refine lv_iload_n hx hb dX4_moveToOrFromRegister_83 rfl (lv_at hl 2 rfl) ?_
      refine lv_bipush (v := 76) hx hb dX4_moveToOrFromRegister_84 (by decide) ?_
      refine lv_icmp_ne (tgt := 93) hx hb dX4_moveToOrFromRegister_86 (by decide) (fun c_86 => ?_) (fun c_86 => ?_)
      · have c_86 : ¬ (k0 = 76) := c_86
        refine lv_iconst (v := 0) hx hb dX4_moveToOrFromRegister_93 (by decide) ?_
        refine x_callv (As := [.int 0]) (rest := []) X hml G hA (xW_sh hc_1) rfl (c_Xsh_drop l dC dI kc ad _ u_79 c_1x 0 hc_1) (cwV 1 hts gX4_moveToOrFromRegister_X3_drop rfl rfl rfl (by decide +kernel) ⟨Nat.le_of_ble_eq_true rfl, Nat.le_of_ble_eq_true rfl⟩) rfl hl.1 rfl (Nat.le_of_ble_eq_true rfl) dX4_moveToOrFromRegister_94 ⟨Nat.zero_le _, Nat.zero_le _⟩ (fun u_94 H locs hw_94 G => ?_)
        have hv_94 : xWF u_94 := by have h9 : xWF (Xsh_drop u_79 c_1x 0) := drop_wf hv_79; rw [hw_94] at h9; exact h9
        exact xq_ret (x_vret X G hr hlocks (by unfold Xdesk_moveToOrFromRegister; first | simp only [Option.getD_some, hw_1, eq_false c_8, eq_false c_43, hw_71, hw_79, eq_false c_86, hw_94, ↓reduceIte] | rfl) dX4_moveToOrFromRegister_97)
      · have c_86 : k0 = 76 := c_86
        refine lv_iconst (v := 1) hx hb dX4_moveToOrFromRegister_89 (by decide) ?_
        refine lv_goto (tgt := 94) hx hb dX4_moveToOrFromRegister_90 (by decide) ?_
        refine x_callv (As := [.int 1]) (rest := []) X hml G hA (xW_sh hc_1) rfl (c_Xsh_drop l dC dI kc ad _ u_79 c_1x 1 hc_1) (cwV 1 hts gX4_moveToOrFromRegister_X3_drop rfl rfl rfl (by decide +kernel) ⟨Nat.le_of_ble_eq_true rfl, Nat.le_of_ble_eq_true rfl⟩) rfl hl.1 rfl (Nat.le_of_ble_eq_true rfl) dX4_moveToOrFromRegister_94 ⟨Nat.zero_le _, Nat.zero_le _⟩ (fun u_94 H locs hw_94 G => ?_)
        have hv_94 : xWF u_94 := by have h9 : xWF (Xsh_drop u_79 c_1x 1) := drop_wf hv_79; rw [hw_94] at h9; exact h9
        exact xq_ret (x_vret X G hr hlocks (by unfold Xdesk_moveToOrFromRegister; first | simp only [Option.getD_some, hw_1, eq_false c_8, eq_false c_43, hw_71, hw_79, eq_true c_86, hw_94, ↓reduceIte] | rfl) dX4_moveToOrFromRegister_97)
    · have c_43 : k0 = 83 := c_43
      refine lv_aload_n hx hb dX4_moveToOrFromRegister_46 rfl (lv_at hl 1 rfl) ?_
      refine lv_iconst (v := 1) hx hb dX4_moveToOrFromRegister_47 (by decide) ?_
      refine y_callv (As := [.int 1]) (rest := []) X hml G hA hEx hlocks xW_desk rfl (c_Xdesk_needItems l hl9 dC dI kc ad _ u_1 1) (cwV 1 hts gX4_moveToOrFromRegister_X4_needItems rfl rfl rfl (by decide +kernel) ⟨Nat.le_of_ble_eq_true rfl, Nat.le_of_ble_eq_true rfl⟩) rfl hl.1 rfl (Nat.le_of_ble_eq_true rfl) dX4_moveToOrFromRegister_48 ⟨Nat.le_of_ble_eq_true rfl, Nat.le_of_ble_eq_true rfl⟩ (fun E u9 hw_48 => (by unfold Xdesk_moveToOrFromRegister; first | simp only [Option.getD_some, hw_1, eq_false c_8, eq_true c_43, hw_48, ↓reduceIte] | rfl)) (fun u_48 H locs hw_48 G => ?_)
      have hs_48 := needItems_s hw_48
      subst hs_48
      refine lv_aload_n hx hb dX4_moveToOrFromRegister_51 rfl (lv_at hl 0 rfl) ?_
      refine lv_aload_n hx hb dX4_moveToOrFromRegister_52 rfl (lv_at hl 1 rfl) ?_
      refine x_dget_0 X G hin4 (by decide +kernel) dX4_moveToOrFromRegister_53 ?_
      refine y_callv (As := [.ref (ad 6)]) (rest := []) X hml G hA hEx hlocks (xW_sh hc_1) rfl (c_Xsh_putTopOf l hl9 dC dI kc ad _ u_1 c_1x 6 hc_1 (by decide) hv_1) (cwV 1 hts gX4_moveToOrFromRegister_X3_putTopOf rfl rfl rfl (by decide +kernel) ⟨Nat.le_of_ble_eq_true rfl, Nat.le_of_ble_eq_true rfl⟩) rfl hl.1 rfl (Nat.le_of_ble_eq_true rfl) dX4_moveToOrFromRegister_56 ⟨Nat.le_of_ble_eq_true rfl, Nat.le_of_ble_eq_true rfl⟩ (fun E u9 hw_56 => (by unfold Xdesk_moveToOrFromRegister; first | simp only [Option.getD_some, hw_1, eq_false c_8, eq_true c_43, hw_48, hw_56, ↓reduceIte] | rfl)) (fun u_56 H locs hw_56 G => ?_)
      have hv_56 : xWF u_56 := putTopOf_wf hv_1 hw_56
      refine lv_aload_n hx hb dX4_moveToOrFromRegister_59 rfl (lv_at hl 1 rfl) ?_
      refine x_dget_0 X G hin4 (by decide +kernel) dX4_moveToOrFromRegister_60 ?_
      refine lv_iconst (v := 1) hx hb dX4_moveToOrFromRegister_63 (by decide) ?_
      refine x_callv (As := [.int 1]) (rest := []) X hml G hA (xW_sh (by decide)) rfl (c_Xsh_drop l dC dI kc ad _ u_56 6 1 (by decide)) (cwV 1 hts gX4_moveToOrFromRegister_X3_drop rfl rfl rfl (by decide +kernel) ⟨Nat.le_of_ble_eq_true rfl, Nat.le_of_ble_eq_true rfl⟩) rfl hl.1 rfl (Nat.le_of_ble_eq_true rfl) dX4_moveToOrFromRegister_64 ⟨Nat.zero_le _, Nat.zero_le _⟩ (fun u_64 H locs hw_64 G => ?_)
      have hv_64 : xWF u_64 := by have h9 : xWF (Xsh_drop u_56 6 1) := drop_wf hv_56; rw [hw_64] at h9; exact h9
      refine lv_goto (tgt := 97) hx hb dX4_moveToOrFromRegister_67 (by decide) ?_
      exact xq_ret (x_vret X G hr hlocks (by unfold Xdesk_moveToOrFromRegister; first | simp only [Option.getD_some, hw_1, eq_false c_8, eq_true c_43, hw_48, hw_56, hw_64, ↓reduceIte] | rfl) dX4_moveToOrFromRegister_97)
  · have c_8 : k0 = 115 := c_8
    refine lv_aload_n hx hb dX4_moveToOrFromRegister_11 rfl (lv_at hl 1 rfl) ?_
    refine lv_iconst (v := 1) hx hb dX4_moveToOrFromRegister_12 (by decide) ?_
    refine y_callv (As := [.int 1]) (rest := []) X hml G hA hEx hlocks xW_desk rfl (c_Xdesk_needItems l hl9 dC dI kc ad _ u_1 1) (cwV 1 hts gX4_moveToOrFromRegister_X4_needItems rfl rfl rfl (by decide +kernel) ⟨Nat.le_of_ble_eq_true rfl, Nat.le_of_ble_eq_true rfl⟩) rfl hl.1 rfl (Nat.le_of_ble_eq_true rfl) dX4_moveToOrFromRegister_13 ⟨Nat.le_of_ble_eq_true rfl, Nat.le_of_ble_eq_true rfl⟩ (fun E u9 hw_13 => (by unfold Xdesk_moveToOrFromRegister; first | simp only [Option.getD_some, hw_1, eq_true c_8, hw_13, ↓reduceIte] | rfl)) (fun u_13 H locs hw_13 G => ?_)
    have hs_13 := needItems_s hw_13
    subst hs_13
    refine lv_aload_n hx hb dX4_moveToOrFromRegister_16 rfl (lv_at hl 0 rfl) ?_
    refine lv_iconst (v := 1) hx hb dX4_moveToOrFromRegister_17 (by decide) ?_
    refine x_callv (As := [.int 1]) (rest := []) X hml G hA (xW_sh hc_1) rfl (c_Xsh_drop l dC dI kc ad _ u_1 c_1x 1 hc_1) (cwV 1 hts gX4_moveToOrFromRegister_X3_drop rfl rfl rfl (by decide +kernel) ⟨Nat.le_of_ble_eq_true rfl, Nat.le_of_ble_eq_true rfl⟩) rfl hl.1 rfl (Nat.le_of_ble_eq_true rfl) dX4_moveToOrFromRegister_18 ⟨Nat.zero_le _, Nat.zero_le _⟩ (fun u_18 H locs hw_18 G => ?_)
    have hv_18 : xWF u_18 := by have h9 : xWF (Xsh_drop u_1 c_1x 1) := drop_wf hv_1; rw [hw_18] at h9; exact h9
    refine lv_aload_n hx hb dX4_moveToOrFromRegister_21 rfl (lv_at hl 0 rfl) ?_
    refine lv_aload_n hx hb dX4_moveToOrFromRegister_22 rfl (lv_at hl 1 rfl) ?_
    refine x_dget_0 X G hin4 (by decide +kernel) dX4_moveToOrFromRegister_23 ?_
    refine y_callv (As := [.ref (ad 6)]) (rest := []) X hml G hA hEx hlocks (xW_sh hc_1) rfl (c_Xsh_putTopOf l hl9 dC dI kc ad _ u_18 c_1x 6 hc_1 (by decide) hv_18) (cwV 1 hts gX4_moveToOrFromRegister_X3_putTopOf rfl rfl rfl (by decide +kernel) ⟨Nat.le_of_ble_eq_true rfl, Nat.le_of_ble_eq_true rfl⟩) rfl hl.1 rfl (Nat.le_of_ble_eq_true rfl) dX4_moveToOrFromRegister_26 ⟨Nat.le_of_ble_eq_true rfl, Nat.le_of_ble_eq_true rfl⟩ (fun E u9 hw_26 => (by unfold Xdesk_moveToOrFromRegister; first | simp only [Option.getD_some, hw_1, eq_true c_8, hw_13, hw_18, hw_26, ↓reduceIte] | rfl)) (fun u_26 H locs hw_26 G => ?_)
    have hv_26 : xWF u_26 := putTopOf_wf hv_18 hw_26
    refine lv_aload_n hx hb dX4_moveToOrFromRegister_29 rfl (lv_at hl 1 rfl) ?_
    refine x_dget_0 X G hin4 (by decide +kernel) dX4_moveToOrFromRegister_30 ?_
    refine lv_iconst (v := 1) hx hb dX4_moveToOrFromRegister_33 (by decide) ?_
    refine x_callv (As := [.int 1]) (rest := []) X hml G hA (xW_sh (by decide)) rfl (c_Xsh_drop l dC dI kc ad _ u_26 6 1 (by decide)) (cwV 1 hts gX4_moveToOrFromRegister_X3_drop rfl rfl rfl (by decide +kernel) ⟨Nat.le_of_ble_eq_true rfl, Nat.le_of_ble_eq_true rfl⟩) rfl hl.1 rfl (Nat.le_of_ble_eq_true rfl) dX4_moveToOrFromRegister_34 ⟨Nat.zero_le _, Nat.zero_le _⟩ (fun u_34 H locs hw_34 G => ?_)
    have hv_34 : xWF u_34 := by have h9 : xWF (Xsh_drop u_26 6 1) := drop_wf hv_26; rw [hw_34] at h9; exact h9
    refine lv_goto (tgt := 97) hx hb dX4_moveToOrFromRegister_37 (by decide) ?_
    exact xq_ret (x_vret X G hr hlocks (by unfold Xdesk_moveToOrFromRegister; first | simp only [Option.getD_some, hw_1, eq_true c_8, hw_13, hw_18, hw_26, hw_34, ↓reduceIte] | rfl) dX4_moveToOrFromRegister_97)
def Xdesk_runTop (σ : XS) : (String × XS) ⊕ XS := (match Xdesk_needItems σ 1 with | .inl e9 => .inl e9 | .inr u2 => (match (Xsh_rowAt σ 6 (Xsh_slotBelowTop σ 6 0)) with | none => .inr σ | some n24 => (match Xnest_enterMacro σ ((some n24)) (Xsh_startAt σ 6 (Xsh_slotBelowTop σ 6 0)) ((Xsh_valueAt σ 6 (Xsh_slotBelowTop σ 6 0)).toInt32) with | .inl e9 => .inl e9 | .inr u49 => let q_57 := Xsh_drop u49 6 1; .inr q_57)))
set_option maxHeartbeats 4000000 in
set_option maxRecDepth 100000 in
theorem c_Xdesk_runTop (l : Launch) (hl9 : l.stackTraces = false) (dC : Nat → ClassId) (dI : Nat → Nat → Nat) (kc : Nat → ClassId) (ad : Nat → Nat) (sz : Nat) (σ : XS) (hrv : xWF σ) : xq_Met l yX4_runTop wsX4_runTop ({ frames := 8, cells := 1, slots := 6, locals := 128 } : Room) (va_Pc [.ref (ad 0)] (xPre dC dI kc ad sz σ)) (va_Qv (fun u => Xdesk_runTop σ = .inr u) (xAt dC dI kc ad (xA kc ad σ sz)) (xA kc ad σ sz)) (xE (Xdesk_runTop σ) dC dI kc ad (xA kc ad σ sz)) 0 0 1 6 (xA kc ad σ sz) := by
  refine y_ofW (cc := cX4_runTop) (maxL := 3) (ret := none) (by decide) rfl rfl (Nat.le_of_ble_eq_true rfl) ?_
  intro p e s m below meth c X G hA hr hlocks hml hEx ls hl
  have hl : lv_has ls 3 [(0, .ref (ad 0))] := hl
  have hx := X.1
  have hb := X.2.1
  have hts := X.2.2.1
  have hown := X.2.2.2.1
  have hz := X.2.2.2.2.2
  have hin3 : ∀ w ∈ wsX30, w ∈ wsX4_runTop := (fun w hw => List.mem_cons_of_mem _ (List.mem_append_left _ (List.mem_append_left _ (List.mem_append_left _ (List.mem_append_left _ (List.mem_append_right _ hw))))))
  have hin2 : ∀ w ∈ wsX20, w ∈ wsX4_runTop := (fun w hw => List.mem_cons_of_mem _ (List.mem_append_left _ (List.mem_append_left _ (List.mem_append_right _ hw))))
  have hin1 : ∀ w ∈ wsX10, w ∈ wsX4_runTop := (fun w hw => List.mem_cons_of_mem _ (List.mem_append_left _ (List.mem_append_left _ (List.mem_append_left _ (List.mem_append_right _ hw)))))
  have hin4 : ∀ w ∈ wsX40, w ∈ wsX4_runTop := (fun w hw => List.mem_cons_of_mem _ (List.mem_append_left _ (List.mem_append_left _ (List.mem_append_left _ (List.mem_append_left _ (List.mem_append_left _ (List.mem_append_right _ hw)))))))
  refine lv_aload_n hx hb dX4_runTop_0 rfl (lv_at hl 0 rfl) ?_
  refine lv_iconst (v := 1) hx hb dX4_runTop_1 (by decide) ?_
  refine y_callv (As := [.int 1]) (rest := []) X hml G hA hEx hlocks xW_desk rfl (c_Xdesk_needItems l hl9 dC dI kc ad _ σ 1) (cwV 1 hts gX4_runTop_X4_needItems rfl rfl rfl (by decide +kernel) ⟨Nat.le_of_ble_eq_true rfl, Nat.le_of_ble_eq_true rfl⟩) rfl hl.1 rfl (Nat.le_of_ble_eq_true rfl) dX4_runTop_2 ⟨Nat.le_of_ble_eq_true rfl, Nat.le_of_ble_eq_true rfl⟩ (fun E u9 hw_2 => (by unfold Xdesk_runTop; first | simp only [hw_2, ↓reduceIte] | rfl)) (fun u_2 H locs hw_2 G => ?_)
  have hs_2 := needItems_s hw_2
  subst hs_2
  refine lv_aload_n hx hb dX4_runTop_5 rfl (lv_at hl 0 rfl) ?_
  refine x_dget_0 X G hin4 (by decide +kernel) dX4_runTop_6 ?_
  refine lv_iconst (v := 0) hx hb dX4_runTop_9 (by decide) ?_
  refine x_calli (As := [.int 0]) (rest := []) X hml G hA (xW_sh (by decide)) rfl (c_Xsh_slotBelowTop l dC dI kc ad _ σ 6 0 (by decide)) (cwV 1 hts gX4_runTop_X3_slotBelowTop rfl rfl rfl (by decide +kernel) ⟨Nat.le_of_ble_eq_true rfl, Nat.le_of_ble_eq_true rfl⟩) rfl hl.1 rfl (Nat.le_of_ble_eq_true rfl) dX4_runTop_10 ⟨Nat.zero_le _, Nat.zero_le _⟩ (fun r_10 u_10 H locs hw_10 G => ?_)
  obtain ⟨rfl, hu_10⟩ := hw_10
  rw [hu_10] at G
  refine lv_istore_n (lv' := [(1, .int (Xsh_slotBelowTop σ 6 0)), (0, .ref (ad 0))]) hx hb dX4_runTop_13 rfl hl (by decide) rfl (fun ls hl => ?_)
  refine lv_aload_n hx hb dX4_runTop_14 rfl (lv_at hl 1 rfl) ?_
  refine x_dget_0 X G hin4 (by decide +kernel) dX4_runTop_15 ?_
  refine lv_iload_n hx hb dX4_runTop_18 rfl (lv_at hl 0 rfl) ?_
  refine x_callq (As := [.int (Xsh_slotBelowTop σ 6 0)]) (rest := []) X hml G hA (xW_sh (by decide)) rfl (c_Xsh_rowAt l dC dI kc ad _ σ 6 (Xsh_slotBelowTop σ 6 0) (by decide)) (cwV 1 hts gX4_runTop_X3_rowAt rfl rfl rfl (by decide +kernel) ⟨Nat.le_of_ble_eq_true rfl, Nat.le_of_ble_eq_true rfl⟩) rfl hl.1 rfl (Nat.le_of_ble_eq_true rfl) dX4_runTop_19 ⟨Nat.zero_le _, Nat.zero_le _⟩ (fun r_19 u_19 H locs hw_19 G => ?_)
  obtain ⟨_, rfl, rfl, hu_19⟩ := hw_19
  rw [hu_19] at G
  refine x_astore_nq (lv' := [(2, va_rf ((Xsh_rowAt σ 6 (Xsh_slotBelowTop σ 6 0)).map ad)), (1, .int (Xsh_slotBelowTop σ 6 0)), (0, .ref (ad 0))]) hx hb dX4_runTop_22 rfl hl (by decide) rfl (fun ls hl => ?_)
  refine x_aload_nq hx hb dX4_runTop_23 rfl (lv_at hl 0 rfl) ?_
  refine x_ifnull (o := (Xsh_rowAt σ 6 (Xsh_slotBelowTop σ 6 0))) (tgt := 60) hx hb dX4_runTop_24 (by decide) (fun n_24 => ?_) (fun n_24x n_24 => ?_)
  · have n_24 := n_24
    exact xq_ret (x_vret X G hr hlocks (by unfold Xdesk_runTop; first | simp only [hw_2, n_24, ↓reduceIte] | rfl) dX4_runTop_60)
  · have n_24 := n_24
    have hl : lv_has ls 3 [(2, .ref (ad n_24x)), (1, .int (Xsh_slotBelowTop σ 6 0)), (0, .ref (ad 0))] := by rw [n_24] at hl; exact hl
    refine lv_aload_n hx hb dX4_runTop_27 rfl (lv_at hl 2 rfl) ?_
    refine x_dget_3 X G hin4 (by decide +kernel) dX4_runTop_28 ?_
    refine lv_aload_n hx hb dX4_runTop_31 rfl (lv_at hl 0 rfl) ?_
    refine lv_aload_n hx hb dX4_runTop_32 rfl (lv_at hl 2 rfl) ?_
    refine x_dget_0 X G hin4 (by decide +kernel) dX4_runTop_33 ?_
    refine lv_iload_n hx hb dX4_runTop_36 rfl (lv_at hl 1 rfl) ?_
    refine x_calli (As := [.int (Xsh_slotBelowTop σ 6 0)]) (rest := [.ref (ad n_24x), .ref (ad 2)]) X hml G hA (xW_sh (by decide)) rfl (c_Xsh_startAt l dC dI kc ad _ σ 6 (Xsh_slotBelowTop σ 6 0) (by decide)) (cwV 1 hts gX4_runTop_X3_startAt rfl rfl rfl (by decide +kernel) ⟨Nat.le_of_ble_eq_true rfl, Nat.le_of_ble_eq_true rfl⟩) rfl hl.1 rfl (Nat.le_of_ble_eq_true rfl) dX4_runTop_37 ⟨Nat.zero_le _, Nat.zero_le _⟩ (fun r_37 u_37 H locs hw_37 G => ?_)
    obtain ⟨rfl, hu_37⟩ := hw_37
    rw [hu_37] at G
    refine lv_aload_n hx hb dX4_runTop_40 rfl (lv_at hl 2 rfl) ?_
    refine x_dget_0 X G hin4 (by decide +kernel) dX4_runTop_41 ?_
    refine lv_iload_n hx hb dX4_runTop_44 rfl (lv_at hl 1 rfl) ?_
    refine x_calll (As := [.int (Xsh_slotBelowTop σ 6 0)]) (rest := [.int (Xsh_startAt σ 6 (Xsh_slotBelowTop σ 6 0)), .ref (ad n_24x), .ref (ad 2)]) X hml G hA (xW_sh (by decide)) rfl (c_Xsh_valueAt l dC dI kc ad _ σ 6 (Xsh_slotBelowTop σ 6 0) (by decide)) (cwV 1 hts gX4_runTop_X3_valueAt rfl rfl rfl (by decide +kernel) ⟨Nat.le_of_ble_eq_true rfl, Nat.le_of_ble_eq_true rfl⟩) rfl hl.1 rfl (Nat.le_of_ble_eq_true rfl) dX4_runTop_45 ⟨Nat.zero_le _, Nat.zero_le _⟩ (fun r_45 u_45 H locs hw_45 G => ?_)
    obtain ⟨rfl, hu_45⟩ := hw_45
    rw [hu_45] at G
    refine lv_l2i hx hb dX4_runTop_48 rfl ?_
    refine y_callv (As := [va_rf (((some n_24x)).map ad), .int (Xsh_startAt σ 6 (Xsh_slotBelowTop σ 6 0)), .int ((Xsh_valueAt σ 6 (Xsh_slotBelowTop σ 6 0)).toInt32)]) (rest := []) X hml G hA hEx hlocks xW_nest rfl (c_Xnest_enterMacro l hl9 dC dI kc ad _ σ ((some n_24x)) (Xsh_startAt σ 6 (Xsh_slotBelowTop σ 6 0)) ((Xsh_valueAt σ 6 (Xsh_slotBelowTop σ 6 0)).toInt32) hrv (fun n hn => by cases hn; exact rowAt_v hrv _ n_24)) (cwV 3 hts gX4_runTop_X1_enterMacro rfl rfl rfl (by decide +kernel) ⟨Nat.le_of_ble_eq_true rfl, Nat.le_of_ble_eq_true rfl⟩) rfl hl.1 rfl (Nat.le_of_ble_eq_true rfl) dX4_runTop_49 ⟨Nat.le_of_ble_eq_true rfl, Nat.le_of_ble_eq_true rfl⟩ (fun E u9 hw_49 => (by unfold Xdesk_runTop; first | simp only [hw_2, n_24, hw_49, ↓reduceIte] | rfl)) (fun u_49 H locs hw_49 G => ?_)
    have hv_49 : xWF u_49 := enterMacro_wf hrv (fun n hn => by cases hn; exact rowAt_v hrv _ n_24) hw_49
    refine lv_aload_n hx hb dX4_runTop_52 rfl (lv_at hl 2 rfl) ?_
    refine x_dget_0 X G hin4 (by decide +kernel) dX4_runTop_53 ?_
    refine lv_iconst (v := 1) hx hb dX4_runTop_56 (by decide) ?_
    refine x_callv (As := [.int 1]) (rest := []) X hml G hA (xW_sh (by decide)) rfl (c_Xsh_drop l dC dI kc ad _ u_49 6 1 (by decide)) (cwV 1 hts gX4_runTop_X3_drop rfl rfl rfl (by decide +kernel) ⟨Nat.le_of_ble_eq_true rfl, Nat.le_of_ble_eq_true rfl⟩) rfl hl.1 rfl (Nat.le_of_ble_eq_true rfl) dX4_runTop_57 ⟨Nat.zero_le _, Nat.zero_le _⟩ (fun u_57 H locs hw_57 G => ?_)
    have hv_57 : xWF u_57 := by have h9 : xWF (Xsh_drop u_49 6 1) := drop_wf hv_49; rw [hw_57] at h9; exact h9
    exact xq_ret (x_vret X G hr hlocks (by unfold Xdesk_runTop; first | simp only [hw_2, n_24, hw_49, hw_57, ↓reduceIte] | rfl) dX4_runTop_60)
def Xdesk_runIfOrdered (σ : XS) (k0 : Int32) : (String × XS) ⊕ XS := (match Xdesk_registerOfLetter σ with | .inl e9 => .inl e9 | .inr (r1, u1) => (match Xdesk_needNumbers u1 2 with | .inl e9 => .inl e9 | .inr u7 => (match D_order (Xsh_valueAt u1 6 (Xsh_slotBelowTop u1 6 0)) (Xsh_placesAt u1 6 (Xsh_slotBelowTop u1 6 0)) (Xsh_valueAt u1 6 (Xsh_slotBelowTop u1 6 1)) (Xsh_placesAt u1 6 (Xsh_slotBelowTop u1 6 1)) with | .inl e9 => .inl (e9, u1) | .inr r63 => if k0 = 60 then (if 0 ≤ r63 then (let q_185 := Xsh_drop u1 6 2; .inr q_185) else (match Xdesk_needHeld u1 (r1.getD 0) with | .inl e9 => .inl e9 | .inr u124 => (match (Xsh_rowAt u1 (r1.getD 0) (Xsh_slotBelowTop u1 (r1.getD 0) 0)) with | none => .inl ("java/lang/IndexOutOfBoundsException", u1) | some n144 => (match Xnest_enterMacro u1 ((some n144)) (Xsh_startAt u1 (r1.getD 0) (Xsh_slotBelowTop u1 (r1.getD 0) 0)) ((Xsh_valueAt u1 (r1.getD 0) (Xsh_slotBelowTop u1 (r1.getD 0) 0)).toInt32) with | .inl e9 => .inl e9 | .inr u177 => let q_185 := Xsh_drop u177 6 2; .inr q_185)))) else if k0 = 62 then (if r63 ≤ 0 then (let q_185 := Xsh_drop u1 6 2; .inr q_185) else (match Xdesk_needHeld u1 (r1.getD 0) with | .inl e9 => .inl e9 | .inr u124 => (match (Xsh_rowAt u1 (r1.getD 0) (Xsh_slotBelowTop u1 (r1.getD 0) 0)) with | none => .inl ("java/lang/IndexOutOfBoundsException", u1) | some n144 => (match Xnest_enterMacro u1 ((some n144)) (Xsh_startAt u1 (r1.getD 0) (Xsh_slotBelowTop u1 (r1.getD 0) 0)) ((Xsh_valueAt u1 (r1.getD 0) (Xsh_slotBelowTop u1 (r1.getD 0) 0)).toInt32) with | .inl e9 => .inl e9 | .inr u177 => let q_185 := Xsh_drop u177 6 2; .inr q_185)))) else if r63 = 0 then ((match Xdesk_needHeld u1 (r1.getD 0) with | .inl e9 => .inl e9 | .inr u124 => (match (Xsh_rowAt u1 (r1.getD 0) (Xsh_slotBelowTop u1 (r1.getD 0) 0)) with | none => .inl ("java/lang/IndexOutOfBoundsException", u1) | some n144 => (match Xnest_enterMacro u1 ((some n144)) (Xsh_startAt u1 (r1.getD 0) (Xsh_slotBelowTop u1 (r1.getD 0) 0)) ((Xsh_valueAt u1 (r1.getD 0) (Xsh_slotBelowTop u1 (r1.getD 0) 0)).toInt32) with | .inl e9 => .inl e9 | .inr u177 => let q_185 := Xsh_drop u177 6 2; .inr q_185)))) else let q_185 := Xsh_drop u1 6 2; .inr q_185)))
set_option maxHeartbeats 4000000 in
set_option maxRecDepth 100000 in
theorem c_Xdesk_runIfOrdered (l : Launch) (hl9 : l.stackTraces = false) (dC : Nat → ClassId) (dI : Nat → Nat → Nat) (kc : Nat → ClassId) (ad : Nat → Nat) (sz : Nat) (σ : XS) (k0 : Int32) (hrv : xWF σ) : xq_Met l yX4_runIfOrdered wsX4_runIfOrdered ({ frames := 9, cells := 1, slots := 6, locals := 153 } : Room) (va_Pc [.ref (ad 0), .int k0] (xPre dC dI kc ad sz σ)) (va_Qv (fun u => Xdesk_runIfOrdered σ k0 = .inr u) (xAt dC dI kc ad (xA kc ad σ sz)) (xA kc ad σ sz)) (xE (Xdesk_runIfOrdered σ k0) dC dI kc ad (xA kc ad σ sz)) 0 0 1 6 (xA kc ad σ sz) := by
  refine y_ofW (cc := cX4_runIfOrdered) (maxL := 9) (ret := none) (by decide) rfl rfl (Nat.le_of_ble_eq_true rfl) ?_
  intro p e s m below meth c X G hA hr hlocks hml hEx ls hl
  have hl : lv_has ls 9 [(0, .ref (ad 0)), (1, .int k0)] := hl
  have hx := X.1
  have hb := X.2.1
  have hts := X.2.2.1
  have hown := X.2.2.2.1
  have hz := X.2.2.2.2.2
  have hin3 : ∀ w ∈ wsX30, w ∈ wsX4_runIfOrdered := (fun w hw => List.mem_cons_of_mem _ (List.mem_append_left _ (List.mem_append_left _ (List.mem_append_left _ (List.mem_append_left _ (List.mem_append_left _ (List.mem_append_right _ hw)))))))
  have hin2 : ∀ w ∈ wsX20, w ∈ wsX4_runIfOrdered := (fun w hw => List.mem_cons_of_mem _ (List.mem_append_left _ (List.mem_append_left _ (List.mem_append_left _ (List.mem_append_left _ (List.mem_append_left _ (List.mem_append_left _ (List.mem_append_right _ hw))))))))
  have hin1 : ∀ w ∈ wsX10, w ∈ wsX4_runIfOrdered := (fun w hw => List.mem_cons_of_mem _ (List.mem_append_left _ (List.mem_append_left _ (List.mem_append_left _ (List.mem_append_left _ (List.mem_append_left _ (List.mem_append_left _ (List.mem_append_left _ (List.mem_append_right _ hw)))))))))
  have hin4 : ∀ w ∈ wsX40, w ∈ wsX4_runIfOrdered := (fun w hw => List.mem_cons_of_mem _ (List.mem_append_left _ (List.mem_append_left _ (List.mem_append_left _ (List.mem_append_left _ (List.mem_append_left _ (List.mem_append_left _ (List.mem_append_left _ (List.mem_append_left _ (List.mem_append_right _ hw))))))))))
  refine lv_aload_n hx hb dX4_runIfOrdered_0 rfl (lv_at hl 0 rfl) ?_
  refine y_callq (As := []) (rest := []) X hml G hA hEx hlocks xW_desk rfl (c_Xdesk_registerOfLetter l hl9 dC dI kc ad _ σ hrv) (cwV 0 hts gX4_runIfOrdered_X4_registerOfLetter rfl rfl rfl (by decide +kernel) ⟨Nat.le_of_ble_eq_true rfl, Nat.le_of_ble_eq_true rfl⟩) rfl hl.1 rfl (Nat.le_of_ble_eq_true rfl) dX4_runIfOrdered_1 ⟨Nat.le_of_ble_eq_true rfl, Nat.le_of_ble_eq_true rfl⟩ (fun E u9 hw_1 => (by unfold Xdesk_runIfOrdered; first | simp only [Option.getD_some, hw_1, ↓reduceIte] | rfl)) (fun r_1 u_1 H locs hw_1 G => ?_)
  have hv_1 : xWF u_1 := regOf_wf hrv hw_1
  obtain ⟨c_1x, rfl, hc_1⟩ := regOf_some hw_1
  refine W.eq (g2 := F0 m 4 ls [.ref (ad c_1x)]) rfl ?_
  refine lv_astore_n (lv' := [(2, .ref (ad c_1x)), (0, .ref (ad 0)), (1, .int k0)]) hx hb dX4_runIfOrdered_4 rfl hl (by decide) rfl (fun ls hl => ?_)
  refine lv_aload_n hx hb dX4_runIfOrdered_5 rfl (lv_at hl 1 rfl) ?_
  refine lv_iconst (v := 2) hx hb dX4_runIfOrdered_6 (by decide) ?_
  refine y_callv (As := [.int 2]) (rest := []) X hml G hA hEx hlocks xW_desk rfl (c_Xdesk_needNumbers l hl9 dC dI kc ad _ u_1 2 (by decide) (by decide)) (cwV 1 hts gX4_runIfOrdered_X4_needNumbers rfl rfl rfl (by decide +kernel) ⟨Nat.le_of_ble_eq_true rfl, Nat.le_of_ble_eq_true rfl⟩) rfl hl.1 rfl (Nat.le_of_ble_eq_true rfl) dX4_runIfOrdered_7 ⟨Nat.le_of_ble_eq_true rfl, Nat.le_of_ble_eq_true rfl⟩ (fun E u9 hw_7 => (by unfold Xdesk_runIfOrdered; first | simp only [Option.getD_some, hw_1, hw_7, ↓reduceIte] | rfl)) (fun u_7 H locs hw_7 G => ?_)
  have hs_7 := needNumbers_s hw_7
  subst hs_7
  refine lv_aload_n hx hb dX4_runIfOrdered_10 rfl (lv_at hl 1 rfl) ?_
  refine x_dget_0 X G hin4 (by decide +kernel) dX4_runIfOrdered_11 ?_
  refine lv_iconst (v := 1) hx hb dX4_runIfOrdered_14 (by decide) ?_
  refine x_calli (As := [.int 1]) (rest := []) X hml G hA (xW_sh (by decide)) rfl (c_Xsh_slotBelowTop l dC dI kc ad _ u_1 6 1 (by decide)) (cwV 1 hts gX4_runIfOrdered_X3_slotBelowTop rfl rfl rfl (by decide +kernel) ⟨Nat.le_of_ble_eq_true rfl, Nat.le_of_ble_eq_true rfl⟩) rfl hl.1 rfl (Nat.le_of_ble_eq_true rfl) dX4_runIfOrdered_15 ⟨Nat.zero_le _, Nat.zero_le _⟩ (fun r_15 u_15 H locs hw_15 G => ?_)
  obtain ⟨rfl, hu_15⟩ := hw_15
  rw [hu_15] at G
  refine lv_istore_n (lv' := [(3, .int (Xsh_slotBelowTop u_1 6 1)), (2, .ref (ad c_1x)), (0, .ref (ad 0)), (1, .int k0)]) hx hb dX4_runIfOrdered_18 rfl hl (by decide) rfl (fun ls hl => ?_)
  refine lv_aload_n hx hb dX4_runIfOrdered_19 rfl (lv_at hl 2 rfl) ?_
  refine x_dget_0 X G hin4 (by decide +kernel) dX4_runIfOrdered_20 ?_
  refine lv_iconst (v := 0) hx hb dX4_runIfOrdered_23 (by decide) ?_
  refine x_calli (As := [.int 0]) (rest := []) X hml G hA (xW_sh (by decide)) rfl (c_Xsh_slotBelowTop l dC dI kc ad _ u_1 6 0 (by decide)) (cwV 1 hts gX4_runIfOrdered_X3_slotBelowTop rfl rfl rfl (by decide +kernel) ⟨Nat.le_of_ble_eq_true rfl, Nat.le_of_ble_eq_true rfl⟩) rfl hl.1 rfl (Nat.le_of_ble_eq_true rfl) dX4_runIfOrdered_24 ⟨Nat.zero_le _, Nat.zero_le _⟩ (fun r_24 u_24 H locs hw_24 G => ?_)
  obtain ⟨rfl, hu_24⟩ := hw_24
  rw [hu_24] at G
  refine lv_istore (lv' := [(4, .int (Xsh_slotBelowTop u_1 6 0)), (3, .int (Xsh_slotBelowTop u_1 6 1)), (2, .ref (ad c_1x)), (0, .ref (ad 0)), (1, .int k0)]) hx hb dX4_runIfOrdered_27 hl (by decide) rfl (fun ls hl => ?_)
  refine lv_aload_n hx hb dX4_runIfOrdered_29 rfl (lv_at hl 3 rfl) ?_
  refine x_dget_0 X G hin4 (by decide +kernel) dX4_runIfOrdered_30 ?_
  refine lv_iload hx hb dX4_runIfOrdered_33 (lv_at hl 0 rfl) ?_
  refine x_calll (As := [.int (Xsh_slotBelowTop u_1 6 0)]) (rest := []) X hml G hA (xW_sh (by decide)) rfl (c_Xsh_valueAt l dC dI kc ad _ u_1 6 (Xsh_slotBelowTop u_1 6 0) (by decide)) (cwV 1 hts gX4_runIfOrdered_X3_valueAt rfl rfl rfl (by decide +kernel) ⟨Nat.le_of_ble_eq_true rfl, Nat.le_of_ble_eq_true rfl⟩) rfl hl.1 rfl (Nat.le_of_ble_eq_true rfl) dX4_runIfOrdered_35 ⟨Nat.zero_le _, Nat.zero_le _⟩ (fun r_35 u_35 H locs hw_35 G => ?_)
  obtain ⟨rfl, hu_35⟩ := hw_35
  rw [hu_35] at G
  refine lv_aload_n hx hb dX4_runIfOrdered_38 rfl (lv_at hl 3 rfl) ?_
  refine x_dget_0 X G hin4 (by decide +kernel) dX4_runIfOrdered_39 ?_
  refine lv_iload hx hb dX4_runIfOrdered_42 (lv_at hl 0 rfl) ?_
  refine x_calli (As := [.int (Xsh_slotBelowTop u_1 6 0)]) (rest := [.long (Xsh_valueAt u_1 6 (Xsh_slotBelowTop u_1 6 0))]) X hml G hA (xW_sh (by decide)) rfl (c_Xsh_placesAt l dC dI kc ad _ u_1 6 (Xsh_slotBelowTop u_1 6 0) (by decide)) (cwV 1 hts gX4_runIfOrdered_X3_placesAt rfl rfl rfl (by decide +kernel) ⟨Nat.le_of_ble_eq_true rfl, Nat.le_of_ble_eq_true rfl⟩) rfl hl.1 rfl (Nat.le_of_ble_eq_true rfl) dX4_runIfOrdered_44 ⟨Nat.zero_le _, Nat.zero_le _⟩ (fun r_44 u_44 H locs hw_44 G => ?_)
  obtain ⟨rfl, hu_44⟩ := hw_44
  rw [hu_44] at G
  refine lv_aload_n hx hb dX4_runIfOrdered_47 rfl (lv_at hl 3 rfl) ?_
  refine x_dget_0 X G hin4 (by decide +kernel) dX4_runIfOrdered_48 ?_
  refine lv_iload_n hx hb dX4_runIfOrdered_51 rfl (lv_at hl 1 rfl) ?_
  refine x_calll (As := [.int (Xsh_slotBelowTop u_1 6 1)]) (rest := [.int (Xsh_placesAt u_1 6 (Xsh_slotBelowTop u_1 6 0)), .long (Xsh_valueAt u_1 6 (Xsh_slotBelowTop u_1 6 0))]) X hml G hA (xW_sh (by decide)) rfl (c_Xsh_valueAt l dC dI kc ad _ u_1 6 (Xsh_slotBelowTop u_1 6 1) (by decide)) (cwV 1 hts gX4_runIfOrdered_X3_valueAt rfl rfl rfl (by decide +kernel) ⟨Nat.le_of_ble_eq_true rfl, Nat.le_of_ble_eq_true rfl⟩) rfl hl.1 rfl (Nat.le_of_ble_eq_true rfl) dX4_runIfOrdered_52 ⟨Nat.zero_le _, Nat.zero_le _⟩ (fun r_52 u_52 H locs hw_52 G => ?_)
  obtain ⟨rfl, hu_52⟩ := hw_52
  rw [hu_52] at G
  refine lv_aload_n hx hb dX4_runIfOrdered_55 rfl (lv_at hl 3 rfl) ?_
  refine x_dget_0 X G hin4 (by decide +kernel) dX4_runIfOrdered_56 ?_
  refine lv_iload_n hx hb dX4_runIfOrdered_59 rfl (lv_at hl 1 rfl) ?_
  refine x_calli (As := [.int (Xsh_slotBelowTop u_1 6 1)]) (rest := [.long (Xsh_valueAt u_1 6 (Xsh_slotBelowTop u_1 6 1)), .int (Xsh_placesAt u_1 6 (Xsh_slotBelowTop u_1 6 0)), .long (Xsh_valueAt u_1 6 (Xsh_slotBelowTop u_1 6 0))]) X hml G hA (xW_sh (by decide)) rfl (c_Xsh_placesAt l dC dI kc ad _ u_1 6 (Xsh_slotBelowTop u_1 6 1) (by decide)) (cwV 1 hts gX4_runIfOrdered_X3_placesAt rfl rfl rfl (by decide +kernel) ⟨Nat.le_of_ble_eq_true rfl, Nat.le_of_ble_eq_true rfl⟩) rfl hl.1 rfl (Nat.le_of_ble_eq_true rfl) dX4_runIfOrdered_60 ⟨Nat.zero_le _, Nat.zero_le _⟩ (fun r_60 u_60 H locs hw_60 G => ?_)
  obtain ⟨rfl, hu_60⟩ := hw_60
  rw [hu_60] at G
  refine y_callDi (As := [.long (Xsh_valueAt u_1 6 (Xsh_slotBelowTop u_1 6 0)), .int (Xsh_placesAt u_1 6 (Xsh_slotBelowTop u_1 6 0)), .long (Xsh_valueAt u_1 6 (Xsh_slotBelowTop u_1 6 1)), .int (Xsh_placesAt u_1 6 (Xsh_slotBelowTop u_1 6 1))]) (rest := []) X hml G hA hEx hlocks (c_D_order l hl9 _ (Xsh_valueAt u_1 6 (Xsh_slotBelowTop u_1 6 0)) (Xsh_placesAt u_1 6 (Xsh_slotBelowTop u_1 6 0)) (Xsh_valueAt u_1 6 (Xsh_slotBelowTop u_1 6 1)) (Xsh_placesAt u_1 6 (Xsh_slotBelowTop u_1 6 1))) (va_cwS 4 hts gX4_runIfOrdered_X0_order rfl rfl rfl (by decide +kernel) ⟨(Nat.le_of_ble_eq_true rfl), (Nat.le_of_ble_eq_true rfl)⟩) rfl hl.1 rfl (Nat.le_of_ble_eq_true rfl) dX4_runIfOrdered_63 ⟨(Nat.le_of_ble_eq_true rfl), (Nat.le_of_ble_eq_true rfl)⟩ (fun E hw_63 => (by unfold Xdesk_runIfOrdered; first | simp only [Option.getD_some, hw_1, hw_7, hw_63, ↓reduceIte] | rfl)) (fun r_63 H locs hw_63 G => ?_)
  refine lv_istore (lv' := [(5, .int r_63), (4, .int (Xsh_slotBelowTop u_1 6 0)), (3, .int (Xsh_slotBelowTop u_1 6 1)), (2, .ref (ad c_1x)), (0, .ref (ad 0)), (1, .int k0)]) hx hb dX4_runIfOrdered_66 hl (by decide) rfl (fun ls hl => ?_)
  refine lv_iload_n hx hb dX4_runIfOrdered_68 rfl (lv_at hl 5 rfl) ?_
  refine lv_bipush (v := 60) hx hb dX4_runIfOrdered_69 (by decide) ?_
  refine lv_icmp_ne (tgt := 87) hx hb dX4_runIfOrdered_71 (by decide) (fun c_71 => ?_) (fun c_71 => ?_)
  · have c_71 : ¬ (k0 = 60) := c_71
    refine lv_iload_n hx hb dX4_runIfOrdered_87 rfl (lv_at hl 5 rfl) ?_
    refine lv_bipush (v := 62) hx hb dX4_runIfOrdered_88 (by decide) ?_
    refine lv_icmp_ne (tgt := 106) hx hb dX4_runIfOrdered_90 (by decide) (fun c_90 => ?_) (fun c_90 => ?_)
    · have c_90 : ¬ (k0 = 62) := c_90
      refine lv_iload hx hb dX4_runIfOrdered_106 (lv_at hl 0 rfl) ?_
      refine lv_if_ne (tgt := 115) hx hb dX4_runIfOrdered_108 (by decide) (fun c_108 => ?_) (fun c_108 => ?_)
      · have c_108 : ¬ (r_63 = 0) := c_108
        refine lv_iconst (v := 0) hx hb dX4_runIfOrdered_115 (by decide) ?_
        refine lv_istore (lv' := [(6, .int 0), (5, .int r_63), (4, .int (Xsh_slotBelowTop u_1 6 0)), (3, .int (Xsh_slotBelowTop u_1 6 1)), (2, .ref (ad c_1x)), (0, .ref (ad 0)), (1, .int k0)]) hx hb dX4_runIfOrdered_116 hl (by decide) rfl (fun ls hl => ?_)
        refine lv_iload hx hb dX4_runIfOrdered_118 (lv_at hl 0 rfl) ?_
        refine lv_if_eq (tgt := 180) hx hb dX4_runIfOrdered_120 (by decide) (fun c9 => ?_) (fun c9 => absurd (show (0 : Int32) = 0 from by decide) c9)
        refine lv_aload_n hx hb dX4_runIfOrdered_180 rfl (lv_at hl 5 rfl) ?_
        refine x_dget_0 X G hin4 (by decide +kernel) dX4_runIfOrdered_181 ?_
        refine lv_iconst (v := 2) hx hb dX4_runIfOrdered_184 (by decide) ?_
        refine x_callv (As := [.int 2]) (rest := []) X hml G hA (xW_sh (by decide)) rfl (c_Xsh_drop l dC dI kc ad _ u_1 6 2 (by decide)) (cwV 1 hts gX4_runIfOrdered_X3_drop rfl rfl rfl (by decide +kernel) ⟨Nat.le_of_ble_eq_true rfl, Nat.le_of_ble_eq_true rfl⟩) rfl hl.1 rfl (Nat.le_of_ble_eq_true rfl) dX4_runIfOrdered_185 ⟨Nat.zero_le _, Nat.zero_le _⟩ (fun u_185 H locs hw_185 G => ?_)
        have hv_185 : xWF u_185 := by have h9 : xWF (Xsh_drop u_1 6 2) := drop_wf hv_1; rw [hw_185] at h9; exact h9
        exact xq_ret (x_vret X G hr hlocks (by unfold Xdesk_runIfOrdered; first | simp only [Option.getD_some, hw_1, hw_7, hw_63, eq_false c_71, eq_false c_90, eq_false c_108, hw_185, ↓reduceIte] | rfl) dX4_runIfOrdered_188)
      · have c_108 : r_63 = 0 := c_108
        refine lv_iconst (v := 1) hx hb dX4_runIfOrdered_111 (by decide) ?_
        refine lv_goto (tgt := 116) hx hb dX4_runIfOrdered_112 (by decide) ?_
        refine lv_istore (lv' := [(6, .int 1), (5, .int r_63), (4, .int (Xsh_slotBelowTop u_1 6 0)), (3, .int (Xsh_slotBelowTop u_1 6 1)), (2, .ref (ad c_1x)), (0, .ref (ad 0)), (1, .int k0)]) hx hb dX4_runIfOrdered_116 hl (by decide) rfl (fun ls hl => ?_)
        refine lv_iload hx hb dX4_runIfOrdered_118 (lv_at hl 0 rfl) ?_
        refine lv_if_eq (tgt := 180) hx hb dX4_runIfOrdered_120 (by decide) (fun c9 => absurd c9 (show ¬ ((1 : Int32) = 0) from by decide)) (fun c9 => ?_)
        refine lv_aload_n hx hb dX4_runIfOrdered_123 rfl (lv_at hl 4 rfl) ?_
        refine y_callSv (As := [.ref (ad c_1x)]) (rest := []) X hml G hA hEx hlocks (c_Xdesk_needHeld l hl9 dC dI kc ad _ u_1 c_1x hc_1) (va_cwS 1 hts gX4_runIfOrdered_X4_needHeld rfl rfl rfl (by decide +kernel) ⟨Nat.le_of_ble_eq_true rfl, Nat.le_of_ble_eq_true rfl⟩) rfl hl.1 rfl (Nat.le_of_ble_eq_true rfl) dX4_runIfOrdered_124 ⟨Nat.le_of_ble_eq_true rfl, Nat.le_of_ble_eq_true rfl⟩ (fun E u9 hw_124 => (by unfold Xdesk_runIfOrdered; first | simp only [Option.getD_some, hw_1, hw_7, hw_63, eq_false c_71, eq_false c_90, eq_true c_108, hw_124, ↓reduceIte] | rfl)) (fun u_124 H locs hw_124 G => ?_)
        have hs_124 := needHeld_s hw_124
        subst hs_124
        refine lv_aload_n hx hb dX4_runIfOrdered_127 rfl (lv_at hl 4 rfl) ?_
        refine lv_iconst (v := 0) hx hb dX4_runIfOrdered_128 (by decide) ?_
        refine x_calli (As := [.int 0]) (rest := []) X hml G hA (xW_sh hc_1) rfl (c_Xsh_slotBelowTop l dC dI kc ad _ u_1 c_1x 0 hc_1) (cwV 1 hts gX4_runIfOrdered_X3_slotBelowTop rfl rfl rfl (by decide +kernel) ⟨Nat.le_of_ble_eq_true rfl, Nat.le_of_ble_eq_true rfl⟩) rfl hl.1 rfl (Nat.le_of_ble_eq_true rfl) dX4_runIfOrdered_129 ⟨Nat.zero_le _, Nat.zero_le _⟩ (fun r_129 u_129 H locs hw_129 G => ?_)
        obtain ⟨rfl, hu_129⟩ := hw_129
        rw [hu_129] at G
        refine lv_istore (lv' := [(7, .int (Xsh_slotBelowTop u_1 c_1x 0)), (6, .int 1), (5, .int r_63), (4, .int (Xsh_slotBelowTop u_1 6 0)), (3, .int (Xsh_slotBelowTop u_1 6 1)), (2, .ref (ad c_1x)), (0, .ref (ad 0)), (1, .int k0)]) hx hb dX4_runIfOrdered_132 hl (by decide) rfl (fun ls hl => ?_)
        refine lv_aload_n hx hb dX4_runIfOrdered_134 rfl (lv_at hl 5 rfl) ?_
        refine lv_iload hx hb dX4_runIfOrdered_135 (lv_at hl 0 rfl) ?_
        refine x_callq (As := [.int (Xsh_slotBelowTop u_1 c_1x 0)]) (rest := []) X hml G hA (xW_sh hc_1) rfl (c_Xsh_rowAt l dC dI kc ad _ u_1 c_1x (Xsh_slotBelowTop u_1 c_1x 0) hc_1) (cwV 1 hts gX4_runIfOrdered_X3_rowAt rfl rfl rfl (by decide +kernel) ⟨Nat.le_of_ble_eq_true rfl, Nat.le_of_ble_eq_true rfl⟩) rfl hl.1 rfl (Nat.le_of_ble_eq_true rfl) dX4_runIfOrdered_137 ⟨Nat.zero_le _, Nat.zero_le _⟩ (fun r_137 u_137 H locs hw_137 G => ?_)
        obtain ⟨_, rfl, rfl, hu_137⟩ := hw_137
        rw [hu_137] at G
        refine x_astoreq (lv' := [(8, va_rf ((Xsh_rowAt u_1 c_1x (Xsh_slotBelowTop u_1 c_1x 0)).map ad)), (7, .int (Xsh_slotBelowTop u_1 c_1x 0)), (6, .int 1), (5, .int r_63), (4, .int (Xsh_slotBelowTop u_1 6 0)), (3, .int (Xsh_slotBelowTop u_1 6 1)), (2, .ref (ad c_1x)), (0, .ref (ad 0)), (1, .int k0)]) hx hb dX4_runIfOrdered_140 hl (by decide) rfl (fun ls hl => ?_)
        refine x_aloadq hx hb dX4_runIfOrdered_142 (lv_at hl 0 rfl) ?_
        refine x_ifnonnull (o := (Xsh_rowAt u_1 c_1x (Xsh_slotBelowTop u_1 c_1x 0))) (tgt := 158) hx hb dX4_runIfOrdered_144 (by decide) (fun n_144x n_144 => ?_) (fun n_144 => ?_)
        · have n_144 := n_144
          have hl : lv_has ls 9 [(8, .ref (ad n_144x)), (7, .int (Xsh_slotBelowTop u_1 c_1x 0)), (6, .int 1), (5, .int r_63), (4, .int (Xsh_slotBelowTop u_1 6 0)), (3, .int (Xsh_slotBelowTop u_1 6 1)), (2, .ref (ad c_1x)), (0, .ref (ad 0)), (1, .int k0)] := by rw [n_144] at hl; exact hl
          refine lv_aload_n hx hb dX4_runIfOrdered_158 rfl (lv_at hl 7 rfl) ?_
          refine x_dget_3 X G hin4 (by decide +kernel) dX4_runIfOrdered_159 ?_
          refine lv_aload hx hb dX4_runIfOrdered_162 (lv_at hl 0 rfl) ?_
          refine lv_aload_n hx hb dX4_runIfOrdered_164 rfl (lv_at hl 6 rfl) ?_
          refine lv_iload hx hb dX4_runIfOrdered_165 (lv_at hl 1 rfl) ?_
          refine x_calli (As := [.int (Xsh_slotBelowTop u_1 c_1x 0)]) (rest := [.ref (ad n_144x), .ref (ad 2)]) X hml G hA (xW_sh hc_1) rfl (c_Xsh_startAt l dC dI kc ad _ u_1 c_1x (Xsh_slotBelowTop u_1 c_1x 0) hc_1) (cwV 1 hts gX4_runIfOrdered_X3_startAt rfl rfl rfl (by decide +kernel) ⟨Nat.le_of_ble_eq_true rfl, Nat.le_of_ble_eq_true rfl⟩) rfl hl.1 rfl (Nat.le_of_ble_eq_true rfl) dX4_runIfOrdered_167 ⟨Nat.zero_le _, Nat.zero_le _⟩ (fun r_167 u_167 H locs hw_167 G => ?_)
          obtain ⟨rfl, hu_167⟩ := hw_167
          rw [hu_167] at G
          refine lv_aload_n hx hb dX4_runIfOrdered_170 rfl (lv_at hl 6 rfl) ?_
          refine lv_iload hx hb dX4_runIfOrdered_171 (lv_at hl 1 rfl) ?_
          refine x_calll (As := [.int (Xsh_slotBelowTop u_1 c_1x 0)]) (rest := [.int (Xsh_startAt u_1 c_1x (Xsh_slotBelowTop u_1 c_1x 0)), .ref (ad n_144x), .ref (ad 2)]) X hml G hA (xW_sh hc_1) rfl (c_Xsh_valueAt l dC dI kc ad _ u_1 c_1x (Xsh_slotBelowTop u_1 c_1x 0) hc_1) (cwV 1 hts gX4_runIfOrdered_X3_valueAt rfl rfl rfl (by decide +kernel) ⟨Nat.le_of_ble_eq_true rfl, Nat.le_of_ble_eq_true rfl⟩) rfl hl.1 rfl (Nat.le_of_ble_eq_true rfl) dX4_runIfOrdered_173 ⟨Nat.zero_le _, Nat.zero_le _⟩ (fun r_173 u_173 H locs hw_173 G => ?_)
          obtain ⟨rfl, hu_173⟩ := hw_173
          rw [hu_173] at G
          refine lv_l2i hx hb dX4_runIfOrdered_176 rfl ?_
          refine y_callv (As := [va_rf (((some n_144x)).map ad), .int (Xsh_startAt u_1 c_1x (Xsh_slotBelowTop u_1 c_1x 0)), .int ((Xsh_valueAt u_1 c_1x (Xsh_slotBelowTop u_1 c_1x 0)).toInt32)]) (rest := []) X hml G hA hEx hlocks xW_nest rfl (c_Xnest_enterMacro l hl9 dC dI kc ad _ u_1 ((some n_144x)) (Xsh_startAt u_1 c_1x (Xsh_slotBelowTop u_1 c_1x 0)) ((Xsh_valueAt u_1 c_1x (Xsh_slotBelowTop u_1 c_1x 0)).toInt32) hv_1 (fun n hn => by cases hn; exact rowAt_v hv_1 _ n_144)) (cwV 3 hts gX4_runIfOrdered_X1_enterMacro rfl rfl rfl (by decide +kernel) ⟨Nat.le_of_ble_eq_true rfl, Nat.le_of_ble_eq_true rfl⟩) rfl hl.1 rfl (Nat.le_of_ble_eq_true rfl) dX4_runIfOrdered_177 ⟨Nat.le_of_ble_eq_true rfl, Nat.le_of_ble_eq_true rfl⟩ (fun E u9 hw_177 => (by unfold Xdesk_runIfOrdered; first | simp only [Option.getD_some, hw_1, hw_7, hw_63, eq_false c_71, eq_false c_90, eq_true c_108, hw_124, n_144, hw_177, ↓reduceIte] | rfl)) (fun u_177 H locs hw_177 G => ?_)
          have hv_177 : xWF u_177 := enterMacro_wf hv_1 (fun n hn => by cases hn; exact rowAt_v hv_1 _ n_144) hw_177
          refine lv_aload_n hx hb dX4_runIfOrdered_180 rfl (lv_at hl 7 rfl) ?_
          refine x_dget_0 X G hin4 (by decide +kernel) dX4_runIfOrdered_181 ?_
          refine lv_iconst (v := 2) hx hb dX4_runIfOrdered_184 (by decide) ?_
          refine x_callv (As := [.int 2]) (rest := []) X hml G hA (xW_sh (by decide)) rfl (c_Xsh_drop l dC dI kc ad _ u_177 6 2 (by decide)) (cwV 1 hts gX4_runIfOrdered_X3_drop rfl rfl rfl (by decide +kernel) ⟨Nat.le_of_ble_eq_true rfl, Nat.le_of_ble_eq_true rfl⟩) rfl hl.1 rfl (Nat.le_of_ble_eq_true rfl) dX4_runIfOrdered_185 ⟨Nat.zero_le _, Nat.zero_le _⟩ (fun u_185 H locs hw_185 G => ?_)
          have hv_185 : xWF u_185 := by have h9 : xWF (Xsh_drop u_177 6 2) := drop_wf hv_177; rw [hw_185] at h9; exact h9
          exact xq_ret (x_vret X G hr hlocks (by unfold Xdesk_runIfOrdered; first | simp only [Option.getD_some, hw_1, hw_7, hw_63, eq_false c_71, eq_false c_90, eq_true c_108, hw_124, n_144, hw_177, hw_185, ↓reduceIte] | rfl) dX4_runIfOrdered_188)
        · have n_144 := n_144
          obtain ⟨sa, hstr⟩ := zstr hz (own := RX4) (k := 259) (text := "a text is wanted and the item is a number") (by decide +kernel)
          exact xq_thr (vx_throwSW (own := RX4) (cls := "java/lang/IndexOutOfBoundsException") (text := "a text is wanted and the item is a number") (names := ["java/lang/RuntimeException", "java/lang/Exception"]) hx hb hl9 hown (by decide +kernel) (by decide +kernel) (hts (.classLink RX4 177 "java/lang/IndexOutOfBoundsException") (by decide +kernel)) (hts (.initialized "java/lang/IndexOutOfBoundsException") (by decide +kernel)) hstr (zhat hz hts (by decide +kernel) (fun w hw => List.mem_cons_of_mem _ (List.mem_append_left _ (List.mem_append_left _ (List.mem_append_left _ (List.mem_append_left _ (List.mem_append_right _ hw)))))) (by decide +kernel)) (by decide +kernel) hz.2.1 hz.2.2.1 G.2.2 (hl.1.trans hml.symm) dX4_runIfOrdered_147 dX4_runIfOrdered_150 dX4_runIfOrdered_151 dX4_runIfOrdered_154 dX4_runIfOrdered_157 (fun x hx => (hEx x hx).elim) (Nat.le_of_ble_eq_true rfl) (Nat.le_of_ble_eq_true rfl) (Nat.le_of_ble_eq_true rfl) (Nat.le_of_ble_eq_true rfl) hlocks (fun t ha hsz hk => ⟨u_1, trivial, ⟨(by unfold Xdesk_runIfOrdered; first | simp only [Option.getD_some, hw_1, hw_7, hw_63, eq_false c_71, eq_false c_90, eq_true c_108, hw_124, n_144, ↓reduceIte] | rfl), (y_kept X G ha hsz hk).1⟩, (y_kept X G ha hsz hk).2⟩) G.2.2.2.2 (Nat.le_of_ble_eq_true rfl) (Nat.le_of_ble_eq_true rfl))
    · have c_90 : k0 = 62 := c_90
      refine lv_iload hx hb dX4_runIfOrdered_93 (lv_at hl 0 rfl) ?_
      refine lv_if_le (tgt := 102) hx hb dX4_runIfOrdered_95 (by decide) (fun c_95 => ?_) (fun c_95 => ?_)
      · have c_95 : r_63 ≤ 0 := c_95
        refine lv_iconst (v := 0) hx hb dX4_runIfOrdered_102 (by decide) ?_
        refine lv_goto (tgt := 116) hx hb dX4_runIfOrdered_103 (by decide) ?_
        refine lv_istore (lv' := [(6, .int 0), (5, .int r_63), (4, .int (Xsh_slotBelowTop u_1 6 0)), (3, .int (Xsh_slotBelowTop u_1 6 1)), (2, .ref (ad c_1x)), (0, .ref (ad 0)), (1, .int k0)]) hx hb dX4_runIfOrdered_116 hl (by decide) rfl (fun ls hl => ?_)
        refine lv_iload hx hb dX4_runIfOrdered_118 (lv_at hl 0 rfl) ?_
        refine lv_if_eq (tgt := 180) hx hb dX4_runIfOrdered_120 (by decide) (fun c9 => ?_) (fun c9 => absurd (show (0 : Int32) = 0 from by decide) c9)
        refine lv_aload_n hx hb dX4_runIfOrdered_180 rfl (lv_at hl 5 rfl) ?_
        refine x_dget_0 X G hin4 (by decide +kernel) dX4_runIfOrdered_181 ?_
        refine lv_iconst (v := 2) hx hb dX4_runIfOrdered_184 (by decide) ?_
        refine x_callv (As := [.int 2]) (rest := []) X hml G hA (xW_sh (by decide)) rfl (c_Xsh_drop l dC dI kc ad _ u_1 6 2 (by decide)) (cwV 1 hts gX4_runIfOrdered_X3_drop rfl rfl rfl (by decide +kernel) ⟨Nat.le_of_ble_eq_true rfl, Nat.le_of_ble_eq_true rfl⟩) rfl hl.1 rfl (Nat.le_of_ble_eq_true rfl) dX4_runIfOrdered_185 ⟨Nat.zero_le _, Nat.zero_le _⟩ (fun u_185 H locs hw_185 G => ?_)
        have hv_185 : xWF u_185 := by have h9 : xWF (Xsh_drop u_1 6 2) := drop_wf hv_1; rw [hw_185] at h9; exact h9
        exact xq_ret (x_vret X G hr hlocks (by unfold Xdesk_runIfOrdered; first | simp only [Option.getD_some, hw_1, hw_7, hw_63, eq_false c_71, eq_true c_90, eq_true c_95, hw_185, ↓reduceIte] | rfl) dX4_runIfOrdered_188)
      · have c_95 : ¬ (r_63 ≤ 0) := c_95
        refine lv_iconst (v := 1) hx hb dX4_runIfOrdered_98 (by decide) ?_
        refine lv_goto (tgt := 116) hx hb dX4_runIfOrdered_99 (by decide) ?_
        refine lv_istore (lv' := [(6, .int 1), (5, .int r_63), (4, .int (Xsh_slotBelowTop u_1 6 0)), (3, .int (Xsh_slotBelowTop u_1 6 1)), (2, .ref (ad c_1x)), (0, .ref (ad 0)), (1, .int k0)]) hx hb dX4_runIfOrdered_116 hl (by decide) rfl (fun ls hl => ?_)
        refine lv_iload hx hb dX4_runIfOrdered_118 (lv_at hl 0 rfl) ?_
        refine lv_if_eq (tgt := 180) hx hb dX4_runIfOrdered_120 (by decide) (fun c9 => absurd c9 (show ¬ ((1 : Int32) = 0) from by decide)) (fun c9 => ?_)
        refine lv_aload_n hx hb dX4_runIfOrdered_123 rfl (lv_at hl 4 rfl) ?_
        refine y_callSv (As := [.ref (ad c_1x)]) (rest := []) X hml G hA hEx hlocks (c_Xdesk_needHeld l hl9 dC dI kc ad _ u_1 c_1x hc_1) (va_cwS 1 hts gX4_runIfOrdered_X4_needHeld rfl rfl rfl (by decide +kernel) ⟨Nat.le_of_ble_eq_true rfl, Nat.le_of_ble_eq_true rfl⟩) rfl hl.1 rfl (Nat.le_of_ble_eq_true rfl) dX4_runIfOrdered_124 ⟨Nat.le_of_ble_eq_true rfl, Nat.le_of_ble_eq_true rfl⟩ (fun E u9 hw_124 => (by unfold Xdesk_runIfOrdered; first | simp only [Option.getD_some, hw_1, hw_7, hw_63, eq_false c_71, eq_true c_90, eq_false c_95, hw_124, ↓reduceIte] | rfl)) (fun u_124 H locs hw_124 G => ?_)
        have hs_124 := needHeld_s hw_124
        subst hs_124
        refine lv_aload_n hx hb dX4_runIfOrdered_127 rfl (lv_at hl 4 rfl) ?_
        refine lv_iconst (v := 0) hx hb dX4_runIfOrdered_128 (by decide) ?_
        refine x_calli (As := [.int 0]) (rest := []) X hml G hA (xW_sh hc_1) rfl (c_Xsh_slotBelowTop l dC dI kc ad _ u_1 c_1x 0 hc_1) (cwV 1 hts gX4_runIfOrdered_X3_slotBelowTop rfl rfl rfl (by decide +kernel) ⟨Nat.le_of_ble_eq_true rfl, Nat.le_of_ble_eq_true rfl⟩) rfl hl.1 rfl (Nat.le_of_ble_eq_true rfl) dX4_runIfOrdered_129 ⟨Nat.zero_le _, Nat.zero_le _⟩ (fun r_129 u_129 H locs hw_129 G => ?_)
        obtain ⟨rfl, hu_129⟩ := hw_129
        rw [hu_129] at G
        refine lv_istore (lv' := [(7, .int (Xsh_slotBelowTop u_1 c_1x 0)), (6, .int 1), (5, .int r_63), (4, .int (Xsh_slotBelowTop u_1 6 0)), (3, .int (Xsh_slotBelowTop u_1 6 1)), (2, .ref (ad c_1x)), (0, .ref (ad 0)), (1, .int k0)]) hx hb dX4_runIfOrdered_132 hl (by decide) rfl (fun ls hl => ?_)
        refine lv_aload_n hx hb dX4_runIfOrdered_134 rfl (lv_at hl 5 rfl) ?_
        refine lv_iload hx hb dX4_runIfOrdered_135 (lv_at hl 0 rfl) ?_
        refine x_callq (As := [.int (Xsh_slotBelowTop u_1 c_1x 0)]) (rest := []) X hml G hA (xW_sh hc_1) rfl (c_Xsh_rowAt l dC dI kc ad _ u_1 c_1x (Xsh_slotBelowTop u_1 c_1x 0) hc_1) (cwV 1 hts gX4_runIfOrdered_X3_rowAt rfl rfl rfl (by decide +kernel) ⟨Nat.le_of_ble_eq_true rfl, Nat.le_of_ble_eq_true rfl⟩) rfl hl.1 rfl (Nat.le_of_ble_eq_true rfl) dX4_runIfOrdered_137 ⟨Nat.zero_le _, Nat.zero_le _⟩ (fun r_137 u_137 H locs hw_137 G => ?_)
        obtain ⟨_, rfl, rfl, hu_137⟩ := hw_137
        rw [hu_137] at G
        refine x_astoreq (lv' := [(8, va_rf ((Xsh_rowAt u_1 c_1x (Xsh_slotBelowTop u_1 c_1x 0)).map ad)), (7, .int (Xsh_slotBelowTop u_1 c_1x 0)), (6, .int 1), (5, .int r_63), (4, .int (Xsh_slotBelowTop u_1 6 0)), (3, .int (Xsh_slotBelowTop u_1 6 1)), (2, .ref (ad c_1x)), (0, .ref (ad 0)), (1, .int k0)]) hx hb dX4_runIfOrdered_140 hl (by decide) rfl (fun ls hl => ?_)
        refine x_aloadq hx hb dX4_runIfOrdered_142 (lv_at hl 0 rfl) ?_
        refine x_ifnonnull (o := (Xsh_rowAt u_1 c_1x (Xsh_slotBelowTop u_1 c_1x 0))) (tgt := 158) hx hb dX4_runIfOrdered_144 (by decide) (fun n_144x n_144 => ?_) (fun n_144 => ?_)
        · have n_144 := n_144
          have hl : lv_has ls 9 [(8, .ref (ad n_144x)), (7, .int (Xsh_slotBelowTop u_1 c_1x 0)), (6, .int 1), (5, .int r_63), (4, .int (Xsh_slotBelowTop u_1 6 0)), (3, .int (Xsh_slotBelowTop u_1 6 1)), (2, .ref (ad c_1x)), (0, .ref (ad 0)), (1, .int k0)] := by rw [n_144] at hl; exact hl
          refine lv_aload_n hx hb dX4_runIfOrdered_158 rfl (lv_at hl 7 rfl) ?_
          refine x_dget_3 X G hin4 (by decide +kernel) dX4_runIfOrdered_159 ?_
          refine lv_aload hx hb dX4_runIfOrdered_162 (lv_at hl 0 rfl) ?_
          refine lv_aload_n hx hb dX4_runIfOrdered_164 rfl (lv_at hl 6 rfl) ?_
          refine lv_iload hx hb dX4_runIfOrdered_165 (lv_at hl 1 rfl) ?_
          refine x_calli (As := [.int (Xsh_slotBelowTop u_1 c_1x 0)]) (rest := [.ref (ad n_144x), .ref (ad 2)]) X hml G hA (xW_sh hc_1) rfl (c_Xsh_startAt l dC dI kc ad _ u_1 c_1x (Xsh_slotBelowTop u_1 c_1x 0) hc_1) (cwV 1 hts gX4_runIfOrdered_X3_startAt rfl rfl rfl (by decide +kernel) ⟨Nat.le_of_ble_eq_true rfl, Nat.le_of_ble_eq_true rfl⟩) rfl hl.1 rfl (Nat.le_of_ble_eq_true rfl) dX4_runIfOrdered_167 ⟨Nat.zero_le _, Nat.zero_le _⟩ (fun r_167 u_167 H locs hw_167 G => ?_)
          obtain ⟨rfl, hu_167⟩ := hw_167
          rw [hu_167] at G
          refine lv_aload_n hx hb dX4_runIfOrdered_170 rfl (lv_at hl 6 rfl) ?_
          refine lv_iload hx hb dX4_runIfOrdered_171 (lv_at hl 1 rfl) ?_
          refine x_calll (As := [.int (Xsh_slotBelowTop u_1 c_1x 0)]) (rest := [.int (Xsh_startAt u_1 c_1x (Xsh_slotBelowTop u_1 c_1x 0)), .ref (ad n_144x), .ref (ad 2)]) X hml G hA (xW_sh hc_1) rfl (c_Xsh_valueAt l dC dI kc ad _ u_1 c_1x (Xsh_slotBelowTop u_1 c_1x 0) hc_1) (cwV 1 hts gX4_runIfOrdered_X3_valueAt rfl rfl rfl (by decide +kernel) ⟨Nat.le_of_ble_eq_true rfl, Nat.le_of_ble_eq_true rfl⟩) rfl hl.1 rfl (Nat.le_of_ble_eq_true rfl) dX4_runIfOrdered_173 ⟨Nat.zero_le _, Nat.zero_le _⟩ (fun r_173 u_173 H locs hw_173 G => ?_)
          obtain ⟨rfl, hu_173⟩ := hw_173
          rw [hu_173] at G
          refine lv_l2i hx hb dX4_runIfOrdered_176 rfl ?_
          refine y_callv (As := [va_rf (((some n_144x)).map ad), .int (Xsh_startAt u_1 c_1x (Xsh_slotBelowTop u_1 c_1x 0)), .int ((Xsh_valueAt u_1 c_1x (Xsh_slotBelowTop u_1 c_1x 0)).toInt32)]) (rest := []) X hml G hA hEx hlocks xW_nest rfl (c_Xnest_enterMacro l hl9 dC dI kc ad _ u_1 ((some n_144x)) (Xsh_startAt u_1 c_1x (Xsh_slotBelowTop u_1 c_1x 0)) ((Xsh_valueAt u_1 c_1x (Xsh_slotBelowTop u_1 c_1x 0)).toInt32) hv_1 (fun n hn => by cases hn; exact rowAt_v hv_1 _ n_144)) (cwV 3 hts gX4_runIfOrdered_X1_enterMacro rfl rfl rfl (by decide +kernel) ⟨Nat.le_of_ble_eq_true rfl, Nat.le_of_ble_eq_true rfl⟩) rfl hl.1 rfl (Nat.le_of_ble_eq_true rfl) dX4_runIfOrdered_177 ⟨Nat.le_of_ble_eq_true rfl, Nat.le_of_ble_eq_true rfl⟩ (fun E u9 hw_177 => (by unfold Xdesk_runIfOrdered; first | simp only [Option.getD_some, hw_1, hw_7, hw_63, eq_false c_71, eq_true c_90, eq_false c_95, hw_124, n_144, hw_177, ↓reduceIte] | rfl)) (fun u_177 H locs hw_177 G => ?_)
          have hv_177 : xWF u_177 := enterMacro_wf hv_1 (fun n hn => by cases hn; exact rowAt_v hv_1 _ n_144) hw_177
          refine lv_aload_n hx hb dX4_runIfOrdered_180 rfl (lv_at hl 7 rfl) ?_
          refine x_dget_0 X G hin4 (by decide +kernel) dX4_runIfOrdered_181 ?_
          refine lv_iconst (v := 2) hx hb dX4_runIfOrdered_184 (by decide) ?_
          refine x_callv (As := [.int 2]) (rest := []) X hml G hA (xW_sh (by decide)) rfl (c_Xsh_drop l dC dI kc ad _ u_177 6 2 (by decide)) (cwV 1 hts gX4_runIfOrdered_X3_drop rfl rfl rfl (by decide +kernel) ⟨Nat.le_of_ble_eq_true rfl, Nat.le_of_ble_eq_true rfl⟩) rfl hl.1 rfl (Nat.le_of_ble_eq_true rfl) dX4_runIfOrdered_185 ⟨Nat.zero_le _, Nat.zero_le _⟩ (fun u_185 H locs hw_185 G => ?_)
          have hv_185 : xWF u_185 := by have h9 : xWF (Xsh_drop u_177 6 2) := drop_wf hv_177; rw [hw_185] at h9; exact h9
          exact xq_ret (x_vret X G hr hlocks (by unfold Xdesk_runIfOrdered; first | simp only [Option.getD_some, hw_1, hw_7, hw_63, eq_false c_71, eq_true c_90, eq_false c_95, hw_124, n_144, hw_177, hw_185, ↓reduceIte] | rfl) dX4_runIfOrdered_188)
        · have n_144 := n_144
          obtain ⟨sa, hstr⟩ := zstr hz (own := RX4) (k := 259) (text := "a text is wanted and the item is a number") (by decide +kernel)
          exact xq_thr (vx_throwSW (own := RX4) (cls := "java/lang/IndexOutOfBoundsException") (text := "a text is wanted and the item is a number") (names := ["java/lang/RuntimeException", "java/lang/Exception"]) hx hb hl9 hown (by decide +kernel) (by decide +kernel) (hts (.classLink RX4 177 "java/lang/IndexOutOfBoundsException") (by decide +kernel)) (hts (.initialized "java/lang/IndexOutOfBoundsException") (by decide +kernel)) hstr (zhat hz hts (by decide +kernel) (fun w hw => List.mem_cons_of_mem _ (List.mem_append_left _ (List.mem_append_left _ (List.mem_append_left _ (List.mem_append_left _ (List.mem_append_right _ hw)))))) (by decide +kernel)) (by decide +kernel) hz.2.1 hz.2.2.1 G.2.2 (hl.1.trans hml.symm) dX4_runIfOrdered_147 dX4_runIfOrdered_150 dX4_runIfOrdered_151 dX4_runIfOrdered_154 dX4_runIfOrdered_157 (fun x hx => (hEx x hx).elim) (Nat.le_of_ble_eq_true rfl) (Nat.le_of_ble_eq_true rfl) (Nat.le_of_ble_eq_true rfl) (Nat.le_of_ble_eq_true rfl) hlocks (fun t ha hsz hk => ⟨u_1, trivial, ⟨(by unfold Xdesk_runIfOrdered; first | simp only [Option.getD_some, hw_1, hw_7, hw_63, eq_false c_71, eq_true c_90, eq_false c_95, hw_124, n_144, ↓reduceIte] | rfl), (y_kept X G ha hsz hk).1⟩, (y_kept X G ha hsz hk).2⟩) G.2.2.2.2 (Nat.le_of_ble_eq_true rfl) (Nat.le_of_ble_eq_true rfl))
  · have c_71 : k0 = 60 := c_71
    refine lv_iload hx hb dX4_runIfOrdered_74 (lv_at hl 0 rfl) ?_
    refine lv_if_ge (tgt := 83) hx hb dX4_runIfOrdered_76 (by decide) (fun c_76 => ?_) (fun c_76 => ?_)
    · have c_76 : 0 ≤ r_63 := c_76
      refine lv_iconst (v := 0) hx hb dX4_runIfOrdered_83 (by decide) ?_
      refine lv_goto (tgt := 116) hx hb dX4_runIfOrdered_84 (by decide) ?_
      refine lv_istore (lv' := [(6, .int 0), (5, .int r_63), (4, .int (Xsh_slotBelowTop u_1 6 0)), (3, .int (Xsh_slotBelowTop u_1 6 1)), (2, .ref (ad c_1x)), (0, .ref (ad 0)), (1, .int k0)]) hx hb dX4_runIfOrdered_116 hl (by decide) rfl (fun ls hl => ?_)
      refine lv_iload hx hb dX4_runIfOrdered_118 (lv_at hl 0 rfl) ?_
      refine lv_if_eq (tgt := 180) hx hb dX4_runIfOrdered_120 (by decide) (fun c9 => ?_) (fun c9 => absurd (show (0 : Int32) = 0 from by decide) c9)
      refine lv_aload_n hx hb dX4_runIfOrdered_180 rfl (lv_at hl 5 rfl) ?_
      refine x_dget_0 X G hin4 (by decide +kernel) dX4_runIfOrdered_181 ?_
      refine lv_iconst (v := 2) hx hb dX4_runIfOrdered_184 (by decide) ?_
      refine x_callv (As := [.int 2]) (rest := []) X hml G hA (xW_sh (by decide)) rfl (c_Xsh_drop l dC dI kc ad _ u_1 6 2 (by decide)) (cwV 1 hts gX4_runIfOrdered_X3_drop rfl rfl rfl (by decide +kernel) ⟨Nat.le_of_ble_eq_true rfl, Nat.le_of_ble_eq_true rfl⟩) rfl hl.1 rfl (Nat.le_of_ble_eq_true rfl) dX4_runIfOrdered_185 ⟨Nat.zero_le _, Nat.zero_le _⟩ (fun u_185 H locs hw_185 G => ?_)
      have hv_185 : xWF u_185 := by have h9 : xWF (Xsh_drop u_1 6 2) := drop_wf hv_1; rw [hw_185] at h9; exact h9
      exact xq_ret (x_vret X G hr hlocks (by unfold Xdesk_runIfOrdered; first | simp only [Option.getD_some, hw_1, hw_7, hw_63, eq_true c_71, eq_true c_76, hw_185, ↓reduceIte] | rfl) dX4_runIfOrdered_188)
    · have c_76 : ¬ (0 ≤ r_63) := c_76
      refine lv_iconst (v := 1) hx hb dX4_runIfOrdered_79 (by decide) ?_
      refine lv_goto (tgt := 116) hx hb dX4_runIfOrdered_80 (by decide) ?_
      refine lv_istore (lv' := [(6, .int 1), (5, .int r_63), (4, .int (Xsh_slotBelowTop u_1 6 0)), (3, .int (Xsh_slotBelowTop u_1 6 1)), (2, .ref (ad c_1x)), (0, .ref (ad 0)), (1, .int k0)]) hx hb dX4_runIfOrdered_116 hl (by decide) rfl (fun ls hl => ?_)
      refine lv_iload hx hb dX4_runIfOrdered_118 (lv_at hl 0 rfl) ?_
      refine lv_if_eq (tgt := 180) hx hb dX4_runIfOrdered_120 (by decide) (fun c9 => absurd c9 (show ¬ ((1 : Int32) = 0) from by decide)) (fun c9 => ?_)
      refine lv_aload_n hx hb dX4_runIfOrdered_123 rfl (lv_at hl 4 rfl) ?_
      refine y_callSv (As := [.ref (ad c_1x)]) (rest := []) X hml G hA hEx hlocks (c_Xdesk_needHeld l hl9 dC dI kc ad _ u_1 c_1x hc_1) (va_cwS 1 hts gX4_runIfOrdered_X4_needHeld rfl rfl rfl (by decide +kernel) ⟨Nat.le_of_ble_eq_true rfl, Nat.le_of_ble_eq_true rfl⟩) rfl hl.1 rfl (Nat.le_of_ble_eq_true rfl) dX4_runIfOrdered_124 ⟨Nat.le_of_ble_eq_true rfl, Nat.le_of_ble_eq_true rfl⟩ (fun E u9 hw_124 => (by unfold Xdesk_runIfOrdered; first | simp only [Option.getD_some, hw_1, hw_7, hw_63, eq_true c_71, eq_false c_76, hw_124, ↓reduceIte] | rfl)) (fun u_124 H locs hw_124 G => ?_)
      have hs_124 := needHeld_s hw_124
      subst hs_124
      refine lv_aload_n hx hb dX4_runIfOrdered_127 rfl (lv_at hl 4 rfl) ?_
      refine lv_iconst (v := 0) hx hb dX4_runIfOrdered_128 (by decide) ?_
      refine x_calli (As := [.int 0]) (rest := []) X hml G hA (xW_sh hc_1) rfl (c_Xsh_slotBelowTop l dC dI kc ad _ u_1 c_1x 0 hc_1) (cwV 1 hts gX4_runIfOrdered_X3_slotBelowTop rfl rfl rfl (by decide +kernel) ⟨Nat.le_of_ble_eq_true rfl, Nat.le_of_ble_eq_true rfl⟩) rfl hl.1 rfl (Nat.le_of_ble_eq_true rfl) dX4_runIfOrdered_129 ⟨Nat.zero_le _, Nat.zero_le _⟩ (fun r_129 u_129 H locs hw_129 G => ?_)
      obtain ⟨rfl, hu_129⟩ := hw_129
      rw [hu_129] at G
      refine lv_istore (lv' := [(7, .int (Xsh_slotBelowTop u_1 c_1x 0)), (6, .int 1), (5, .int r_63), (4, .int (Xsh_slotBelowTop u_1 6 0)), (3, .int (Xsh_slotBelowTop u_1 6 1)), (2, .ref (ad c_1x)), (0, .ref (ad 0)), (1, .int k0)]) hx hb dX4_runIfOrdered_132 hl (by decide) rfl (fun ls hl => ?_)
      refine lv_aload_n hx hb dX4_runIfOrdered_134 rfl (lv_at hl 5 rfl) ?_
      refine lv_iload hx hb dX4_runIfOrdered_135 (lv_at hl 0 rfl) ?_
      refine x_callq (As := [.int (Xsh_slotBelowTop u_1 c_1x 0)]) (rest := []) X hml G hA (xW_sh hc_1) rfl (c_Xsh_rowAt l dC dI kc ad _ u_1 c_1x (Xsh_slotBelowTop u_1 c_1x 0) hc_1) (cwV 1 hts gX4_runIfOrdered_X3_rowAt rfl rfl rfl (by decide +kernel) ⟨Nat.le_of_ble_eq_true rfl, Nat.le_of_ble_eq_true rfl⟩) rfl hl.1 rfl (Nat.le_of_ble_eq_true rfl) dX4_runIfOrdered_137 ⟨Nat.zero_le _, Nat.zero_le _⟩ (fun r_137 u_137 H locs hw_137 G => ?_)
      obtain ⟨_, rfl, rfl, hu_137⟩ := hw_137
      rw [hu_137] at G
      refine x_astoreq (lv' := [(8, va_rf ((Xsh_rowAt u_1 c_1x (Xsh_slotBelowTop u_1 c_1x 0)).map ad)), (7, .int (Xsh_slotBelowTop u_1 c_1x 0)), (6, .int 1), (5, .int r_63), (4, .int (Xsh_slotBelowTop u_1 6 0)), (3, .int (Xsh_slotBelowTop u_1 6 1)), (2, .ref (ad c_1x)), (0, .ref (ad 0)), (1, .int k0)]) hx hb dX4_runIfOrdered_140 hl (by decide) rfl (fun ls hl => ?_)
      refine x_aloadq hx hb dX4_runIfOrdered_142 (lv_at hl 0 rfl) ?_
      refine x_ifnonnull (o := (Xsh_rowAt u_1 c_1x (Xsh_slotBelowTop u_1 c_1x 0))) (tgt := 158) hx hb dX4_runIfOrdered_144 (by decide) (fun n_144x n_144 => ?_) (fun n_144 => ?_)
      · have n_144 := n_144
        have hl : lv_has ls 9 [(8, .ref (ad n_144x)), (7, .int (Xsh_slotBelowTop u_1 c_1x 0)), (6, .int 1), (5, .int r_63), (4, .int (Xsh_slotBelowTop u_1 6 0)), (3, .int (Xsh_slotBelowTop u_1 6 1)), (2, .ref (ad c_1x)), (0, .ref (ad 0)), (1, .int k0)] := by rw [n_144] at hl; exact hl
        refine lv_aload_n hx hb dX4_runIfOrdered_158 rfl (lv_at hl 7 rfl) ?_
        refine x_dget_3 X G hin4 (by decide +kernel) dX4_runIfOrdered_159 ?_
        refine lv_aload hx hb dX4_runIfOrdered_162 (lv_at hl 0 rfl) ?_
        refine lv_aload_n hx hb dX4_runIfOrdered_164 rfl (lv_at hl 6 rfl) ?_
        refine lv_iload hx hb dX4_runIfOrdered_165 (lv_at hl 1 rfl) ?_
        refine x_calli (As := [.int (Xsh_slotBelowTop u_1 c_1x 0)]) (rest := [.ref (ad n_144x), .ref (ad 2)]) X hml G hA (xW_sh hc_1) rfl (c_Xsh_startAt l dC dI kc ad _ u_1 c_1x (Xsh_slotBelowTop u_1 c_1x 0) hc_1) (cwV 1 hts gX4_runIfOrdered_X3_startAt rfl rfl rfl (by decide +kernel) ⟨Nat.le_of_ble_eq_true rfl, Nat.le_of_ble_eq_true rfl⟩) rfl hl.1 rfl (Nat.le_of_ble_eq_true rfl) dX4_runIfOrdered_167 ⟨Nat.zero_le _, Nat.zero_le _⟩ (fun r_167 u_167 H locs hw_167 G => ?_)
        obtain ⟨rfl, hu_167⟩ := hw_167
        rw [hu_167] at G
        refine lv_aload_n hx hb dX4_runIfOrdered_170 rfl (lv_at hl 6 rfl) ?_
        refine lv_iload hx hb dX4_runIfOrdered_171 (lv_at hl 1 rfl) ?_
        refine x_calll (As := [.int (Xsh_slotBelowTop u_1 c_1x 0)]) (rest := [.int (Xsh_startAt u_1 c_1x (Xsh_slotBelowTop u_1 c_1x 0)), .ref (ad n_144x), .ref (ad 2)]) X hml G hA (xW_sh hc_1) rfl (c_Xsh_valueAt l dC dI kc ad _ u_1 c_1x (Xsh_slotBelowTop u_1 c_1x 0) hc_1) (cwV 1 hts gX4_runIfOrdered_X3_valueAt rfl rfl rfl (by decide +kernel) ⟨Nat.le_of_ble_eq_true rfl, Nat.le_of_ble_eq_true rfl⟩) rfl hl.1 rfl (Nat.le_of_ble_eq_true rfl) dX4_runIfOrdered_173 ⟨Nat.zero_le _, Nat.zero_le _⟩ (fun r_173 u_173 H locs hw_173 G => ?_)
        obtain ⟨rfl, hu_173⟩ := hw_173
        rw [hu_173] at G
        refine lv_l2i hx hb dX4_runIfOrdered_176 rfl ?_
        refine y_callv (As := [va_rf (((some n_144x)).map ad), .int (Xsh_startAt u_1 c_1x (Xsh_slotBelowTop u_1 c_1x 0)), .int ((Xsh_valueAt u_1 c_1x (Xsh_slotBelowTop u_1 c_1x 0)).toInt32)]) (rest := []) X hml G hA hEx hlocks xW_nest rfl (c_Xnest_enterMacro l hl9 dC dI kc ad _ u_1 ((some n_144x)) (Xsh_startAt u_1 c_1x (Xsh_slotBelowTop u_1 c_1x 0)) ((Xsh_valueAt u_1 c_1x (Xsh_slotBelowTop u_1 c_1x 0)).toInt32) hv_1 (fun n hn => by cases hn; exact rowAt_v hv_1 _ n_144)) (cwV 3 hts gX4_runIfOrdered_X1_enterMacro rfl rfl rfl (by decide +kernel) ⟨Nat.le_of_ble_eq_true rfl, Nat.le_of_ble_eq_true rfl⟩) rfl hl.1 rfl (Nat.le_of_ble_eq_true rfl) dX4_runIfOrdered_177 ⟨Nat.le_of_ble_eq_true rfl, Nat.le_of_ble_eq_true rfl⟩ (fun E u9 hw_177 => (by unfold Xdesk_runIfOrdered; first | simp only [Option.getD_some, hw_1, hw_7, hw_63, eq_true c_71, eq_false c_76, hw_124, n_144, hw_177, ↓reduceIte] | rfl)) (fun u_177 H locs hw_177 G => ?_)
        have hv_177 : xWF u_177 := enterMacro_wf hv_1 (fun n hn => by cases hn; exact rowAt_v hv_1 _ n_144) hw_177
        refine lv_aload_n hx hb dX4_runIfOrdered_180 rfl (lv_at hl 7 rfl) ?_
        refine x_dget_0 X G hin4 (by decide +kernel) dX4_runIfOrdered_181 ?_
        refine lv_iconst (v := 2) hx hb dX4_runIfOrdered_184 (by decide) ?_
        refine x_callv (As := [.int 2]) (rest := []) X hml G hA (xW_sh (by decide)) rfl (c_Xsh_drop l dC dI kc ad _ u_177 6 2 (by decide)) (cwV 1 hts gX4_runIfOrdered_X3_drop rfl rfl rfl (by decide +kernel) ⟨Nat.le_of_ble_eq_true rfl, Nat.le_of_ble_eq_true rfl⟩) rfl hl.1 rfl (Nat.le_of_ble_eq_true rfl) dX4_runIfOrdered_185 ⟨Nat.zero_le _, Nat.zero_le _⟩ (fun u_185 H locs hw_185 G => ?_)
        have hv_185 : xWF u_185 := by have h9 : xWF (Xsh_drop u_177 6 2) := drop_wf hv_177; rw [hw_185] at h9; exact h9
        exact xq_ret (x_vret X G hr hlocks (by unfold Xdesk_runIfOrdered; first | simp only [Option.getD_some, hw_1, hw_7, hw_63, eq_true c_71, eq_false c_76, hw_124, n_144, hw_177, hw_185, ↓reduceIte] | rfl) dX4_runIfOrdered_188)
      · have n_144 := n_144
        obtain ⟨sa, hstr⟩ := zstr hz (own := RX4) (k := 259) (text := "a text is wanted and the item is a number") (by decide +kernel)
        exact xq_thr (vx_throwSW (own := RX4) (cls := "java/lang/IndexOutOfBoundsException") (text := "a text is wanted and the item is a number") (names := ["java/lang/RuntimeException", "java/lang/Exception"]) hx hb hl9 hown (by decide +kernel) (by decide +kernel) (hts (.classLink RX4 177 "java/lang/IndexOutOfBoundsException") (by decide +kernel)) (hts (.initialized "java/lang/IndexOutOfBoundsException") (by decide +kernel)) hstr (zhat hz hts (by decide +kernel) (fun w hw => List.mem_cons_of_mem _ (List.mem_append_left _ (List.mem_append_left _ (List.mem_append_left _ (List.mem_append_left _ (List.mem_append_right _ hw)))))) (by decide +kernel)) (by decide +kernel) hz.2.1 hz.2.2.1 G.2.2 (hl.1.trans hml.symm) dX4_runIfOrdered_147 dX4_runIfOrdered_150 dX4_runIfOrdered_151 dX4_runIfOrdered_154 dX4_runIfOrdered_157 (fun x hx => (hEx x hx).elim) (Nat.le_of_ble_eq_true rfl) (Nat.le_of_ble_eq_true rfl) (Nat.le_of_ble_eq_true rfl) (Nat.le_of_ble_eq_true rfl) hlocks (fun t ha hsz hk => ⟨u_1, trivial, ⟨(by unfold Xdesk_runIfOrdered; first | simp only [Option.getD_some, hw_1, hw_7, hw_63, eq_true c_71, eq_false c_76, hw_124, n_144, ↓reduceIte] | rfl), (y_kept X G ha hsz hk).1⟩, (y_kept X G ha hsz hk).2⟩) G.2.2.2.2 (Nat.le_of_ble_eq_true rfl) (Nat.le_of_ble_eq_true rfl))
def Xdesk_calculate (σ : XS) (k0 : Int32) : (String × XS) ⊕ XS := (match Xdesk_needNumbers σ 2 with | .inl e9 => .inl e9 | .inr u2 => if k0 = 42 then ((match D_times (Xsh_valueAt σ 6 (Xsh_slotBelowTop σ 6 1)) (Xsh_valueAt σ 6 (Xsh_slotBelowTop σ 6 0)) with | .inl e9 => .inl (e9, σ) | .inr r181 => (match D_cutOff r181 (((Xsh_placesAt σ 6 (Xsh_slotBelowTop σ 6 1)) + (Xsh_placesAt σ 6 (Xsh_slotBelowTop σ 6 0))) - (if (if (σ.1 0) < (if (Xsh_placesAt σ 6 (Xsh_slotBelowTop σ 6 1)) < (Xsh_placesAt σ 6 (Xsh_slotBelowTop σ 6 0)) then (Xsh_placesAt σ 6 (Xsh_slotBelowTop σ 6 0)) else (Xsh_placesAt σ 6 (Xsh_slotBelowTop σ 6 1))) then (if (Xsh_placesAt σ 6 (Xsh_slotBelowTop σ 6 1)) < (Xsh_placesAt σ 6 (Xsh_slotBelowTop σ 6 0)) then (Xsh_placesAt σ 6 (Xsh_slotBelowTop σ 6 0)) else (Xsh_placesAt σ 6 (Xsh_slotBelowTop σ 6 1))) else (σ.1 0)) < ((Xsh_placesAt σ 6 (Xsh_slotBelowTop σ 6 1)) + (Xsh_placesAt σ 6 (Xsh_slotBelowTop σ 6 0))) then (if (σ.1 0) < (if (Xsh_placesAt σ 6 (Xsh_slotBelowTop σ 6 1)) < (Xsh_placesAt σ 6 (Xsh_slotBelowTop σ 6 0)) then (Xsh_placesAt σ 6 (Xsh_slotBelowTop σ 6 0)) else (Xsh_placesAt σ 6 (Xsh_slotBelowTop σ 6 1))) then (if (Xsh_placesAt σ 6 (Xsh_slotBelowTop σ 6 1)) < (Xsh_placesAt σ 6 (Xsh_slotBelowTop σ 6 0)) then (Xsh_placesAt σ 6 (Xsh_slotBelowTop σ 6 0)) else (Xsh_placesAt σ 6 (Xsh_slotBelowTop σ 6 1))) else (σ.1 0)) else ((Xsh_placesAt σ 6 (Xsh_slotBelowTop σ 6 1)) + (Xsh_placesAt σ 6 (Xsh_slotBelowTop σ 6 0))))) with | .inl e9 => .inl (e9, σ) | .inr r192 => let q_260 := Xsh_drop σ 6 2; (match Xsh_putNumber q_260 6 r192 (if (if (σ.1 0) < (if (Xsh_placesAt σ 6 (Xsh_slotBelowTop σ 6 1)) < (Xsh_placesAt σ 6 (Xsh_slotBelowTop σ 6 0)) then (Xsh_placesAt σ 6 (Xsh_slotBelowTop σ 6 0)) else (Xsh_placesAt σ 6 (Xsh_slotBelowTop σ 6 1))) then (if (Xsh_placesAt σ 6 (Xsh_slotBelowTop σ 6 1)) < (Xsh_placesAt σ 6 (Xsh_slotBelowTop σ 6 0)) then (Xsh_placesAt σ 6 (Xsh_slotBelowTop σ 6 0)) else (Xsh_placesAt σ 6 (Xsh_slotBelowTop σ 6 1))) else (σ.1 0)) < ((Xsh_placesAt σ 6 (Xsh_slotBelowTop σ 6 1)) + (Xsh_placesAt σ 6 (Xsh_slotBelowTop σ 6 0))) then (if (σ.1 0) < (if (Xsh_placesAt σ 6 (Xsh_slotBelowTop σ 6 1)) < (Xsh_placesAt σ 6 (Xsh_slotBelowTop σ 6 0)) then (Xsh_placesAt σ 6 (Xsh_slotBelowTop σ 6 0)) else (Xsh_placesAt σ 6 (Xsh_slotBelowTop σ 6 1))) then (if (Xsh_placesAt σ 6 (Xsh_slotBelowTop σ 6 1)) < (Xsh_placesAt σ 6 (Xsh_slotBelowTop σ 6 0)) then (Xsh_placesAt σ 6 (Xsh_slotBelowTop σ 6 0)) else (Xsh_placesAt σ 6 (Xsh_slotBelowTop σ 6 1))) else (σ.1 0)) else ((Xsh_placesAt σ 6 (Xsh_slotBelowTop σ 6 1)) + (Xsh_placesAt σ 6 (Xsh_slotBelowTop σ 6 0)))) with | .inl e9 => .inl e9 | .inr u271 => .inr u271)))) else if k0 = 43 then ((match D_sum (Xsh_valueAt σ 6 (Xsh_slotBelowTop σ 6 1)) (Xsh_placesAt σ 6 (Xsh_slotBelowTop σ 6 1)) (Xsh_valueAt σ 6 (Xsh_slotBelowTop σ 6 0)) (Xsh_placesAt σ 6 (Xsh_slotBelowTop σ 6 0)) with | .inl e9 => .inl (e9, σ) | .inr r131 => let q_260 := Xsh_drop σ 6 2; (match Xsh_putNumber q_260 6 r131 (if (Xsh_placesAt σ 6 (Xsh_slotBelowTop σ 6 1)) < (Xsh_placesAt σ 6 (Xsh_slotBelowTop σ 6 0)) then (Xsh_placesAt σ 6 (Xsh_slotBelowTop σ 6 0)) else (Xsh_placesAt σ 6 (Xsh_slotBelowTop σ 6 1))) with | .inl e9 => .inl e9 | .inr u271 => .inr u271))) else if k0 = 44 then ((match D_remainder (Xsh_valueAt σ 6 (Xsh_slotBelowTop σ 6 1)) (Xsh_placesAt σ 6 (Xsh_slotBelowTop σ 6 1)) (Xsh_valueAt σ 6 (Xsh_slotBelowTop σ 6 0)) (Xsh_placesAt σ 6 (Xsh_slotBelowTop σ 6 0)) (σ.1 0) with | .inl e9 => .inl (e9, σ) | .inr r250 => let q_260 := Xsh_drop σ 6 2; (match Xsh_putNumber q_260 6 r250 (if ((σ.1 0) + (Xsh_placesAt σ 6 (Xsh_slotBelowTop σ 6 0))) < (Xsh_placesAt σ 6 (Xsh_slotBelowTop σ 6 1)) then (Xsh_placesAt σ 6 (Xsh_slotBelowTop σ 6 1)) else ((σ.1 0) + (Xsh_placesAt σ 6 (Xsh_slotBelowTop σ 6 0)))) with | .inl e9 => .inl e9 | .inr u271 => .inr u271))) else if k0 = 45 then ((match D_sum (Xsh_valueAt σ 6 (Xsh_slotBelowTop σ 6 1)) (Xsh_placesAt σ 6 (Xsh_slotBelowTop σ 6 1)) (-(Xsh_valueAt σ 6 (Xsh_slotBelowTop σ 6 0))) (Xsh_placesAt σ 6 (Xsh_slotBelowTop σ 6 0)) with | .inl e9 => .inl (e9, σ) | .inr r151 => let q_260 := Xsh_drop σ 6 2; (match Xsh_putNumber q_260 6 r151 (if (Xsh_placesAt σ 6 (Xsh_slotBelowTop σ 6 1)) < (Xsh_placesAt σ 6 (Xsh_slotBelowTop σ 6 0)) then (Xsh_placesAt σ 6 (Xsh_slotBelowTop σ 6 0)) else (Xsh_placesAt σ 6 (Xsh_slotBelowTop σ 6 1))) with | .inl e9 => .inl e9 | .inr u271 => .inr u271))) else if k0 = 46 then ((match D_remainder (Xsh_valueAt σ 6 (Xsh_slotBelowTop σ 6 1)) (Xsh_placesAt σ 6 (Xsh_slotBelowTop σ 6 1)) (Xsh_valueAt σ 6 (Xsh_slotBelowTop σ 6 0)) (Xsh_placesAt σ 6 (Xsh_slotBelowTop σ 6 0)) (σ.1 0) with | .inl e9 => .inl (e9, σ) | .inr r250 => let q_260 := Xsh_drop σ 6 2; (match Xsh_putNumber q_260 6 r250 (if ((σ.1 0) + (Xsh_placesAt σ 6 (Xsh_slotBelowTop σ 6 0))) < (Xsh_placesAt σ 6 (Xsh_slotBelowTop σ 6 1)) then (Xsh_placesAt σ 6 (Xsh_slotBelowTop σ 6 1)) else ((σ.1 0) + (Xsh_placesAt σ 6 (Xsh_slotBelowTop σ 6 0)))) with | .inl e9 => .inl e9 | .inr u271 => .inr u271))) else if k0 = 47 then ((match D_quotient (Xsh_valueAt σ 6 (Xsh_slotBelowTop σ 6 1)) (Xsh_placesAt σ 6 (Xsh_slotBelowTop σ 6 1)) (Xsh_valueAt σ 6 (Xsh_slotBelowTop σ 6 0)) (Xsh_placesAt σ 6 (Xsh_slotBelowTop σ 6 0)) (σ.1 0) with | .inl e9 => .inl (e9, σ) | .inr r217 => let q_260 := Xsh_drop σ 6 2; (match Xsh_putNumber q_260 6 r217 (σ.1 0) with | .inl e9 => .inl e9 | .inr u271 => .inr u271))) else (match D_remainder (Xsh_valueAt σ 6 (Xsh_slotBelowTop σ 6 1)) (Xsh_placesAt σ 6 (Xsh_slotBelowTop σ 6 1)) (Xsh_valueAt σ 6 (Xsh_slotBelowTop σ 6 0)) (Xsh_placesAt σ 6 (Xsh_slotBelowTop σ 6 0)) (σ.1 0) with | .inl e9 => .inl (e9, σ) | .inr r250 => let q_260 := Xsh_drop σ 6 2; (match Xsh_putNumber q_260 6 r250 (if ((σ.1 0) + (Xsh_placesAt σ 6 (Xsh_slotBelowTop σ 6 0))) < (Xsh_placesAt σ 6 (Xsh_slotBelowTop σ 6 1)) then (Xsh_placesAt σ 6 (Xsh_slotBelowTop σ 6 1)) else ((σ.1 0) + (Xsh_placesAt σ 6 (Xsh_slotBelowTop σ 6 0)))) with | .inl e9 => .inl e9 | .inr u271 => .inr u271)))
set_option maxHeartbeats 4000000 in
set_option maxRecDepth 100000 in
theorem c_Xdesk_calculate (l : Launch) (hl9 : l.stackTraces = false) (dC : Nat → ClassId) (dI : Nat → Nat → Nat) (kc : Nat → ClassId) (ad : Nat → Nat) (sz : Nat) (σ : XS) (k0 : Int32) (hrv : xWF σ) : xq_Met l yX4_calculate wsX4_calculate ({ frames := 10, cells := 1, slots := 6, locals := 186 } : Room) (va_Pc [.ref (ad 0), .int k0] (xPre dC dI kc ad sz σ)) (va_Qv (fun u => Xdesk_calculate σ k0 = .inr u) (xAt dC dI kc ad (xA kc ad σ sz)) (xA kc ad σ sz)) (xE (Xdesk_calculate σ k0) dC dI kc ad (xA kc ad σ sz)) 0 0 1 6 (xA kc ad σ sz) := by
  refine y_ofW (cc := cX4_calculate) (maxL := 12) (ret := none) (by decide) rfl rfl (Nat.le_of_ble_eq_true rfl) ?_
  intro p e s m below meth c X G hA hr hlocks hml hEx ls hl
  have hl : lv_has ls 12 [(0, .ref (ad 0)), (1, .int k0)] := hl
  have hx := X.1
  have hb := X.2.1
  have hts := X.2.2.1
  have hown := X.2.2.2.1
  have hz := X.2.2.2.2.2
  have hin3 : ∀ w ∈ wsX30, w ∈ wsX4_calculate := (fun w hw => List.mem_cons_of_mem _ (List.mem_append_left _ (List.mem_append_left _ (List.mem_append_left _ (List.mem_append_left _ (List.mem_append_left _ (List.mem_append_right _ hw)))))))
  have hin4 : ∀ w ∈ wsX40, w ∈ wsX4_calculate := (fun w hw => List.mem_cons_of_mem _ (List.mem_append_left _ (List.mem_append_left _ (List.mem_append_left _ (List.mem_append_left _ (List.mem_append_left _ (List.mem_append_left _ (List.mem_append_right _ hw))))))))
  refine lv_aload_n hx hb dX4_calculate_0 rfl (lv_at hl 0 rfl) ?_
  refine lv_iconst (v := 2) hx hb dX4_calculate_1 (by decide) ?_
  refine y_callv (As := [.int 2]) (rest := []) X hml G hA hEx hlocks xW_desk rfl (c_Xdesk_needNumbers l hl9 dC dI kc ad _ σ 2 (by decide) (by decide)) (cwV 1 hts gX4_calculate_X4_needNumbers rfl rfl rfl (by decide +kernel) ⟨Nat.le_of_ble_eq_true rfl, Nat.le_of_ble_eq_true rfl⟩) rfl hl.1 rfl (Nat.le_of_ble_eq_true rfl) dX4_calculate_2 ⟨Nat.le_of_ble_eq_true rfl, Nat.le_of_ble_eq_true rfl⟩ (fun E u9 hw_2 => (by unfold Xdesk_calculate; first | simp only [hw_2, ↓reduceIte] | rfl)) (fun u_2 H locs hw_2 G => ?_)
  have hs_2 := needNumbers_s hw_2
  subst hs_2
  refine lv_aload_n hx hb dX4_calculate_5 rfl (lv_at hl 0 rfl) ?_
  refine x_dget_0 X G hin4 (by decide +kernel) dX4_calculate_6 ?_
  refine lv_aload_n hx hb dX4_calculate_9 rfl (lv_at hl 0 rfl) ?_
  refine x_dget_0 X G hin4 (by decide +kernel) dX4_calculate_10 ?_
  refine lv_iconst (v := 1) hx hb dX4_calculate_13 (by decide) ?_
  refine x_calli (As := [.int 1]) (rest := [.ref (ad 6)]) X hml G hA (xW_sh (by decide)) rfl (c_Xsh_slotBelowTop l dC dI kc ad _ σ 6 1 (by decide)) (cwV 1 hts gX4_calculate_X3_slotBelowTop rfl rfl rfl (by decide +kernel) ⟨Nat.le_of_ble_eq_true rfl, Nat.le_of_ble_eq_true rfl⟩) rfl hl.1 rfl (Nat.le_of_ble_eq_true rfl) dX4_calculate_14 ⟨Nat.zero_le _, Nat.zero_le _⟩ (fun r_14 u_14 H locs hw_14 G => ?_)
  obtain ⟨rfl, hu_14⟩ := hw_14
  rw [hu_14] at G
  refine x_calll (As := [.int (Xsh_slotBelowTop σ 6 1)]) (rest := []) X hml G hA (xW_sh (by decide)) rfl (c_Xsh_valueAt l dC dI kc ad _ σ 6 (Xsh_slotBelowTop σ 6 1) (by decide)) (cwV 1 hts gX4_calculate_X3_valueAt rfl rfl rfl (by decide +kernel) ⟨Nat.le_of_ble_eq_true rfl, Nat.le_of_ble_eq_true rfl⟩) rfl hl.1 rfl (Nat.le_of_ble_eq_true rfl) dX4_calculate_17 ⟨Nat.zero_le _, Nat.zero_le _⟩ (fun r_17 u_17 H locs hw_17 G => ?_)
  obtain ⟨rfl, hu_17⟩ := hw_17
  rw [hu_17] at G
  refine lv_lstore_n (lv' := [(2, .long (Xsh_valueAt σ 6 (Xsh_slotBelowTop σ 6 1))), (0, .ref (ad 0)), (1, .int k0)]) hx hb dX4_calculate_20 rfl hl (by decide) rfl (fun ls hl => ?_)
  refine lv_aload_n hx hb dX4_calculate_21 rfl (lv_at hl 1 rfl) ?_
  refine x_dget_0 X G hin4 (by decide +kernel) dX4_calculate_22 ?_
  refine lv_aload_n hx hb dX4_calculate_25 rfl (lv_at hl 1 rfl) ?_
  refine x_dget_0 X G hin4 (by decide +kernel) dX4_calculate_26 ?_
  refine lv_iconst (v := 1) hx hb dX4_calculate_29 (by decide) ?_
  refine x_calli (As := [.int 1]) (rest := [.ref (ad 6)]) X hml G hA (xW_sh (by decide)) rfl (c_Xsh_slotBelowTop l dC dI kc ad _ σ 6 1 (by decide)) (cwV 1 hts gX4_calculate_X3_slotBelowTop rfl rfl rfl (by decide +kernel) ⟨Nat.le_of_ble_eq_true rfl, Nat.le_of_ble_eq_true rfl⟩) rfl hl.1 rfl (Nat.le_of_ble_eq_true rfl) dX4_calculate_30 ⟨Nat.zero_le _, Nat.zero_le _⟩ (fun r_30 u_30 H locs hw_30 G => ?_)
  obtain ⟨rfl, hu_30⟩ := hw_30
  rw [hu_30] at G
  refine x_calli (As := [.int (Xsh_slotBelowTop σ 6 1)]) (rest := []) X hml G hA (xW_sh (by decide)) rfl (c_Xsh_placesAt l dC dI kc ad _ σ 6 (Xsh_slotBelowTop σ 6 1) (by decide)) (cwV 1 hts gX4_calculate_X3_placesAt rfl rfl rfl (by decide +kernel) ⟨Nat.le_of_ble_eq_true rfl, Nat.le_of_ble_eq_true rfl⟩) rfl hl.1 rfl (Nat.le_of_ble_eq_true rfl) dX4_calculate_33 ⟨Nat.zero_le _, Nat.zero_le _⟩ (fun r_33 u_33 H locs hw_33 G => ?_)
  obtain ⟨rfl, hu_33⟩ := hw_33
  rw [hu_33] at G
  refine lv_istore (lv' := [(4, .int (Xsh_placesAt σ 6 (Xsh_slotBelowTop σ 6 1))), (2, .long (Xsh_valueAt σ 6 (Xsh_slotBelowTop σ 6 1))), (0, .ref (ad 0)), (1, .int k0)]) hx hb dX4_calculate_36 hl (by decide) rfl (fun ls hl => ?_)
  refine lv_aload_n hx hb dX4_calculate_38 rfl (lv_at hl 2 rfl) ?_
  refine x_dget_0 X G hin4 (by decide +kernel) dX4_calculate_39 ?_
  refine lv_aload_n hx hb dX4_calculate_42 rfl (lv_at hl 2 rfl) ?_
  refine x_dget_0 X G hin4 (by decide +kernel) dX4_calculate_43 ?_
  refine lv_iconst (v := 0) hx hb dX4_calculate_46 (by decide) ?_
  refine x_calli (As := [.int 0]) (rest := [.ref (ad 6)]) X hml G hA (xW_sh (by decide)) rfl (c_Xsh_slotBelowTop l dC dI kc ad _ σ 6 0 (by decide)) (cwV 1 hts gX4_calculate_X3_slotBelowTop rfl rfl rfl (by decide +kernel) ⟨Nat.le_of_ble_eq_true rfl, Nat.le_of_ble_eq_true rfl⟩) rfl hl.1 rfl (Nat.le_of_ble_eq_true rfl) dX4_calculate_47 ⟨Nat.zero_le _, Nat.zero_le _⟩ (fun r_47 u_47 H locs hw_47 G => ?_)
  obtain ⟨rfl, hu_47⟩ := hw_47
  rw [hu_47] at G
  refine x_calll (As := [.int (Xsh_slotBelowTop σ 6 0)]) (rest := []) X hml G hA (xW_sh (by decide)) rfl (c_Xsh_valueAt l dC dI kc ad _ σ 6 (Xsh_slotBelowTop σ 6 0) (by decide)) (cwV 1 hts gX4_calculate_X3_valueAt rfl rfl rfl (by decide +kernel) ⟨Nat.le_of_ble_eq_true rfl, Nat.le_of_ble_eq_true rfl⟩) rfl hl.1 rfl (Nat.le_of_ble_eq_true rfl) dX4_calculate_50 ⟨Nat.zero_le _, Nat.zero_le _⟩ (fun r_50 u_50 H locs hw_50 G => ?_)
  obtain ⟨rfl, hu_50⟩ := hw_50
  rw [hu_50] at G
  refine lv_lstore (lv' := [(5, .long (Xsh_valueAt σ 6 (Xsh_slotBelowTop σ 6 0))), (4, .int (Xsh_placesAt σ 6 (Xsh_slotBelowTop σ 6 1))), (2, .long (Xsh_valueAt σ 6 (Xsh_slotBelowTop σ 6 1))), (0, .ref (ad 0)), (1, .int k0)]) hx hb dX4_calculate_53 hl (by decide) rfl (fun ls hl => ?_)
  refine lv_aload_n hx hb dX4_calculate_55 rfl (lv_at hl 3 rfl) ?_
  refine x_dget_0 X G hin4 (by decide +kernel) dX4_calculate_56 ?_
  refine lv_aload_n hx hb dX4_calculate_59 rfl (lv_at hl 3 rfl) ?_
  refine x_dget_0 X G hin4 (by decide +kernel) dX4_calculate_60 ?_
  refine lv_iconst (v := 0) hx hb dX4_calculate_63 (by decide) ?_
  refine x_calli (As := [.int 0]) (rest := [.ref (ad 6)]) X hml G hA (xW_sh (by decide)) rfl (c_Xsh_slotBelowTop l dC dI kc ad _ σ 6 0 (by decide)) (cwV 1 hts gX4_calculate_X3_slotBelowTop rfl rfl rfl (by decide +kernel) ⟨Nat.le_of_ble_eq_true rfl, Nat.le_of_ble_eq_true rfl⟩) rfl hl.1 rfl (Nat.le_of_ble_eq_true rfl) dX4_calculate_64 ⟨Nat.zero_le _, Nat.zero_le _⟩ (fun r_64 u_64 H locs hw_64 G => ?_)
  obtain ⟨rfl, hu_64⟩ := hw_64
  rw [hu_64] at G
  refine x_calli (As := [.int (Xsh_slotBelowTop σ 6 0)]) (rest := []) X hml G hA (xW_sh (by decide)) rfl (c_Xsh_placesAt l dC dI kc ad _ σ 6 (Xsh_slotBelowTop σ 6 0) (by decide)) (cwV 1 hts gX4_calculate_X3_placesAt rfl rfl rfl (by decide +kernel) ⟨Nat.le_of_ble_eq_true rfl, Nat.le_of_ble_eq_true rfl⟩) rfl hl.1 rfl (Nat.le_of_ble_eq_true rfl) dX4_calculate_67 ⟨Nat.zero_le _, Nat.zero_le _⟩ (fun r_67 u_67 H locs hw_67 G => ?_)
  obtain ⟨rfl, hu_67⟩ := hw_67
  rw [hu_67] at G
  refine lv_istore (lv' := [(7, .int (Xsh_placesAt σ 6 (Xsh_slotBelowTop σ 6 0))), (5, .long (Xsh_valueAt σ 6 (Xsh_slotBelowTop σ 6 0))), (4, .int (Xsh_placesAt σ 6 (Xsh_slotBelowTop σ 6 1))), (2, .long (Xsh_valueAt σ 6 (Xsh_slotBelowTop σ 6 1))), (0, .ref (ad 0)), (1, .int k0)]) hx hb dX4_calculate_70 hl (by decide) rfl (fun ls hl => ?_)
  refine lv_iload hx hb dX4_calculate_72 (lv_at hl 2 rfl) ?_
  refine lv_iload hx hb dX4_calculate_74 (lv_at hl 0 rfl) ?_
  refine va_mmax (own := RX4) hx hb (hml.trans hl.1.symm) hown (hts (.methodLink RX4 185 Lib.Math.max.name) (by decide +kernel)) (hts (.static Lib.Math.max.name) (by decide +kernel)) (hts (.initialized "java/lang/Math") (by decide +kernel)) (hts (.code Lib.Math.max.name Lib.Math.max.code 2 (some .int)) (by decide +kernel)) (Nat.le_of_ble_eq_true rfl) (Nat.le_of_ble_eq_true rfl) (Nat.le_of_ble_eq_true rfl) (Nat.le_of_ble_eq_true rfl) dX4_calculate_76 ?_
  refine lv_istore (lv' := [(8, .int (if (Xsh_placesAt σ 6 (Xsh_slotBelowTop σ 6 1)) < (Xsh_placesAt σ 6 (Xsh_slotBelowTop σ 6 0)) then (Xsh_placesAt σ 6 (Xsh_slotBelowTop σ 6 0)) else (Xsh_placesAt σ 6 (Xsh_slotBelowTop σ 6 1)))), (7, .int (Xsh_placesAt σ 6 (Xsh_slotBelowTop σ 6 0))), (5, .long (Xsh_valueAt σ 6 (Xsh_slotBelowTop σ 6 0))), (4, .int (Xsh_placesAt σ 6 (Xsh_slotBelowTop σ 6 1))), (2, .long (Xsh_valueAt σ 6 (Xsh_slotBelowTop σ 6 1))), (0, .ref (ad 0)), (1, .int k0)]) hx hb dX4_calculate_79 hl (by decide) rfl (fun ls hl => ?_)
  refine lv_iload_n hx hb dX4_calculate_81 rfl (lv_at hl 6 rfl) ?_
  by_cases s_82_42 : k0 = 42
  · refine lv_tableIn (off := 77) (tgt := 159) hx hb dX4_calculate_82 (by rw [s_82_42]; decide) (by rw [s_82_42]; decide) (by rw [s_82_42]; rfl) (by decide) ?_
    refine lv_iload hx hb dX4_calculate_159 (lv_at hl 3 rfl) ?_
    refine lv_iload hx hb dX4_calculate_161 (lv_at hl 1 rfl) ?_
    refine lv_iadd hx hb dX4_calculate_163 ?_
    refine lv_aload_n hx hb dX4_calculate_164 rfl (lv_at hl 5 rfl) ?_
    refine x_dget_5 X G hin4 (by decide +kernel) dX4_calculate_165 ?_
    refine lv_iload hx hb dX4_calculate_168 (lv_at hl 0 rfl) ?_
    refine va_mmax (own := RX4) hx hb (hml.trans hl.1.symm) hown (hts (.methodLink RX4 185 Lib.Math.max.name) (by decide +kernel)) (hts (.static Lib.Math.max.name) (by decide +kernel)) (hts (.initialized "java/lang/Math") (by decide +kernel)) (hts (.code Lib.Math.max.name Lib.Math.max.code 2 (some .int)) (by decide +kernel)) (Nat.le_of_ble_eq_true rfl) (Nat.le_of_ble_eq_true rfl) (Nat.le_of_ble_eq_true rfl) (Nat.le_of_ble_eq_true rfl) dX4_calculate_170 ?_
    refine va_mmin (own := RX4) hx hb (hml.trans hl.1.symm) hown (hts (.methodLink RX4 197 Lib.Math.min.name) (by decide +kernel)) (hts (.static Lib.Math.min.name) (by decide +kernel)) (hts (.initialized "java/lang/Math") (by decide +kernel)) (hts (.code Lib.Math.min.name Lib.Math.min.code 2 (some .int)) (by decide +kernel)) (Nat.le_of_ble_eq_true rfl) (Nat.le_of_ble_eq_true rfl) (Nat.le_of_ble_eq_true rfl) (Nat.le_of_ble_eq_true rfl) dX4_calculate_173 ?_
    refine lv_istore (lv' := [(11, .int (if (if (σ.1 0) < (if (Xsh_placesAt σ 6 (Xsh_slotBelowTop σ 6 1)) < (Xsh_placesAt σ 6 (Xsh_slotBelowTop σ 6 0)) then (Xsh_placesAt σ 6 (Xsh_slotBelowTop σ 6 0)) else (Xsh_placesAt σ 6 (Xsh_slotBelowTop σ 6 1))) then (if (Xsh_placesAt σ 6 (Xsh_slotBelowTop σ 6 1)) < (Xsh_placesAt σ 6 (Xsh_slotBelowTop σ 6 0)) then (Xsh_placesAt σ 6 (Xsh_slotBelowTop σ 6 0)) else (Xsh_placesAt σ 6 (Xsh_slotBelowTop σ 6 1))) else (σ.1 0)) < ((Xsh_placesAt σ 6 (Xsh_slotBelowTop σ 6 1)) + (Xsh_placesAt σ 6 (Xsh_slotBelowTop σ 6 0))) then (if (σ.1 0) < (if (Xsh_placesAt σ 6 (Xsh_slotBelowTop σ 6 1)) < (Xsh_placesAt σ 6 (Xsh_slotBelowTop σ 6 0)) then (Xsh_placesAt σ 6 (Xsh_slotBelowTop σ 6 0)) else (Xsh_placesAt σ 6 (Xsh_slotBelowTop σ 6 1))) then (if (Xsh_placesAt σ 6 (Xsh_slotBelowTop σ 6 1)) < (Xsh_placesAt σ 6 (Xsh_slotBelowTop σ 6 0)) then (Xsh_placesAt σ 6 (Xsh_slotBelowTop σ 6 0)) else (Xsh_placesAt σ 6 (Xsh_slotBelowTop σ 6 1))) else (σ.1 0)) else ((Xsh_placesAt σ 6 (Xsh_slotBelowTop σ 6 1)) + (Xsh_placesAt σ 6 (Xsh_slotBelowTop σ 6 0))))), (8, .int (if (Xsh_placesAt σ 6 (Xsh_slotBelowTop σ 6 1)) < (Xsh_placesAt σ 6 (Xsh_slotBelowTop σ 6 0)) then (Xsh_placesAt σ 6 (Xsh_slotBelowTop σ 6 0)) else (Xsh_placesAt σ 6 (Xsh_slotBelowTop σ 6 1)))), (7, .int (Xsh_placesAt σ 6 (Xsh_slotBelowTop σ 6 0))), (5, .long (Xsh_valueAt σ 6 (Xsh_slotBelowTop σ 6 0))), (4, .int (Xsh_placesAt σ 6 (Xsh_slotBelowTop σ 6 1))), (2, .long (Xsh_valueAt σ 6 (Xsh_slotBelowTop σ 6 1))), (0, .ref (ad 0)), (1, .int k0)]) hx hb dX4_calculate_176 hl (by decide) rfl (fun ls hl => ?_)
    refine lv_lload_n hx hb dX4_calculate_178 rfl (lv_at hl 5 rfl) ?_
    refine lv_lload hx hb dX4_calculate_179 (lv_at hl 3 rfl) ?_
    refine y_callDl (As := [.long (Xsh_valueAt σ 6 (Xsh_slotBelowTop σ 6 1)), .long (Xsh_valueAt σ 6 (Xsh_slotBelowTop σ 6 0))]) (rest := []) X hml G hA hEx hlocks (c_D_times l hl9 _ (Xsh_valueAt σ 6 (Xsh_slotBelowTop σ 6 1)) (Xsh_valueAt σ 6 (Xsh_slotBelowTop σ 6 0))) (va_cwS 2 hts gX4_calculate_X0_times rfl rfl rfl (by decide +kernel) ⟨(Nat.le_of_ble_eq_true rfl), (Nat.le_of_ble_eq_true rfl)⟩) rfl hl.1 rfl (Nat.le_of_ble_eq_true rfl) dX4_calculate_181 ⟨(Nat.le_of_ble_eq_true rfl), (Nat.le_of_ble_eq_true rfl)⟩ (fun E hw_181 => (by unfold Xdesk_calculate; first | simp only [hw_2, eq_true s_82_42, hw_181, ↓reduceIte] | rfl)) (fun r_181 H locs hw_181 G => ?_)
    refine lv_iload hx hb dX4_calculate_184 (lv_at hl 4 rfl) ?_
    refine lv_iload hx hb dX4_calculate_186 (lv_at hl 2 rfl) ?_
    refine lv_iadd hx hb dX4_calculate_188 ?_
    refine lv_iload hx hb dX4_calculate_189 (lv_at hl 0 rfl) ?_
    refine lv_isub hx hb dX4_calculate_191 ?_
    refine y_callDl (As := [.long r_181, .int (((Xsh_placesAt σ 6 (Xsh_slotBelowTop σ 6 1)) + (Xsh_placesAt σ 6 (Xsh_slotBelowTop σ 6 0))) - (if (if (σ.1 0) < (if (Xsh_placesAt σ 6 (Xsh_slotBelowTop σ 6 1)) < (Xsh_placesAt σ 6 (Xsh_slotBelowTop σ 6 0)) then (Xsh_placesAt σ 6 (Xsh_slotBelowTop σ 6 0)) else (Xsh_placesAt σ 6 (Xsh_slotBelowTop σ 6 1))) then (if (Xsh_placesAt σ 6 (Xsh_slotBelowTop σ 6 1)) < (Xsh_placesAt σ 6 (Xsh_slotBelowTop σ 6 0)) then (Xsh_placesAt σ 6 (Xsh_slotBelowTop σ 6 0)) else (Xsh_placesAt σ 6 (Xsh_slotBelowTop σ 6 1))) else (σ.1 0)) < ((Xsh_placesAt σ 6 (Xsh_slotBelowTop σ 6 1)) + (Xsh_placesAt σ 6 (Xsh_slotBelowTop σ 6 0))) then (if (σ.1 0) < (if (Xsh_placesAt σ 6 (Xsh_slotBelowTop σ 6 1)) < (Xsh_placesAt σ 6 (Xsh_slotBelowTop σ 6 0)) then (Xsh_placesAt σ 6 (Xsh_slotBelowTop σ 6 0)) else (Xsh_placesAt σ 6 (Xsh_slotBelowTop σ 6 1))) then (if (Xsh_placesAt σ 6 (Xsh_slotBelowTop σ 6 1)) < (Xsh_placesAt σ 6 (Xsh_slotBelowTop σ 6 0)) then (Xsh_placesAt σ 6 (Xsh_slotBelowTop σ 6 0)) else (Xsh_placesAt σ 6 (Xsh_slotBelowTop σ 6 1))) else (σ.1 0)) else ((Xsh_placesAt σ 6 (Xsh_slotBelowTop σ 6 1)) + (Xsh_placesAt σ 6 (Xsh_slotBelowTop σ 6 0)))))]) (rest := []) X hml G hA hEx hlocks (c_D_cutOff l hl9 _ r_181 (((Xsh_placesAt σ 6 (Xsh_slotBelowTop σ 6 1)) + (Xsh_placesAt σ 6 (Xsh_slotBelowTop σ 6 0))) - (if (if (σ.1 0) < (if (Xsh_placesAt σ 6 (Xsh_slotBelowTop σ 6 1)) < (Xsh_placesAt σ 6 (Xsh_slotBelowTop σ 6 0)) then (Xsh_placesAt σ 6 (Xsh_slotBelowTop σ 6 0)) else (Xsh_placesAt σ 6 (Xsh_slotBelowTop σ 6 1))) then (if (Xsh_placesAt σ 6 (Xsh_slotBelowTop σ 6 1)) < (Xsh_placesAt σ 6 (Xsh_slotBelowTop σ 6 0)) then (Xsh_placesAt σ 6 (Xsh_slotBelowTop σ 6 0)) else (Xsh_placesAt σ 6 (Xsh_slotBelowTop σ 6 1))) else (σ.1 0)) < ((Xsh_placesAt σ 6 (Xsh_slotBelowTop σ 6 1)) + (Xsh_placesAt σ 6 (Xsh_slotBelowTop σ 6 0))) then (if (σ.1 0) < (if (Xsh_placesAt σ 6 (Xsh_slotBelowTop σ 6 1)) < (Xsh_placesAt σ 6 (Xsh_slotBelowTop σ 6 0)) then (Xsh_placesAt σ 6 (Xsh_slotBelowTop σ 6 0)) else (Xsh_placesAt σ 6 (Xsh_slotBelowTop σ 6 1))) then (if (Xsh_placesAt σ 6 (Xsh_slotBelowTop σ 6 1)) < (Xsh_placesAt σ 6 (Xsh_slotBelowTop σ 6 0)) then (Xsh_placesAt σ 6 (Xsh_slotBelowTop σ 6 0)) else (Xsh_placesAt σ 6 (Xsh_slotBelowTop σ 6 1))) else (σ.1 0)) else ((Xsh_placesAt σ 6 (Xsh_slotBelowTop σ 6 1)) + (Xsh_placesAt σ 6 (Xsh_slotBelowTop σ 6 0)))))) (va_cwS 2 hts gX4_calculate_X0_cutOff rfl rfl rfl (by decide +kernel) ⟨(Nat.le_of_ble_eq_true rfl), (Nat.le_of_ble_eq_true rfl)⟩) rfl hl.1 rfl (Nat.le_of_ble_eq_true rfl) dX4_calculate_192 ⟨(Nat.le_of_ble_eq_true rfl), (Nat.le_of_ble_eq_true rfl)⟩ (fun E hw_192 => (by unfold Xdesk_calculate; first | simp only [hw_2, eq_true s_82_42, hw_181, hw_192, ↓reduceIte] | rfl)) (fun r_192 H locs hw_192 G => ?_)
    refine lv_lstore (lv' := [(9, .long r_192), (11, .int (if (if (σ.1 0) < (if (Xsh_placesAt σ 6 (Xsh_slotBelowTop σ 6 1)) < (Xsh_placesAt σ 6 (Xsh_slotBelowTop σ 6 0)) then (Xsh_placesAt σ 6 (Xsh_slotBelowTop σ 6 0)) else (Xsh_placesAt σ 6 (Xsh_slotBelowTop σ 6 1))) then (if (Xsh_placesAt σ 6 (Xsh_slotBelowTop σ 6 1)) < (Xsh_placesAt σ 6 (Xsh_slotBelowTop σ 6 0)) then (Xsh_placesAt σ 6 (Xsh_slotBelowTop σ 6 0)) else (Xsh_placesAt σ 6 (Xsh_slotBelowTop σ 6 1))) else (σ.1 0)) < ((Xsh_placesAt σ 6 (Xsh_slotBelowTop σ 6 1)) + (Xsh_placesAt σ 6 (Xsh_slotBelowTop σ 6 0))) then (if (σ.1 0) < (if (Xsh_placesAt σ 6 (Xsh_slotBelowTop σ 6 1)) < (Xsh_placesAt σ 6 (Xsh_slotBelowTop σ 6 0)) then (Xsh_placesAt σ 6 (Xsh_slotBelowTop σ 6 0)) else (Xsh_placesAt σ 6 (Xsh_slotBelowTop σ 6 1))) then (if (Xsh_placesAt σ 6 (Xsh_slotBelowTop σ 6 1)) < (Xsh_placesAt σ 6 (Xsh_slotBelowTop σ 6 0)) then (Xsh_placesAt σ 6 (Xsh_slotBelowTop σ 6 0)) else (Xsh_placesAt σ 6 (Xsh_slotBelowTop σ 6 1))) else (σ.1 0)) else ((Xsh_placesAt σ 6 (Xsh_slotBelowTop σ 6 1)) + (Xsh_placesAt σ 6 (Xsh_slotBelowTop σ 6 0))))), (8, .int (if (Xsh_placesAt σ 6 (Xsh_slotBelowTop σ 6 1)) < (Xsh_placesAt σ 6 (Xsh_slotBelowTop σ 6 0)) then (Xsh_placesAt σ 6 (Xsh_slotBelowTop σ 6 0)) else (Xsh_placesAt σ 6 (Xsh_slotBelowTop σ 6 1)))), (7, .int (Xsh_placesAt σ 6 (Xsh_slotBelowTop σ 6 0))), (5, .long (Xsh_valueAt σ 6 (Xsh_slotBelowTop σ 6 0))), (4, .int (Xsh_placesAt σ 6 (Xsh_slotBelowTop σ 6 1))), (2, .long (Xsh_valueAt σ 6 (Xsh_slotBelowTop σ 6 1))), (0, .ref (ad 0)), (1, .int k0)]) hx hb dX4_calculate_195 hl (by decide) rfl (fun ls hl => ?_)
    refine lv_goto (tgt := 255) hx hb dX4_calculate_197 (by decide) ?_
    refine lv_aload_n hx hb dX4_calculate_255 rfl (lv_at hl 7 rfl) ?_
    refine x_dget_0 X G hin4 (by decide +kernel) dX4_calculate_256 ?_
    refine lv_iconst (v := 2) hx hb dX4_calculate_259 (by decide) ?_
    refine x_callv (As := [.int 2]) (rest := []) X hml G hA (xW_sh (by decide)) rfl (c_Xsh_drop l dC dI kc ad _ σ 6 2 (by decide)) (cwV 1 hts gX4_calculate_X3_drop rfl rfl rfl (by decide +kernel) ⟨Nat.le_of_ble_eq_true rfl, Nat.le_of_ble_eq_true rfl⟩) rfl hl.1 rfl (Nat.le_of_ble_eq_true rfl) dX4_calculate_260 ⟨Nat.zero_le _, Nat.zero_le _⟩ (fun u_260 H locs hw_260 G => ?_)
    have hv_260 : xWF u_260 := by have h9 : xWF (Xsh_drop σ 6 2) := drop_wf hrv; rw [hw_260] at h9; exact h9
    refine lv_aload_n hx hb dX4_calculate_263 rfl (lv_at hl 7 rfl) ?_
    refine x_dget_0 X G hin4 (by decide +kernel) dX4_calculate_264 ?_
    refine lv_lload hx hb dX4_calculate_267 (lv_at hl 0 rfl) ?_
    refine lv_iload hx hb dX4_calculate_269 (lv_at hl 1 rfl) ?_
    refine y_callv (As := [.long r_192, .int (if (if (σ.1 0) < (if (Xsh_placesAt σ 6 (Xsh_slotBelowTop σ 6 1)) < (Xsh_placesAt σ 6 (Xsh_slotBelowTop σ 6 0)) then (Xsh_placesAt σ 6 (Xsh_slotBelowTop σ 6 0)) else (Xsh_placesAt σ 6 (Xsh_slotBelowTop σ 6 1))) then (if (Xsh_placesAt σ 6 (Xsh_slotBelowTop σ 6 1)) < (Xsh_placesAt σ 6 (Xsh_slotBelowTop σ 6 0)) then (Xsh_placesAt σ 6 (Xsh_slotBelowTop σ 6 0)) else (Xsh_placesAt σ 6 (Xsh_slotBelowTop σ 6 1))) else (σ.1 0)) < ((Xsh_placesAt σ 6 (Xsh_slotBelowTop σ 6 1)) + (Xsh_placesAt σ 6 (Xsh_slotBelowTop σ 6 0))) then (if (σ.1 0) < (if (Xsh_placesAt σ 6 (Xsh_slotBelowTop σ 6 1)) < (Xsh_placesAt σ 6 (Xsh_slotBelowTop σ 6 0)) then (Xsh_placesAt σ 6 (Xsh_slotBelowTop σ 6 0)) else (Xsh_placesAt σ 6 (Xsh_slotBelowTop σ 6 1))) then (if (Xsh_placesAt σ 6 (Xsh_slotBelowTop σ 6 1)) < (Xsh_placesAt σ 6 (Xsh_slotBelowTop σ 6 0)) then (Xsh_placesAt σ 6 (Xsh_slotBelowTop σ 6 0)) else (Xsh_placesAt σ 6 (Xsh_slotBelowTop σ 6 1))) else (σ.1 0)) else ((Xsh_placesAt σ 6 (Xsh_slotBelowTop σ 6 1)) + (Xsh_placesAt σ 6 (Xsh_slotBelowTop σ 6 0))))]) (rest := []) X hml G hA hEx hlocks (xW_sh (by decide)) rfl (c_Xsh_putNumber l hl9 dC dI kc ad _ u_260 6 r_192 (if (if (σ.1 0) < (if (Xsh_placesAt σ 6 (Xsh_slotBelowTop σ 6 1)) < (Xsh_placesAt σ 6 (Xsh_slotBelowTop σ 6 0)) then (Xsh_placesAt σ 6 (Xsh_slotBelowTop σ 6 0)) else (Xsh_placesAt σ 6 (Xsh_slotBelowTop σ 6 1))) then (if (Xsh_placesAt σ 6 (Xsh_slotBelowTop σ 6 1)) < (Xsh_placesAt σ 6 (Xsh_slotBelowTop σ 6 0)) then (Xsh_placesAt σ 6 (Xsh_slotBelowTop σ 6 0)) else (Xsh_placesAt σ 6 (Xsh_slotBelowTop σ 6 1))) else (σ.1 0)) < ((Xsh_placesAt σ 6 (Xsh_slotBelowTop σ 6 1)) + (Xsh_placesAt σ 6 (Xsh_slotBelowTop σ 6 0))) then (if (σ.1 0) < (if (Xsh_placesAt σ 6 (Xsh_slotBelowTop σ 6 1)) < (Xsh_placesAt σ 6 (Xsh_slotBelowTop σ 6 0)) then (Xsh_placesAt σ 6 (Xsh_slotBelowTop σ 6 0)) else (Xsh_placesAt σ 6 (Xsh_slotBelowTop σ 6 1))) then (if (Xsh_placesAt σ 6 (Xsh_slotBelowTop σ 6 1)) < (Xsh_placesAt σ 6 (Xsh_slotBelowTop σ 6 0)) then (Xsh_placesAt σ 6 (Xsh_slotBelowTop σ 6 0)) else (Xsh_placesAt σ 6 (Xsh_slotBelowTop σ 6 1))) else (σ.1 0)) else ((Xsh_placesAt σ 6 (Xsh_slotBelowTop σ 6 1)) + (Xsh_placesAt σ 6 (Xsh_slotBelowTop σ 6 0)))) (by decide)) (cwV 2 hts gX4_calculate_X3_putNumber rfl rfl rfl (by decide +kernel) ⟨Nat.le_of_ble_eq_true rfl, Nat.le_of_ble_eq_true rfl⟩) rfl hl.1 rfl (Nat.le_of_ble_eq_true rfl) dX4_calculate_271 ⟨Nat.le_of_ble_eq_true rfl, Nat.le_of_ble_eq_true rfl⟩ (fun E u9 hw_271 => (by unfold Xdesk_calculate; first | simp only [hw_2, eq_true s_82_42, hw_181, hw_192, hw_260, hw_271, ↓reduceIte] | rfl)) (fun u_271 H locs hw_271 G => ?_)
    have hv_271 : xWF u_271 := putNumber_wf hv_260 hw_271
    exact xq_ret (x_vret X G hr hlocks (by unfold Xdesk_calculate; first | simp only [hw_2, eq_true s_82_42, hw_181, hw_192, hw_260, hw_271, ↓reduceIte] | rfl) dX4_calculate_274)
  by_cases s_82_43 : k0 = 43
  · refine lv_tableIn (off := 38) (tgt := 120) hx hb dX4_calculate_82 (by rw [s_82_43]; decide) (by rw [s_82_43]; decide) (by rw [s_82_43]; rfl) (by decide) ?_
    refine lv_iload hx hb dX4_calculate_120 (lv_at hl 0 rfl) ?_
    refine lv_istore (lv' := [(11, .int (if (Xsh_placesAt σ 6 (Xsh_slotBelowTop σ 6 1)) < (Xsh_placesAt σ 6 (Xsh_slotBelowTop σ 6 0)) then (Xsh_placesAt σ 6 (Xsh_slotBelowTop σ 6 0)) else (Xsh_placesAt σ 6 (Xsh_slotBelowTop σ 6 1)))), (8, .int (if (Xsh_placesAt σ 6 (Xsh_slotBelowTop σ 6 1)) < (Xsh_placesAt σ 6 (Xsh_slotBelowTop σ 6 0)) then (Xsh_placesAt σ 6 (Xsh_slotBelowTop σ 6 0)) else (Xsh_placesAt σ 6 (Xsh_slotBelowTop σ 6 1)))), (7, .int (Xsh_placesAt σ 6 (Xsh_slotBelowTop σ 6 0))), (5, .long (Xsh_valueAt σ 6 (Xsh_slotBelowTop σ 6 0))), (4, .int (Xsh_placesAt σ 6 (Xsh_slotBelowTop σ 6 1))), (2, .long (Xsh_valueAt σ 6 (Xsh_slotBelowTop σ 6 1))), (0, .ref (ad 0)), (1, .int k0)]) hx hb dX4_calculate_122 hl (by decide) rfl (fun ls hl => ?_)
    refine lv_lload_n hx hb dX4_calculate_124 rfl (lv_at hl 5 rfl) ?_
    refine lv_iload hx hb dX4_calculate_125 (lv_at hl 4 rfl) ?_
    refine lv_lload hx hb dX4_calculate_127 (lv_at hl 3 rfl) ?_
    refine lv_iload hx hb dX4_calculate_129 (lv_at hl 2 rfl) ?_
    refine y_callDl (As := [.long (Xsh_valueAt σ 6 (Xsh_slotBelowTop σ 6 1)), .int (Xsh_placesAt σ 6 (Xsh_slotBelowTop σ 6 1)), .long (Xsh_valueAt σ 6 (Xsh_slotBelowTop σ 6 0)), .int (Xsh_placesAt σ 6 (Xsh_slotBelowTop σ 6 0))]) (rest := []) X hml G hA hEx hlocks (c_D_sum l hl9 _ (Xsh_valueAt σ 6 (Xsh_slotBelowTop σ 6 1)) (Xsh_placesAt σ 6 (Xsh_slotBelowTop σ 6 1)) (Xsh_valueAt σ 6 (Xsh_slotBelowTop σ 6 0)) (Xsh_placesAt σ 6 (Xsh_slotBelowTop σ 6 0))) (va_cwS 4 hts gX4_calculate_X0_sum rfl rfl rfl (by decide +kernel) ⟨(Nat.le_of_ble_eq_true rfl), (Nat.le_of_ble_eq_true rfl)⟩) rfl hl.1 rfl (Nat.le_of_ble_eq_true rfl) dX4_calculate_131 ⟨(Nat.le_of_ble_eq_true rfl), (Nat.le_of_ble_eq_true rfl)⟩ (fun E hw_131 => (by unfold Xdesk_calculate; first | simp only [hw_2, eq_false s_82_42, eq_true s_82_43, hw_131, ↓reduceIte] | rfl)) (fun r_131 H locs hw_131 G => ?_)
    refine lv_lstore (lv' := [(9, .long r_131), (11, .int (if (Xsh_placesAt σ 6 (Xsh_slotBelowTop σ 6 1)) < (Xsh_placesAt σ 6 (Xsh_slotBelowTop σ 6 0)) then (Xsh_placesAt σ 6 (Xsh_slotBelowTop σ 6 0)) else (Xsh_placesAt σ 6 (Xsh_slotBelowTop σ 6 1)))), (8, .int (if (Xsh_placesAt σ 6 (Xsh_slotBelowTop σ 6 1)) < (Xsh_placesAt σ 6 (Xsh_slotBelowTop σ 6 0)) then (Xsh_placesAt σ 6 (Xsh_slotBelowTop σ 6 0)) else (Xsh_placesAt σ 6 (Xsh_slotBelowTop σ 6 1)))), (7, .int (Xsh_placesAt σ 6 (Xsh_slotBelowTop σ 6 0))), (5, .long (Xsh_valueAt σ 6 (Xsh_slotBelowTop σ 6 0))), (4, .int (Xsh_placesAt σ 6 (Xsh_slotBelowTop σ 6 1))), (2, .long (Xsh_valueAt σ 6 (Xsh_slotBelowTop σ 6 1))), (0, .ref (ad 0)), (1, .int k0)]) hx hb dX4_calculate_134 hl (by decide) rfl (fun ls hl => ?_)
    refine lv_goto (tgt := 255) hx hb dX4_calculate_136 (by decide) ?_
    refine lv_aload_n hx hb dX4_calculate_255 rfl (lv_at hl 7 rfl) ?_
    refine x_dget_0 X G hin4 (by decide +kernel) dX4_calculate_256 ?_
    refine lv_iconst (v := 2) hx hb dX4_calculate_259 (by decide) ?_
    refine x_callv (As := [.int 2]) (rest := []) X hml G hA (xW_sh (by decide)) rfl (c_Xsh_drop l dC dI kc ad _ σ 6 2 (by decide)) (cwV 1 hts gX4_calculate_X3_drop rfl rfl rfl (by decide +kernel) ⟨Nat.le_of_ble_eq_true rfl, Nat.le_of_ble_eq_true rfl⟩) rfl hl.1 rfl (Nat.le_of_ble_eq_true rfl) dX4_calculate_260 ⟨Nat.zero_le _, Nat.zero_le _⟩ (fun u_260 H locs hw_260 G => ?_)
    have hv_260 : xWF u_260 := by have h9 : xWF (Xsh_drop σ 6 2) := drop_wf hrv; rw [hw_260] at h9; exact h9
    refine lv_aload_n hx hb dX4_calculate_263 rfl (lv_at hl 7 rfl) ?_
    refine x_dget_0 X G hin4 (by decide +kernel) dX4_calculate_264 ?_
    refine lv_lload hx hb dX4_calculate_267 (lv_at hl 0 rfl) ?_
    refine lv_iload hx hb dX4_calculate_269 (lv_at hl 1 rfl) ?_
    refine y_callv (As := [.long r_131, .int (if (Xsh_placesAt σ 6 (Xsh_slotBelowTop σ 6 1)) < (Xsh_placesAt σ 6 (Xsh_slotBelowTop σ 6 0)) then (Xsh_placesAt σ 6 (Xsh_slotBelowTop σ 6 0)) else (Xsh_placesAt σ 6 (Xsh_slotBelowTop σ 6 1)))]) (rest := []) X hml G hA hEx hlocks (xW_sh (by decide)) rfl (c_Xsh_putNumber l hl9 dC dI kc ad _ u_260 6 r_131 (if (Xsh_placesAt σ 6 (Xsh_slotBelowTop σ 6 1)) < (Xsh_placesAt σ 6 (Xsh_slotBelowTop σ 6 0)) then (Xsh_placesAt σ 6 (Xsh_slotBelowTop σ 6 0)) else (Xsh_placesAt σ 6 (Xsh_slotBelowTop σ 6 1))) (by decide)) (cwV 2 hts gX4_calculate_X3_putNumber rfl rfl rfl (by decide +kernel) ⟨Nat.le_of_ble_eq_true rfl, Nat.le_of_ble_eq_true rfl⟩) rfl hl.1 rfl (Nat.le_of_ble_eq_true rfl) dX4_calculate_271 ⟨Nat.le_of_ble_eq_true rfl, Nat.le_of_ble_eq_true rfl⟩ (fun E u9 hw_271 => (by unfold Xdesk_calculate; first | simp only [hw_2, eq_false s_82_42, eq_true s_82_43, hw_131, hw_260, hw_271, ↓reduceIte] | rfl)) (fun u_271 H locs hw_271 G => ?_)
    have hv_271 : xWF u_271 := putNumber_wf hv_260 hw_271
    exact xq_ret (x_vret X G hr hlocks (by unfold Xdesk_calculate; first | simp only [hw_2, eq_false s_82_42, eq_true s_82_43, hw_131, hw_260, hw_271, ↓reduceIte] | rfl) dX4_calculate_274)
  by_cases s_82_44 : k0 = 44
  · refine lv_tableIn (off := 143) (tgt := 225) hx hb dX4_calculate_82 (by rw [s_82_44]; decide) (by rw [s_82_44]; decide) (by rw [s_82_44]; rfl) (by decide) ?_
    refine lv_aload_n hx hb dX4_calculate_225 rfl (lv_at hl 5 rfl) ?_
    refine x_dget_5 X G hin4 (by decide +kernel) dX4_calculate_226 ?_
    refine lv_iload hx hb dX4_calculate_229 (lv_at hl 1 rfl) ?_
    refine lv_iadd hx hb dX4_calculate_231 ?_
    refine lv_iload hx hb dX4_calculate_232 (lv_at hl 3 rfl) ?_
    refine va_mmax (own := RX4) hx hb (hml.trans hl.1.symm) hown (hts (.methodLink RX4 185 Lib.Math.max.name) (by decide +kernel)) (hts (.static Lib.Math.max.name) (by decide +kernel)) (hts (.initialized "java/lang/Math") (by decide +kernel)) (hts (.code Lib.Math.max.name Lib.Math.max.code 2 (some .int)) (by decide +kernel)) (Nat.le_of_ble_eq_true rfl) (Nat.le_of_ble_eq_true rfl) (Nat.le_of_ble_eq_true rfl) (Nat.le_of_ble_eq_true rfl) dX4_calculate_234 ?_
    refine lv_istore (lv' := [(11, .int (if ((σ.1 0) + (Xsh_placesAt σ 6 (Xsh_slotBelowTop σ 6 0))) < (Xsh_placesAt σ 6 (Xsh_slotBelowTop σ 6 1)) then (Xsh_placesAt σ 6 (Xsh_slotBelowTop σ 6 1)) else ((σ.1 0) + (Xsh_placesAt σ 6 (Xsh_slotBelowTop σ 6 0))))), (8, .int (if (Xsh_placesAt σ 6 (Xsh_slotBelowTop σ 6 1)) < (Xsh_placesAt σ 6 (Xsh_slotBelowTop σ 6 0)) then (Xsh_placesAt σ 6 (Xsh_slotBelowTop σ 6 0)) else (Xsh_placesAt σ 6 (Xsh_slotBelowTop σ 6 1)))), (7, .int (Xsh_placesAt σ 6 (Xsh_slotBelowTop σ 6 0))), (5, .long (Xsh_valueAt σ 6 (Xsh_slotBelowTop σ 6 0))), (4, .int (Xsh_placesAt σ 6 (Xsh_slotBelowTop σ 6 1))), (2, .long (Xsh_valueAt σ 6 (Xsh_slotBelowTop σ 6 1))), (0, .ref (ad 0)), (1, .int k0)]) hx hb dX4_calculate_237 hl (by decide) rfl (fun ls hl => ?_)
    refine lv_lload_n hx hb dX4_calculate_239 rfl (lv_at hl 5 rfl) ?_
    refine lv_iload hx hb dX4_calculate_240 (lv_at hl 4 rfl) ?_
    refine lv_lload hx hb dX4_calculate_242 (lv_at hl 3 rfl) ?_
    refine lv_iload hx hb dX4_calculate_244 (lv_at hl 2 rfl) ?_
    refine lv_aload_n hx hb dX4_calculate_246 rfl (lv_at hl 6 rfl) ?_
    refine x_dget_5 X G hin4 (by decide +kernel) dX4_calculate_247 ?_
    refine y_callDl (As := [.long (Xsh_valueAt σ 6 (Xsh_slotBelowTop σ 6 1)), .int (Xsh_placesAt σ 6 (Xsh_slotBelowTop σ 6 1)), .long (Xsh_valueAt σ 6 (Xsh_slotBelowTop σ 6 0)), .int (Xsh_placesAt σ 6 (Xsh_slotBelowTop σ 6 0)), .int (σ.1 0)]) (rest := []) X hml G hA hEx hlocks (c_D_remainder l hl9 _ (Xsh_valueAt σ 6 (Xsh_slotBelowTop σ 6 1)) (Xsh_placesAt σ 6 (Xsh_slotBelowTop σ 6 1)) (Xsh_valueAt σ 6 (Xsh_slotBelowTop σ 6 0)) (Xsh_placesAt σ 6 (Xsh_slotBelowTop σ 6 0)) (σ.1 0)) (va_cwS 5 hts gX4_calculate_X0_remainder rfl rfl rfl (by decide +kernel) ⟨(Nat.le_of_ble_eq_true rfl), (Nat.le_of_ble_eq_true rfl)⟩) rfl hl.1 rfl (Nat.le_of_ble_eq_true rfl) dX4_calculate_250 ⟨(Nat.le_of_ble_eq_true rfl), (Nat.le_of_ble_eq_true rfl)⟩ (fun E hw_250 => (by unfold Xdesk_calculate; first | simp only [hw_2, eq_false s_82_42, eq_false s_82_43, eq_true s_82_44, hw_250, ↓reduceIte] | rfl)) (fun r_250 H locs hw_250 G => ?_)
    refine lv_lstore (lv' := [(9, .long r_250), (11, .int (if ((σ.1 0) + (Xsh_placesAt σ 6 (Xsh_slotBelowTop σ 6 0))) < (Xsh_placesAt σ 6 (Xsh_slotBelowTop σ 6 1)) then (Xsh_placesAt σ 6 (Xsh_slotBelowTop σ 6 1)) else ((σ.1 0) + (Xsh_placesAt σ 6 (Xsh_slotBelowTop σ 6 0))))), (8, .int (if (Xsh_placesAt σ 6 (Xsh_slotBelowTop σ 6 1)) < (Xsh_placesAt σ 6 (Xsh_slotBelowTop σ 6 0)) then (Xsh_placesAt σ 6 (Xsh_slotBelowTop σ 6 0)) else (Xsh_placesAt σ 6 (Xsh_slotBelowTop σ 6 1)))), (7, .int (Xsh_placesAt σ 6 (Xsh_slotBelowTop σ 6 0))), (5, .long (Xsh_valueAt σ 6 (Xsh_slotBelowTop σ 6 0))), (4, .int (Xsh_placesAt σ 6 (Xsh_slotBelowTop σ 6 1))), (2, .long (Xsh_valueAt σ 6 (Xsh_slotBelowTop σ 6 1))), (0, .ref (ad 0)), (1, .int k0)]) hx hb dX4_calculate_253 hl (by decide) rfl (fun ls hl => ?_)
    refine lv_aload_n hx hb dX4_calculate_255 rfl (lv_at hl 7 rfl) ?_
    refine x_dget_0 X G hin4 (by decide +kernel) dX4_calculate_256 ?_
    refine lv_iconst (v := 2) hx hb dX4_calculate_259 (by decide) ?_
    refine x_callv (As := [.int 2]) (rest := []) X hml G hA (xW_sh (by decide)) rfl (c_Xsh_drop l dC dI kc ad _ σ 6 2 (by decide)) (cwV 1 hts gX4_calculate_X3_drop rfl rfl rfl (by decide +kernel) ⟨Nat.le_of_ble_eq_true rfl, Nat.le_of_ble_eq_true rfl⟩) rfl hl.1 rfl (Nat.le_of_ble_eq_true rfl) dX4_calculate_260 ⟨Nat.zero_le _, Nat.zero_le _⟩ (fun u_260 H locs hw_260 G => ?_)
    have hv_260 : xWF u_260 := by have h9 : xWF (Xsh_drop σ 6 2) := drop_wf hrv; rw [hw_260] at h9; exact h9
    refine lv_aload_n hx hb dX4_calculate_263 rfl (lv_at hl 7 rfl) ?_
    refine x_dget_0 X G hin4 (by decide +kernel) dX4_calculate_264 ?_
    refine lv_lload hx hb dX4_calculate_267 (lv_at hl 0 rfl) ?_
    refine lv_iload hx hb dX4_calculate_269 (lv_at hl 1 rfl) ?_
    refine y_callv (As := [.long r_250, .int (if ((σ.1 0) + (Xsh_placesAt σ 6 (Xsh_slotBelowTop σ 6 0))) < (Xsh_placesAt σ 6 (Xsh_slotBelowTop σ 6 1)) then (Xsh_placesAt σ 6 (Xsh_slotBelowTop σ 6 1)) else ((σ.1 0) + (Xsh_placesAt σ 6 (Xsh_slotBelowTop σ 6 0))))]) (rest := []) X hml G hA hEx hlocks (xW_sh (by decide)) rfl (c_Xsh_putNumber l hl9 dC dI kc ad _ u_260 6 r_250 (if ((σ.1 0) + (Xsh_placesAt σ 6 (Xsh_slotBelowTop σ 6 0))) < (Xsh_placesAt σ 6 (Xsh_slotBelowTop σ 6 1)) then (Xsh_placesAt σ 6 (Xsh_slotBelowTop σ 6 1)) else ((σ.1 0) + (Xsh_placesAt σ 6 (Xsh_slotBelowTop σ 6 0)))) (by decide)) (cwV 2 hts gX4_calculate_X3_putNumber rfl rfl rfl (by decide +kernel) ⟨Nat.le_of_ble_eq_true rfl, Nat.le_of_ble_eq_true rfl⟩) rfl hl.1 rfl (Nat.le_of_ble_eq_true rfl) dX4_calculate_271 ⟨Nat.le_of_ble_eq_true rfl, Nat.le_of_ble_eq_true rfl⟩ (fun E u9 hw_271 => (by unfold Xdesk_calculate; first | simp only [hw_2, eq_false s_82_42, eq_false s_82_43, eq_true s_82_44, hw_250, hw_260, hw_271, ↓reduceIte] | rfl)) (fun u_271 H locs hw_271 G => ?_)
    have hv_271 : xWF u_271 := putNumber_wf hv_260 hw_271
    exact xq_ret (x_vret X G hr hlocks (by unfold Xdesk_calculate; first | simp only [hw_2, eq_false s_82_42, eq_false s_82_43, eq_true s_82_44, hw_250, hw_260, hw_271, ↓reduceIte] | rfl) dX4_calculate_274)
  by_cases s_82_45 : k0 = 45
  · refine lv_tableIn (off := 57) (tgt := 139) hx hb dX4_calculate_82 (by rw [s_82_45]; decide) (by rw [s_82_45]; decide) (by rw [s_82_45]; rfl) (by decide) ?_
    refine lv_iload hx hb dX4_calculate_139 (lv_at hl 0 rfl) ?_
    refine lv_istore (lv' := [(11, .int (if (Xsh_placesAt σ 6 (Xsh_slotBelowTop σ 6 1)) < (Xsh_placesAt σ 6 (Xsh_slotBelowTop σ 6 0)) then (Xsh_placesAt σ 6 (Xsh_slotBelowTop σ 6 0)) else (Xsh_placesAt σ 6 (Xsh_slotBelowTop σ 6 1)))), (8, .int (if (Xsh_placesAt σ 6 (Xsh_slotBelowTop σ 6 1)) < (Xsh_placesAt σ 6 (Xsh_slotBelowTop σ 6 0)) then (Xsh_placesAt σ 6 (Xsh_slotBelowTop σ 6 0)) else (Xsh_placesAt σ 6 (Xsh_slotBelowTop σ 6 1)))), (7, .int (Xsh_placesAt σ 6 (Xsh_slotBelowTop σ 6 0))), (5, .long (Xsh_valueAt σ 6 (Xsh_slotBelowTop σ 6 0))), (4, .int (Xsh_placesAt σ 6 (Xsh_slotBelowTop σ 6 1))), (2, .long (Xsh_valueAt σ 6 (Xsh_slotBelowTop σ 6 1))), (0, .ref (ad 0)), (1, .int k0)]) hx hb dX4_calculate_141 hl (by decide) rfl (fun ls hl => ?_)
    refine lv_lload_n hx hb dX4_calculate_143 rfl (lv_at hl 5 rfl) ?_
    refine lv_iload hx hb dX4_calculate_144 (lv_at hl 4 rfl) ?_
    refine lv_lload hx hb dX4_calculate_146 (lv_at hl 3 rfl) ?_
    refine lv_lneg hx hb dX4_calculate_148 ?_
    refine lv_iload hx hb dX4_calculate_149 (lv_at hl 2 rfl) ?_
    refine y_callDl (As := [.long (Xsh_valueAt σ 6 (Xsh_slotBelowTop σ 6 1)), .int (Xsh_placesAt σ 6 (Xsh_slotBelowTop σ 6 1)), .long (-(Xsh_valueAt σ 6 (Xsh_slotBelowTop σ 6 0))), .int (Xsh_placesAt σ 6 (Xsh_slotBelowTop σ 6 0))]) (rest := []) X hml G hA hEx hlocks (c_D_sum l hl9 _ (Xsh_valueAt σ 6 (Xsh_slotBelowTop σ 6 1)) (Xsh_placesAt σ 6 (Xsh_slotBelowTop σ 6 1)) (-(Xsh_valueAt σ 6 (Xsh_slotBelowTop σ 6 0))) (Xsh_placesAt σ 6 (Xsh_slotBelowTop σ 6 0))) (va_cwS 4 hts gX4_calculate_X0_sum rfl rfl rfl (by decide +kernel) ⟨(Nat.le_of_ble_eq_true rfl), (Nat.le_of_ble_eq_true rfl)⟩) rfl hl.1 rfl (Nat.le_of_ble_eq_true rfl) dX4_calculate_151 ⟨(Nat.le_of_ble_eq_true rfl), (Nat.le_of_ble_eq_true rfl)⟩ (fun E hw_151 => (by unfold Xdesk_calculate; first | simp only [hw_2, eq_false s_82_42, eq_false s_82_43, eq_false s_82_44, eq_true s_82_45, hw_151, ↓reduceIte] | rfl)) (fun r_151 H locs hw_151 G => ?_)
    refine lv_lstore (lv' := [(9, .long r_151), (11, .int (if (Xsh_placesAt σ 6 (Xsh_slotBelowTop σ 6 1)) < (Xsh_placesAt σ 6 (Xsh_slotBelowTop σ 6 0)) then (Xsh_placesAt σ 6 (Xsh_slotBelowTop σ 6 0)) else (Xsh_placesAt σ 6 (Xsh_slotBelowTop σ 6 1)))), (8, .int (if (Xsh_placesAt σ 6 (Xsh_slotBelowTop σ 6 1)) < (Xsh_placesAt σ 6 (Xsh_slotBelowTop σ 6 0)) then (Xsh_placesAt σ 6 (Xsh_slotBelowTop σ 6 0)) else (Xsh_placesAt σ 6 (Xsh_slotBelowTop σ 6 1)))), (7, .int (Xsh_placesAt σ 6 (Xsh_slotBelowTop σ 6 0))), (5, .long (Xsh_valueAt σ 6 (Xsh_slotBelowTop σ 6 0))), (4, .int (Xsh_placesAt σ 6 (Xsh_slotBelowTop σ 6 1))), (2, .long (Xsh_valueAt σ 6 (Xsh_slotBelowTop σ 6 1))), (0, .ref (ad 0)), (1, .int k0)]) hx hb dX4_calculate_154 hl (by decide) rfl (fun ls hl => ?_)
    refine lv_goto (tgt := 255) hx hb dX4_calculate_156 (by decide) ?_
    refine lv_aload_n hx hb dX4_calculate_255 rfl (lv_at hl 7 rfl) ?_
    refine x_dget_0 X G hin4 (by decide +kernel) dX4_calculate_256 ?_
    refine lv_iconst (v := 2) hx hb dX4_calculate_259 (by decide) ?_
    refine x_callv (As := [.int 2]) (rest := []) X hml G hA (xW_sh (by decide)) rfl (c_Xsh_drop l dC dI kc ad _ σ 6 2 (by decide)) (cwV 1 hts gX4_calculate_X3_drop rfl rfl rfl (by decide +kernel) ⟨Nat.le_of_ble_eq_true rfl, Nat.le_of_ble_eq_true rfl⟩) rfl hl.1 rfl (Nat.le_of_ble_eq_true rfl) dX4_calculate_260 ⟨Nat.zero_le _, Nat.zero_le _⟩ (fun u_260 H locs hw_260 G => ?_)
    have hv_260 : xWF u_260 := by have h9 : xWF (Xsh_drop σ 6 2) := drop_wf hrv; rw [hw_260] at h9; exact h9
    refine lv_aload_n hx hb dX4_calculate_263 rfl (lv_at hl 7 rfl) ?_
    refine x_dget_0 X G hin4 (by decide +kernel) dX4_calculate_264 ?_
    refine lv_lload hx hb dX4_calculate_267 (lv_at hl 0 rfl) ?_
    refine lv_iload hx hb dX4_calculate_269 (lv_at hl 1 rfl) ?_
    refine y_callv (As := [.long r_151, .int (if (Xsh_placesAt σ 6 (Xsh_slotBelowTop σ 6 1)) < (Xsh_placesAt σ 6 (Xsh_slotBelowTop σ 6 0)) then (Xsh_placesAt σ 6 (Xsh_slotBelowTop σ 6 0)) else (Xsh_placesAt σ 6 (Xsh_slotBelowTop σ 6 1)))]) (rest := []) X hml G hA hEx hlocks (xW_sh (by decide)) rfl (c_Xsh_putNumber l hl9 dC dI kc ad _ u_260 6 r_151 (if (Xsh_placesAt σ 6 (Xsh_slotBelowTop σ 6 1)) < (Xsh_placesAt σ 6 (Xsh_slotBelowTop σ 6 0)) then (Xsh_placesAt σ 6 (Xsh_slotBelowTop σ 6 0)) else (Xsh_placesAt σ 6 (Xsh_slotBelowTop σ 6 1))) (by decide)) (cwV 2 hts gX4_calculate_X3_putNumber rfl rfl rfl (by decide +kernel) ⟨Nat.le_of_ble_eq_true rfl, Nat.le_of_ble_eq_true rfl⟩) rfl hl.1 rfl (Nat.le_of_ble_eq_true rfl) dX4_calculate_271 ⟨Nat.le_of_ble_eq_true rfl, Nat.le_of_ble_eq_true rfl⟩ (fun E u9 hw_271 => (by unfold Xdesk_calculate; first | simp only [hw_2, eq_false s_82_42, eq_false s_82_43, eq_false s_82_44, eq_true s_82_45, hw_151, hw_260, hw_271, ↓reduceIte] | rfl)) (fun u_271 H locs hw_271 G => ?_)
    have hv_271 : xWF u_271 := putNumber_wf hv_260 hw_271
    exact xq_ret (x_vret X G hr hlocks (by unfold Xdesk_calculate; first | simp only [hw_2, eq_false s_82_42, eq_false s_82_43, eq_false s_82_44, eq_true s_82_45, hw_151, hw_260, hw_271, ↓reduceIte] | rfl) dX4_calculate_274)
  by_cases s_82_46 : k0 = 46
  · refine lv_tableIn (off := 143) (tgt := 225) hx hb dX4_calculate_82 (by rw [s_82_46]; decide) (by rw [s_82_46]; decide) (by rw [s_82_46]; rfl) (by decide) ?_
    refine lv_aload_n hx hb dX4_calculate_225 rfl (lv_at hl 5 rfl) ?_
    refine x_dget_5 X G hin4 (by decide +kernel) dX4_calculate_226 ?_
    refine lv_iload hx hb dX4_calculate_229 (lv_at hl 1 rfl) ?_
    refine lv_iadd hx hb dX4_calculate_231 ?_
    refine lv_iload hx hb dX4_calculate_232 (lv_at hl 3 rfl) ?_
    refine va_mmax (own := RX4) hx hb (hml.trans hl.1.symm) hown (hts (.methodLink RX4 185 Lib.Math.max.name) (by decide +kernel)) (hts (.static Lib.Math.max.name) (by decide +kernel)) (hts (.initialized "java/lang/Math") (by decide +kernel)) (hts (.code Lib.Math.max.name Lib.Math.max.code 2 (some .int)) (by decide +kernel)) (Nat.le_of_ble_eq_true rfl) (Nat.le_of_ble_eq_true rfl) (Nat.le_of_ble_eq_true rfl) (Nat.le_of_ble_eq_true rfl) dX4_calculate_234 ?_
    refine lv_istore (lv' := [(11, .int (if ((σ.1 0) + (Xsh_placesAt σ 6 (Xsh_slotBelowTop σ 6 0))) < (Xsh_placesAt σ 6 (Xsh_slotBelowTop σ 6 1)) then (Xsh_placesAt σ 6 (Xsh_slotBelowTop σ 6 1)) else ((σ.1 0) + (Xsh_placesAt σ 6 (Xsh_slotBelowTop σ 6 0))))), (8, .int (if (Xsh_placesAt σ 6 (Xsh_slotBelowTop σ 6 1)) < (Xsh_placesAt σ 6 (Xsh_slotBelowTop σ 6 0)) then (Xsh_placesAt σ 6 (Xsh_slotBelowTop σ 6 0)) else (Xsh_placesAt σ 6 (Xsh_slotBelowTop σ 6 1)))), (7, .int (Xsh_placesAt σ 6 (Xsh_slotBelowTop σ 6 0))), (5, .long (Xsh_valueAt σ 6 (Xsh_slotBelowTop σ 6 0))), (4, .int (Xsh_placesAt σ 6 (Xsh_slotBelowTop σ 6 1))), (2, .long (Xsh_valueAt σ 6 (Xsh_slotBelowTop σ 6 1))), (0, .ref (ad 0)), (1, .int k0)]) hx hb dX4_calculate_237 hl (by decide) rfl (fun ls hl => ?_)
    refine lv_lload_n hx hb dX4_calculate_239 rfl (lv_at hl 5 rfl) ?_
    refine lv_iload hx hb dX4_calculate_240 (lv_at hl 4 rfl) ?_
    refine lv_lload hx hb dX4_calculate_242 (lv_at hl 3 rfl) ?_
    refine lv_iload hx hb dX4_calculate_244 (lv_at hl 2 rfl) ?_
    refine lv_aload_n hx hb dX4_calculate_246 rfl (lv_at hl 6 rfl) ?_
    refine x_dget_5 X G hin4 (by decide +kernel) dX4_calculate_247 ?_
    refine y_callDl (As := [.long (Xsh_valueAt σ 6 (Xsh_slotBelowTop σ 6 1)), .int (Xsh_placesAt σ 6 (Xsh_slotBelowTop σ 6 1)), .long (Xsh_valueAt σ 6 (Xsh_slotBelowTop σ 6 0)), .int (Xsh_placesAt σ 6 (Xsh_slotBelowTop σ 6 0)), .int (σ.1 0)]) (rest := []) X hml G hA hEx hlocks (c_D_remainder l hl9 _ (Xsh_valueAt σ 6 (Xsh_slotBelowTop σ 6 1)) (Xsh_placesAt σ 6 (Xsh_slotBelowTop σ 6 1)) (Xsh_valueAt σ 6 (Xsh_slotBelowTop σ 6 0)) (Xsh_placesAt σ 6 (Xsh_slotBelowTop σ 6 0)) (σ.1 0)) (va_cwS 5 hts gX4_calculate_X0_remainder rfl rfl rfl (by decide +kernel) ⟨(Nat.le_of_ble_eq_true rfl), (Nat.le_of_ble_eq_true rfl)⟩) rfl hl.1 rfl (Nat.le_of_ble_eq_true rfl) dX4_calculate_250 ⟨(Nat.le_of_ble_eq_true rfl), (Nat.le_of_ble_eq_true rfl)⟩ (fun E hw_250 => (by unfold Xdesk_calculate; first | simp only [hw_2, eq_false s_82_42, eq_false s_82_43, eq_false s_82_44, eq_false s_82_45, eq_true s_82_46, hw_250, ↓reduceIte] | rfl)) (fun r_250 H locs hw_250 G => ?_)
    refine lv_lstore (lv' := [(9, .long r_250), (11, .int (if ((σ.1 0) + (Xsh_placesAt σ 6 (Xsh_slotBelowTop σ 6 0))) < (Xsh_placesAt σ 6 (Xsh_slotBelowTop σ 6 1)) then (Xsh_placesAt σ 6 (Xsh_slotBelowTop σ 6 1)) else ((σ.1 0) + (Xsh_placesAt σ 6 (Xsh_slotBelowTop σ 6 0))))), (8, .int (if (Xsh_placesAt σ 6 (Xsh_slotBelowTop σ 6 1)) < (Xsh_placesAt σ 6 (Xsh_slotBelowTop σ 6 0)) then (Xsh_placesAt σ 6 (Xsh_slotBelowTop σ 6 0)) else (Xsh_placesAt σ 6 (Xsh_slotBelowTop σ 6 1)))), (7, .int (Xsh_placesAt σ 6 (Xsh_slotBelowTop σ 6 0))), (5, .long (Xsh_valueAt σ 6 (Xsh_slotBelowTop σ 6 0))), (4, .int (Xsh_placesAt σ 6 (Xsh_slotBelowTop σ 6 1))), (2, .long (Xsh_valueAt σ 6 (Xsh_slotBelowTop σ 6 1))), (0, .ref (ad 0)), (1, .int k0)]) hx hb dX4_calculate_253 hl (by decide) rfl (fun ls hl => ?_)
    refine lv_aload_n hx hb dX4_calculate_255 rfl (lv_at hl 7 rfl) ?_
    refine x_dget_0 X G hin4 (by decide +kernel) dX4_calculate_256 ?_
    refine lv_iconst (v := 2) hx hb dX4_calculate_259 (by decide) ?_
    refine x_callv (As := [.int 2]) (rest := []) X hml G hA (xW_sh (by decide)) rfl (c_Xsh_drop l dC dI kc ad _ σ 6 2 (by decide)) (cwV 1 hts gX4_calculate_X3_drop rfl rfl rfl (by decide +kernel) ⟨Nat.le_of_ble_eq_true rfl, Nat.le_of_ble_eq_true rfl⟩) rfl hl.1 rfl (Nat.le_of_ble_eq_true rfl) dX4_calculate_260 ⟨Nat.zero_le _, Nat.zero_le _⟩ (fun u_260 H locs hw_260 G => ?_)
    have hv_260 : xWF u_260 := by have h9 : xWF (Xsh_drop σ 6 2) := drop_wf hrv; rw [hw_260] at h9; exact h9
    refine lv_aload_n hx hb dX4_calculate_263 rfl (lv_at hl 7 rfl) ?_
    refine x_dget_0 X G hin4 (by decide +kernel) dX4_calculate_264 ?_
    refine lv_lload hx hb dX4_calculate_267 (lv_at hl 0 rfl) ?_
    refine lv_iload hx hb dX4_calculate_269 (lv_at hl 1 rfl) ?_
    refine y_callv (As := [.long r_250, .int (if ((σ.1 0) + (Xsh_placesAt σ 6 (Xsh_slotBelowTop σ 6 0))) < (Xsh_placesAt σ 6 (Xsh_slotBelowTop σ 6 1)) then (Xsh_placesAt σ 6 (Xsh_slotBelowTop σ 6 1)) else ((σ.1 0) + (Xsh_placesAt σ 6 (Xsh_slotBelowTop σ 6 0))))]) (rest := []) X hml G hA hEx hlocks (xW_sh (by decide)) rfl (c_Xsh_putNumber l hl9 dC dI kc ad _ u_260 6 r_250 (if ((σ.1 0) + (Xsh_placesAt σ 6 (Xsh_slotBelowTop σ 6 0))) < (Xsh_placesAt σ 6 (Xsh_slotBelowTop σ 6 1)) then (Xsh_placesAt σ 6 (Xsh_slotBelowTop σ 6 1)) else ((σ.1 0) + (Xsh_placesAt σ 6 (Xsh_slotBelowTop σ 6 0)))) (by decide)) (cwV 2 hts gX4_calculate_X3_putNumber rfl rfl rfl (by decide +kernel) ⟨Nat.le_of_ble_eq_true rfl, Nat.le_of_ble_eq_true rfl⟩) rfl hl.1 rfl (Nat.le_of_ble_eq_true rfl) dX4_calculate_271 ⟨Nat.le_of_ble_eq_true rfl, Nat.le_of_ble_eq_true rfl⟩ (fun E u9 hw_271 => (by unfold Xdesk_calculate; first | simp only [hw_2, eq_false s_82_42, eq_false s_82_43, eq_false s_82_44, eq_false s_82_45, eq_true s_82_46, hw_250, hw_260, hw_271, ↓reduceIte] | rfl)) (fun u_271 H locs hw_271 G => ?_)
    have hv_271 : xWF u_271 := putNumber_wf hv_260 hw_271
    exact xq_ret (x_vret X G hr hlocks (by unfold Xdesk_calculate; first | simp only [hw_2, eq_false s_82_42, eq_false s_82_43, eq_false s_82_44, eq_false s_82_45, eq_true s_82_46, hw_250, hw_260, hw_271, ↓reduceIte] | rfl) dX4_calculate_274)
  by_cases s_82_47 : k0 = 47
  · refine lv_tableIn (off := 118) (tgt := 200) hx hb dX4_calculate_82 (by rw [s_82_47]; decide) (by rw [s_82_47]; decide) (by rw [s_82_47]; rfl) (by decide) ?_
    refine lv_aload_n hx hb dX4_calculate_200 rfl (lv_at hl 5 rfl) ?_
    refine x_dget_5 X G hin4 (by decide +kernel) dX4_calculate_201 ?_
    refine lv_istore (lv' := [(11, .int (σ.1 0)), (8, .int (if (Xsh_placesAt σ 6 (Xsh_slotBelowTop σ 6 1)) < (Xsh_placesAt σ 6 (Xsh_slotBelowTop σ 6 0)) then (Xsh_placesAt σ 6 (Xsh_slotBelowTop σ 6 0)) else (Xsh_placesAt σ 6 (Xsh_slotBelowTop σ 6 1)))), (7, .int (Xsh_placesAt σ 6 (Xsh_slotBelowTop σ 6 0))), (5, .long (Xsh_valueAt σ 6 (Xsh_slotBelowTop σ 6 0))), (4, .int (Xsh_placesAt σ 6 (Xsh_slotBelowTop σ 6 1))), (2, .long (Xsh_valueAt σ 6 (Xsh_slotBelowTop σ 6 1))), (0, .ref (ad 0)), (1, .int k0)]) hx hb dX4_calculate_204 hl (by decide) rfl (fun ls hl => ?_)
    refine lv_lload_n hx hb dX4_calculate_206 rfl (lv_at hl 5 rfl) ?_
    refine lv_iload hx hb dX4_calculate_207 (lv_at hl 4 rfl) ?_
    refine lv_lload hx hb dX4_calculate_209 (lv_at hl 3 rfl) ?_
    refine lv_iload hx hb dX4_calculate_211 (lv_at hl 2 rfl) ?_
    refine lv_aload_n hx hb dX4_calculate_213 rfl (lv_at hl 6 rfl) ?_
    refine x_dget_5 X G hin4 (by decide +kernel) dX4_calculate_214 ?_
    refine y_callDl (As := [.long (Xsh_valueAt σ 6 (Xsh_slotBelowTop σ 6 1)), .int (Xsh_placesAt σ 6 (Xsh_slotBelowTop σ 6 1)), .long (Xsh_valueAt σ 6 (Xsh_slotBelowTop σ 6 0)), .int (Xsh_placesAt σ 6 (Xsh_slotBelowTop σ 6 0)), .int (σ.1 0)]) (rest := []) X hml G hA hEx hlocks (c_D_quotient l hl9 _ (Xsh_valueAt σ 6 (Xsh_slotBelowTop σ 6 1)) (Xsh_placesAt σ 6 (Xsh_slotBelowTop σ 6 1)) (Xsh_valueAt σ 6 (Xsh_slotBelowTop σ 6 0)) (Xsh_placesAt σ 6 (Xsh_slotBelowTop σ 6 0)) (σ.1 0)) (va_cwS 5 hts gX4_calculate_X0_quotient rfl rfl rfl (by decide +kernel) ⟨(Nat.le_of_ble_eq_true rfl), (Nat.le_of_ble_eq_true rfl)⟩) rfl hl.1 rfl (Nat.le_of_ble_eq_true rfl) dX4_calculate_217 ⟨(Nat.le_of_ble_eq_true rfl), (Nat.le_of_ble_eq_true rfl)⟩ (fun E hw_217 => (by unfold Xdesk_calculate; first | simp only [hw_2, eq_false s_82_42, eq_false s_82_43, eq_false s_82_44, eq_false s_82_45, eq_false s_82_46, eq_true s_82_47, hw_217, ↓reduceIte] | rfl)) (fun r_217 H locs hw_217 G => ?_)
    refine lv_lstore (lv' := [(9, .long r_217), (11, .int (σ.1 0)), (8, .int (if (Xsh_placesAt σ 6 (Xsh_slotBelowTop σ 6 1)) < (Xsh_placesAt σ 6 (Xsh_slotBelowTop σ 6 0)) then (Xsh_placesAt σ 6 (Xsh_slotBelowTop σ 6 0)) else (Xsh_placesAt σ 6 (Xsh_slotBelowTop σ 6 1)))), (7, .int (Xsh_placesAt σ 6 (Xsh_slotBelowTop σ 6 0))), (5, .long (Xsh_valueAt σ 6 (Xsh_slotBelowTop σ 6 0))), (4, .int (Xsh_placesAt σ 6 (Xsh_slotBelowTop σ 6 1))), (2, .long (Xsh_valueAt σ 6 (Xsh_slotBelowTop σ 6 1))), (0, .ref (ad 0)), (1, .int k0)]) hx hb dX4_calculate_220 hl (by decide) rfl (fun ls hl => ?_)
    refine lv_goto (tgt := 255) hx hb dX4_calculate_222 (by decide) ?_
    refine lv_aload_n hx hb dX4_calculate_255 rfl (lv_at hl 7 rfl) ?_
    refine x_dget_0 X G hin4 (by decide +kernel) dX4_calculate_256 ?_
    refine lv_iconst (v := 2) hx hb dX4_calculate_259 (by decide) ?_
    refine x_callv (As := [.int 2]) (rest := []) X hml G hA (xW_sh (by decide)) rfl (c_Xsh_drop l dC dI kc ad _ σ 6 2 (by decide)) (cwV 1 hts gX4_calculate_X3_drop rfl rfl rfl (by decide +kernel) ⟨Nat.le_of_ble_eq_true rfl, Nat.le_of_ble_eq_true rfl⟩) rfl hl.1 rfl (Nat.le_of_ble_eq_true rfl) dX4_calculate_260 ⟨Nat.zero_le _, Nat.zero_le _⟩ (fun u_260 H locs hw_260 G => ?_)
    have hv_260 : xWF u_260 := by have h9 : xWF (Xsh_drop σ 6 2) := drop_wf hrv; rw [hw_260] at h9; exact h9
    refine lv_aload_n hx hb dX4_calculate_263 rfl (lv_at hl 7 rfl) ?_
    refine x_dget_0 X G hin4 (by decide +kernel) dX4_calculate_264 ?_
    refine lv_lload hx hb dX4_calculate_267 (lv_at hl 0 rfl) ?_
    refine lv_iload hx hb dX4_calculate_269 (lv_at hl 1 rfl) ?_
    refine y_callv (As := [.long r_217, .int (σ.1 0)]) (rest := []) X hml G hA hEx hlocks (xW_sh (by decide)) rfl (c_Xsh_putNumber l hl9 dC dI kc ad _ u_260 6 r_217 (σ.1 0) (by decide)) (cwV 2 hts gX4_calculate_X3_putNumber rfl rfl rfl (by decide +kernel) ⟨Nat.le_of_ble_eq_true rfl, Nat.le_of_ble_eq_true rfl⟩) rfl hl.1 rfl (Nat.le_of_ble_eq_true rfl) dX4_calculate_271 ⟨Nat.le_of_ble_eq_true rfl, Nat.le_of_ble_eq_true rfl⟩ (fun E u9 hw_271 => (by unfold Xdesk_calculate; first | simp only [hw_2, eq_false s_82_42, eq_false s_82_43, eq_false s_82_44, eq_false s_82_45, eq_false s_82_46, eq_true s_82_47, hw_217, hw_260, hw_271, ↓reduceIte] | rfl)) (fun u_271 H locs hw_271 G => ?_)
    have hv_271 : xWF u_271 := putNumber_wf hv_260 hw_271
    exact xq_ret (x_vret X G hr hlocks (by unfold Xdesk_calculate; first | simp only [hw_2, eq_false s_82_42, eq_false s_82_43, eq_false s_82_44, eq_false s_82_45, eq_false s_82_46, eq_true s_82_47, hw_217, hw_260, hw_271, ↓reduceIte] | rfl) dX4_calculate_274)
  have z42 := lv_neT s_82_42 (a := 42) (by decide)
  have z43 := lv_neT s_82_43 (a := 43) (by decide)
  have z44 := lv_neT s_82_44 (a := 44) (by decide)
  have z45 := lv_neT s_82_45 (a := 45) (by decide)
  have z46 := lv_neT s_82_46 (a := 46) (by decide)
  have z47 := lv_neT s_82_47 (a := 47) (by decide)
  refine lv_tableOut (tgt := 225) hx hb dX4_calculate_82 (by omega) (by decide) ?_
  refine lv_aload_n hx hb dX4_calculate_225 rfl (lv_at hl 5 rfl) ?_
  refine x_dget_5 X G hin4 (by decide +kernel) dX4_calculate_226 ?_
  refine lv_iload hx hb dX4_calculate_229 (lv_at hl 1 rfl) ?_
  refine lv_iadd hx hb dX4_calculate_231 ?_
  refine lv_iload hx hb dX4_calculate_232 (lv_at hl 3 rfl) ?_
  refine va_mmax (own := RX4) hx hb (hml.trans hl.1.symm) hown (hts (.methodLink RX4 185 Lib.Math.max.name) (by decide +kernel)) (hts (.static Lib.Math.max.name) (by decide +kernel)) (hts (.initialized "java/lang/Math") (by decide +kernel)) (hts (.code Lib.Math.max.name Lib.Math.max.code 2 (some .int)) (by decide +kernel)) (Nat.le_of_ble_eq_true rfl) (Nat.le_of_ble_eq_true rfl) (Nat.le_of_ble_eq_true rfl) (Nat.le_of_ble_eq_true rfl) dX4_calculate_234 ?_
  refine lv_istore (lv' := [(11, .int (if ((σ.1 0) + (Xsh_placesAt σ 6 (Xsh_slotBelowTop σ 6 0))) < (Xsh_placesAt σ 6 (Xsh_slotBelowTop σ 6 1)) then (Xsh_placesAt σ 6 (Xsh_slotBelowTop σ 6 1)) else ((σ.1 0) + (Xsh_placesAt σ 6 (Xsh_slotBelowTop σ 6 0))))), (8, .int (if (Xsh_placesAt σ 6 (Xsh_slotBelowTop σ 6 1)) < (Xsh_placesAt σ 6 (Xsh_slotBelowTop σ 6 0)) then (Xsh_placesAt σ 6 (Xsh_slotBelowTop σ 6 0)) else (Xsh_placesAt σ 6 (Xsh_slotBelowTop σ 6 1)))), (7, .int (Xsh_placesAt σ 6 (Xsh_slotBelowTop σ 6 0))), (5, .long (Xsh_valueAt σ 6 (Xsh_slotBelowTop σ 6 0))), (4, .int (Xsh_placesAt σ 6 (Xsh_slotBelowTop σ 6 1))), (2, .long (Xsh_valueAt σ 6 (Xsh_slotBelowTop σ 6 1))), (0, .ref (ad 0)), (1, .int k0)]) hx hb dX4_calculate_237 hl (by decide) rfl (fun ls hl => ?_)
  refine lv_lload_n hx hb dX4_calculate_239 rfl (lv_at hl 5 rfl) ?_
  refine lv_iload hx hb dX4_calculate_240 (lv_at hl 4 rfl) ?_
  refine lv_lload hx hb dX4_calculate_242 (lv_at hl 3 rfl) ?_
  refine lv_iload hx hb dX4_calculate_244 (lv_at hl 2 rfl) ?_
  refine lv_aload_n hx hb dX4_calculate_246 rfl (lv_at hl 6 rfl) ?_
  refine x_dget_5 X G hin4 (by decide +kernel) dX4_calculate_247 ?_
  refine y_callDl (As := [.long (Xsh_valueAt σ 6 (Xsh_slotBelowTop σ 6 1)), .int (Xsh_placesAt σ 6 (Xsh_slotBelowTop σ 6 1)), .long (Xsh_valueAt σ 6 (Xsh_slotBelowTop σ 6 0)), .int (Xsh_placesAt σ 6 (Xsh_slotBelowTop σ 6 0)), .int (σ.1 0)]) (rest := []) X hml G hA hEx hlocks (c_D_remainder l hl9 _ (Xsh_valueAt σ 6 (Xsh_slotBelowTop σ 6 1)) (Xsh_placesAt σ 6 (Xsh_slotBelowTop σ 6 1)) (Xsh_valueAt σ 6 (Xsh_slotBelowTop σ 6 0)) (Xsh_placesAt σ 6 (Xsh_slotBelowTop σ 6 0)) (σ.1 0)) (va_cwS 5 hts gX4_calculate_X0_remainder rfl rfl rfl (by decide +kernel) ⟨(Nat.le_of_ble_eq_true rfl), (Nat.le_of_ble_eq_true rfl)⟩) rfl hl.1 rfl (Nat.le_of_ble_eq_true rfl) dX4_calculate_250 ⟨(Nat.le_of_ble_eq_true rfl), (Nat.le_of_ble_eq_true rfl)⟩ (fun E hw_250 => (by unfold Xdesk_calculate; first | simp only [hw_2, eq_false s_82_42, eq_false s_82_43, eq_false s_82_44, eq_false s_82_45, eq_false s_82_46, eq_false s_82_47, hw_250, ↓reduceIte] | rfl)) (fun r_250 H locs hw_250 G => ?_)
  refine lv_lstore (lv' := [(9, .long r_250), (11, .int (if ((σ.1 0) + (Xsh_placesAt σ 6 (Xsh_slotBelowTop σ 6 0))) < (Xsh_placesAt σ 6 (Xsh_slotBelowTop σ 6 1)) then (Xsh_placesAt σ 6 (Xsh_slotBelowTop σ 6 1)) else ((σ.1 0) + (Xsh_placesAt σ 6 (Xsh_slotBelowTop σ 6 0))))), (8, .int (if (Xsh_placesAt σ 6 (Xsh_slotBelowTop σ 6 1)) < (Xsh_placesAt σ 6 (Xsh_slotBelowTop σ 6 0)) then (Xsh_placesAt σ 6 (Xsh_slotBelowTop σ 6 0)) else (Xsh_placesAt σ 6 (Xsh_slotBelowTop σ 6 1)))), (7, .int (Xsh_placesAt σ 6 (Xsh_slotBelowTop σ 6 0))), (5, .long (Xsh_valueAt σ 6 (Xsh_slotBelowTop σ 6 0))), (4, .int (Xsh_placesAt σ 6 (Xsh_slotBelowTop σ 6 1))), (2, .long (Xsh_valueAt σ 6 (Xsh_slotBelowTop σ 6 1))), (0, .ref (ad 0)), (1, .int k0)]) hx hb dX4_calculate_253 hl (by decide) rfl (fun ls hl => ?_)
  refine lv_aload_n hx hb dX4_calculate_255 rfl (lv_at hl 7 rfl) ?_
  refine x_dget_0 X G hin4 (by decide +kernel) dX4_calculate_256 ?_
  refine lv_iconst (v := 2) hx hb dX4_calculate_259 (by decide) ?_
  refine x_callv (As := [.int 2]) (rest := []) X hml G hA (xW_sh (by decide)) rfl (c_Xsh_drop l dC dI kc ad _ σ 6 2 (by decide)) (cwV 1 hts gX4_calculate_X3_drop rfl rfl rfl (by decide +kernel) ⟨Nat.le_of_ble_eq_true rfl, Nat.le_of_ble_eq_true rfl⟩) rfl hl.1 rfl (Nat.le_of_ble_eq_true rfl) dX4_calculate_260 ⟨Nat.zero_le _, Nat.zero_le _⟩ (fun u_260 H locs hw_260 G => ?_)
  have hv_260 : xWF u_260 := by have h9 : xWF (Xsh_drop σ 6 2) := drop_wf hrv; rw [hw_260] at h9; exact h9
  refine lv_aload_n hx hb dX4_calculate_263 rfl (lv_at hl 7 rfl) ?_
  refine x_dget_0 X G hin4 (by decide +kernel) dX4_calculate_264 ?_
  refine lv_lload hx hb dX4_calculate_267 (lv_at hl 0 rfl) ?_
  refine lv_iload hx hb dX4_calculate_269 (lv_at hl 1 rfl) ?_
  refine y_callv (As := [.long r_250, .int (if ((σ.1 0) + (Xsh_placesAt σ 6 (Xsh_slotBelowTop σ 6 0))) < (Xsh_placesAt σ 6 (Xsh_slotBelowTop σ 6 1)) then (Xsh_placesAt σ 6 (Xsh_slotBelowTop σ 6 1)) else ((σ.1 0) + (Xsh_placesAt σ 6 (Xsh_slotBelowTop σ 6 0))))]) (rest := []) X hml G hA hEx hlocks (xW_sh (by decide)) rfl (c_Xsh_putNumber l hl9 dC dI kc ad _ u_260 6 r_250 (if ((σ.1 0) + (Xsh_placesAt σ 6 (Xsh_slotBelowTop σ 6 0))) < (Xsh_placesAt σ 6 (Xsh_slotBelowTop σ 6 1)) then (Xsh_placesAt σ 6 (Xsh_slotBelowTop σ 6 1)) else ((σ.1 0) + (Xsh_placesAt σ 6 (Xsh_slotBelowTop σ 6 0)))) (by decide)) (cwV 2 hts gX4_calculate_X3_putNumber rfl rfl rfl (by decide +kernel) ⟨Nat.le_of_ble_eq_true rfl, Nat.le_of_ble_eq_true rfl⟩) rfl hl.1 rfl (Nat.le_of_ble_eq_true rfl) dX4_calculate_271 ⟨Nat.le_of_ble_eq_true rfl, Nat.le_of_ble_eq_true rfl⟩ (fun E u9 hw_271 => (by unfold Xdesk_calculate; first | simp only [hw_2, eq_false s_82_42, eq_false s_82_43, eq_false s_82_44, eq_false s_82_45, eq_false s_82_46, eq_false s_82_47, hw_250, hw_260, hw_271, ↓reduceIte] | rfl)) (fun u_271 H locs hw_271 G => ?_)
  have hv_271 : xWF u_271 := putNumber_wf hv_260 hw_271
  exact xq_ret (x_vret X G hr hlocks (by unfold Xdesk_calculate; first | simp only [hw_2, eq_false s_82_42, eq_false s_82_43, eq_false s_82_44, eq_false s_82_45, eq_false s_82_46, eq_false s_82_47, hw_250, hw_260, hw_271, ↓reduceIte] | rfl) dX4_calculate_274)
def Xdesk_changeNumber (σ : XS) (k0 : Int32) : (String × XS) ⊕ XS := (match Xdesk_needNumbers σ 1 with | .inl e9 => .inl e9 | .inr u2 => if k0 = 107 then ((match D_asPlaces (Xsh_valueAt σ 6 (Xsh_slotBelowTop σ 6 0)) (Xsh_placesAt σ 6 (Xsh_slotBelowTop σ 6 0)) with | .inl e9 => .inl (e9, σ) | .inr r48 => let q_59 := Xsh_drop (xi σ 0 r48) 6 1; .inr q_59)) else if k0 = 118 then ((match D_root (Xsh_valueAt σ 6 (Xsh_slotBelowTop σ 6 0)) (Xsh_placesAt σ 6 (Xsh_slotBelowTop σ 6 0)) (if (σ.1 0) < (Xsh_placesAt σ 6 (Xsh_slotBelowTop σ 6 0)) then (Xsh_placesAt σ 6 (Xsh_slotBelowTop σ 6 0)) else (σ.1 0)) with | .inl e9 => .inl (e9, σ) | .inr r87 => let q_97 := Xsh_drop σ 6 1; (match Xsh_putNumber q_97 6 r87 (if (σ.1 0) < (Xsh_placesAt σ 6 (Xsh_slotBelowTop σ 6 0)) then (Xsh_placesAt σ 6 (Xsh_slotBelowTop σ 6 0)) else (σ.1 0)) with | .inl e9 => .inl e9 | .inr u108 => .inr u108))) else if k0 = 126 then (let q_125 := Xsh_drop σ 6 1; (match Xsh_putNumber q_125 6 (-(Xsh_valueAt σ 6 (Xsh_slotBelowTop σ 6 0))) (Xsh_placesAt σ 6 (Xsh_slotBelowTop σ 6 0)) with | .inl e9 => .inl e9 | .inr u136 => .inr u136)) else let q_147 := Xsh_drop σ 6 1; (match Xsh_putNumber q_147 6 ((Xsh_placesAt σ 6 (Xsh_slotBelowTop σ 6 0)).toInt64) 0 with | .inl e9 => .inl e9 | .inr u158 => .inr u158))
set_option maxHeartbeats 4000000 in
set_option maxRecDepth 100000 in
theorem c_Xdesk_changeNumber (l : Launch) (hl9 : l.stackTraces = false) (dC : Nat → ClassId) (dI : Nat → Nat → Nat) (kc : Nat → ClassId) (ad : Nat → Nat) (sz : Nat) (σ : XS) (k0 : Int32) (hrv : xWF σ) : xq_Met l yX4_changeNumber wsX4_changeNumber ({ frames := 9, cells := 1, slots := 6, locals := 159 } : Room) (va_Pc [.ref (ad 0), .int k0] (xPre dC dI kc ad sz σ)) (va_Qv (fun u => Xdesk_changeNumber σ k0 = .inr u) (xAt dC dI kc ad (xA kc ad σ sz)) (xA kc ad σ sz)) (xE (Xdesk_changeNumber σ k0) dC dI kc ad (xA kc ad σ sz)) 0 0 1 6 (xA kc ad σ sz) := by
  refine y_ofW (cc := cX4_changeNumber) (maxL := 8) (ret := none) (by decide) rfl rfl (Nat.le_of_ble_eq_true rfl) ?_
  intro p e s m below meth c X G hA hr hlocks hml hEx ls hl
  have hl : lv_has ls 8 [(0, .ref (ad 0)), (1, .int k0)] := hl
  have hx := X.1
  have hb := X.2.1
  have hts := X.2.2.1
  have hown := X.2.2.2.1
  have hz := X.2.2.2.2.2
  have hin3 : ∀ w ∈ wsX30, w ∈ wsX4_changeNumber := (fun w hw => List.mem_cons_of_mem _ (List.mem_append_left _ (List.mem_append_left _ (List.mem_append_left _ (List.mem_append_left _ (List.mem_append_left _ (List.mem_append_right _ hw)))))))
  have hin4 : ∀ w ∈ wsX40, w ∈ wsX4_changeNumber := (fun w hw => List.mem_cons_of_mem _ (List.mem_append_left _ (List.mem_append_left _ (List.mem_append_left _ (List.mem_append_left _ (List.mem_append_left _ (List.mem_append_left _ (List.mem_append_right _ hw))))))))
  refine lv_aload_n hx hb dX4_changeNumber_0 rfl (lv_at hl 0 rfl) ?_
  refine lv_iconst (v := 1) hx hb dX4_changeNumber_1 (by decide) ?_
  refine y_callv (As := [.int 1]) (rest := []) X hml G hA hEx hlocks xW_desk rfl (c_Xdesk_needNumbers l hl9 dC dI kc ad _ σ 1 (by decide) (by decide)) (cwV 1 hts gX4_changeNumber_X4_needNumbers rfl rfl rfl (by decide +kernel) ⟨Nat.le_of_ble_eq_true rfl, Nat.le_of_ble_eq_true rfl⟩) rfl hl.1 rfl (Nat.le_of_ble_eq_true rfl) dX4_changeNumber_2 ⟨Nat.le_of_ble_eq_true rfl, Nat.le_of_ble_eq_true rfl⟩ (fun E u9 hw_2 => (by unfold Xdesk_changeNumber; first | simp only [hw_2, ↓reduceIte] | rfl)) (fun u_2 H locs hw_2 G => ?_)
  have hs_2 := needNumbers_s hw_2
  subst hs_2
  refine lv_aload_n hx hb dX4_changeNumber_5 rfl (lv_at hl 0 rfl) ?_
  refine x_dget_0 X G hin4 (by decide +kernel) dX4_changeNumber_6 ?_
  refine lv_aload_n hx hb dX4_changeNumber_9 rfl (lv_at hl 0 rfl) ?_
  refine x_dget_0 X G hin4 (by decide +kernel) dX4_changeNumber_10 ?_
  refine lv_iconst (v := 0) hx hb dX4_changeNumber_13 (by decide) ?_
  refine x_calli (As := [.int 0]) (rest := [.ref (ad 6)]) X hml G hA (xW_sh (by decide)) rfl (c_Xsh_slotBelowTop l dC dI kc ad _ σ 6 0 (by decide)) (cwV 1 hts gX4_changeNumber_X3_slotBelowTop rfl rfl rfl (by decide +kernel) ⟨Nat.le_of_ble_eq_true rfl, Nat.le_of_ble_eq_true rfl⟩) rfl hl.1 rfl (Nat.le_of_ble_eq_true rfl) dX4_changeNumber_14 ⟨Nat.zero_le _, Nat.zero_le _⟩ (fun r_14 u_14 H locs hw_14 G => ?_)
  obtain ⟨rfl, hu_14⟩ := hw_14
  rw [hu_14] at G
  refine x_calll (As := [.int (Xsh_slotBelowTop σ 6 0)]) (rest := []) X hml G hA (xW_sh (by decide)) rfl (c_Xsh_valueAt l dC dI kc ad _ σ 6 (Xsh_slotBelowTop σ 6 0) (by decide)) (cwV 1 hts gX4_changeNumber_X3_valueAt rfl rfl rfl (by decide +kernel) ⟨Nat.le_of_ble_eq_true rfl, Nat.le_of_ble_eq_true rfl⟩) rfl hl.1 rfl (Nat.le_of_ble_eq_true rfl) dX4_changeNumber_17 ⟨Nat.zero_le _, Nat.zero_le _⟩ (fun r_17 u_17 H locs hw_17 G => ?_)
  obtain ⟨rfl, hu_17⟩ := hw_17
  rw [hu_17] at G
  refine lv_lstore_n (lv' := [(2, .long (Xsh_valueAt σ 6 (Xsh_slotBelowTop σ 6 0))), (0, .ref (ad 0)), (1, .int k0)]) hx hb dX4_changeNumber_20 rfl hl (by decide) rfl (fun ls hl => ?_)
  refine lv_aload_n hx hb dX4_changeNumber_21 rfl (lv_at hl 1 rfl) ?_
  refine x_dget_0 X G hin4 (by decide +kernel) dX4_changeNumber_22 ?_
  refine lv_aload_n hx hb dX4_changeNumber_25 rfl (lv_at hl 1 rfl) ?_
  refine x_dget_0 X G hin4 (by decide +kernel) dX4_changeNumber_26 ?_
  refine lv_iconst (v := 0) hx hb dX4_changeNumber_29 (by decide) ?_
  refine x_calli (As := [.int 0]) (rest := [.ref (ad 6)]) X hml G hA (xW_sh (by decide)) rfl (c_Xsh_slotBelowTop l dC dI kc ad _ σ 6 0 (by decide)) (cwV 1 hts gX4_changeNumber_X3_slotBelowTop rfl rfl rfl (by decide +kernel) ⟨Nat.le_of_ble_eq_true rfl, Nat.le_of_ble_eq_true rfl⟩) rfl hl.1 rfl (Nat.le_of_ble_eq_true rfl) dX4_changeNumber_30 ⟨Nat.zero_le _, Nat.zero_le _⟩ (fun r_30 u_30 H locs hw_30 G => ?_)
  obtain ⟨rfl, hu_30⟩ := hw_30
  rw [hu_30] at G
  refine x_calli (As := [.int (Xsh_slotBelowTop σ 6 0)]) (rest := []) X hml G hA (xW_sh (by decide)) rfl (c_Xsh_placesAt l dC dI kc ad _ σ 6 (Xsh_slotBelowTop σ 6 0) (by decide)) (cwV 1 hts gX4_changeNumber_X3_placesAt rfl rfl rfl (by decide +kernel) ⟨Nat.le_of_ble_eq_true rfl, Nat.le_of_ble_eq_true rfl⟩) rfl hl.1 rfl (Nat.le_of_ble_eq_true rfl) dX4_changeNumber_33 ⟨Nat.zero_le _, Nat.zero_le _⟩ (fun r_33 u_33 H locs hw_33 G => ?_)
  obtain ⟨rfl, hu_33⟩ := hw_33
  rw [hu_33] at G
  refine lv_istore (lv' := [(4, .int (Xsh_placesAt σ 6 (Xsh_slotBelowTop σ 6 0))), (2, .long (Xsh_valueAt σ 6 (Xsh_slotBelowTop σ 6 0))), (0, .ref (ad 0)), (1, .int k0)]) hx hb dX4_changeNumber_36 hl (by decide) rfl (fun ls hl => ?_)
  refine lv_iload_n hx hb dX4_changeNumber_38 rfl (lv_at hl 3 rfl) ?_
  refine lv_bipush (v := 107) hx hb dX4_changeNumber_39 (by decide) ?_
  refine lv_icmp_ne (tgt := 65) hx hb dX4_changeNumber_41 (by decide) (fun c_41 => ?_) (fun c_41 => ?_)
  · have c_41 : ¬ (k0 = 107) := c_41
    refine lv_iload_n hx hb dX4_changeNumber_65 rfl (lv_at hl 3 rfl) ?_
    refine lv_bipush (v := 118) hx hb dX4_changeNumber_66 (by decide) ?_
    refine lv_icmp_ne (tgt := 114) hx hb dX4_changeNumber_68 (by decide) (fun c_68 => ?_) (fun c_68 => ?_)
    · have c_68 : ¬ (k0 = 118) := c_68
      refine lv_iload_n hx hb dX4_changeNumber_114 rfl (lv_at hl 3 rfl) ?_
      refine lv_bipush (v := 126) hx hb dX4_changeNumber_115 (by decide) ?_
      refine lv_icmp_ne (tgt := 142) hx hb dX4_changeNumber_117 (by decide) (fun c_117 => ?_) (fun c_117 => ?_)
      · have c_117 : ¬ (k0 = 126) := c_117
        refine lv_aload_n hx hb dX4_changeNumber_142 rfl (lv_at hl 2 rfl) ?_
        refine x_dget_0 X G hin4 (by decide +kernel) dX4_changeNumber_143 ?_
        refine lv_iconst (v := 1) hx hb dX4_changeNumber_146 (by decide) ?_
        refine x_callv (As := [.int 1]) (rest := []) X hml G hA (xW_sh (by decide)) rfl (c_Xsh_drop l dC dI kc ad _ σ 6 1 (by decide)) (cwV 1 hts gX4_changeNumber_X3_drop rfl rfl rfl (by decide +kernel) ⟨Nat.le_of_ble_eq_true rfl, Nat.le_of_ble_eq_true rfl⟩) rfl hl.1 rfl (Nat.le_of_ble_eq_true rfl) dX4_changeNumber_147 ⟨Nat.zero_le _, Nat.zero_le _⟩ (fun u_147 H locs hw_147 G => ?_)
        have hv_147 : xWF u_147 := by have h9 : xWF (Xsh_drop σ 6 1) := drop_wf hrv; rw [hw_147] at h9; exact h9
        refine lv_aload_n hx hb dX4_changeNumber_150 rfl (lv_at hl 2 rfl) ?_
        refine x_dget_0 X G hin4 (by decide +kernel) dX4_changeNumber_151 ?_
        refine lv_iload hx hb dX4_changeNumber_154 (lv_at hl 0 rfl) ?_
        refine lv_i2l hx hb dX4_changeNumber_156 rfl ?_
        refine lv_iconst (v := 0) hx hb dX4_changeNumber_157 (by decide) ?_
        refine y_callv (As := [.long ((Xsh_placesAt σ 6 (Xsh_slotBelowTop σ 6 0)).toInt64), .int 0]) (rest := []) X hml G hA hEx hlocks (xW_sh (by decide)) rfl (c_Xsh_putNumber l hl9 dC dI kc ad _ u_147 6 ((Xsh_placesAt σ 6 (Xsh_slotBelowTop σ 6 0)).toInt64) 0 (by decide)) (cwV 2 hts gX4_changeNumber_X3_putNumber rfl rfl rfl (by decide +kernel) ⟨Nat.le_of_ble_eq_true rfl, Nat.le_of_ble_eq_true rfl⟩) rfl hl.1 rfl (Nat.le_of_ble_eq_true rfl) dX4_changeNumber_158 ⟨Nat.le_of_ble_eq_true rfl, Nat.le_of_ble_eq_true rfl⟩ (fun E u9 hw_158 => (by unfold Xdesk_changeNumber; first | simp only [hw_2, eq_false c_41, eq_false c_68, eq_false c_117, hw_147, hw_158, ↓reduceIte] | rfl)) (fun u_158 H locs hw_158 G => ?_)
        have hv_158 : xWF u_158 := putNumber_wf hv_147 hw_158
        exact xq_ret (x_vret X G hr hlocks (by unfold Xdesk_changeNumber; first | simp only [hw_2, eq_false c_41, eq_false c_68, eq_false c_117, hw_147, hw_158, ↓reduceIte] | rfl) dX4_changeNumber_161)
      · have c_117 : k0 = 126 := c_117
        refine lv_aload_n hx hb dX4_changeNumber_120 rfl (lv_at hl 2 rfl) ?_
        refine x_dget_0 X G hin4 (by decide +kernel) dX4_changeNumber_121 ?_
        refine lv_iconst (v := 1) hx hb dX4_changeNumber_124 (by decide) ?_
        refine x_callv (As := [.int 1]) (rest := []) X hml G hA (xW_sh (by decide)) rfl (c_Xsh_drop l dC dI kc ad _ σ 6 1 (by decide)) (cwV 1 hts gX4_changeNumber_X3_drop rfl rfl rfl (by decide +kernel) ⟨Nat.le_of_ble_eq_true rfl, Nat.le_of_ble_eq_true rfl⟩) rfl hl.1 rfl (Nat.le_of_ble_eq_true rfl) dX4_changeNumber_125 ⟨Nat.zero_le _, Nat.zero_le _⟩ (fun u_125 H locs hw_125 G => ?_)
        have hv_125 : xWF u_125 := by have h9 : xWF (Xsh_drop σ 6 1) := drop_wf hrv; rw [hw_125] at h9; exact h9
        refine lv_aload_n hx hb dX4_changeNumber_128 rfl (lv_at hl 2 rfl) ?_
        refine x_dget_0 X G hin4 (by decide +kernel) dX4_changeNumber_129 ?_
        refine lv_lload_n hx hb dX4_changeNumber_132 rfl (lv_at hl 1 rfl) ?_
        refine lv_lneg hx hb dX4_changeNumber_133 ?_
        refine lv_iload hx hb dX4_changeNumber_134 (lv_at hl 0 rfl) ?_
        refine y_callv (As := [.long (-(Xsh_valueAt σ 6 (Xsh_slotBelowTop σ 6 0))), .int (Xsh_placesAt σ 6 (Xsh_slotBelowTop σ 6 0))]) (rest := []) X hml G hA hEx hlocks (xW_sh (by decide)) rfl (c_Xsh_putNumber l hl9 dC dI kc ad _ u_125 6 (-(Xsh_valueAt σ 6 (Xsh_slotBelowTop σ 6 0))) (Xsh_placesAt σ 6 (Xsh_slotBelowTop σ 6 0)) (by decide)) (cwV 2 hts gX4_changeNumber_X3_putNumber rfl rfl rfl (by decide +kernel) ⟨Nat.le_of_ble_eq_true rfl, Nat.le_of_ble_eq_true rfl⟩) rfl hl.1 rfl (Nat.le_of_ble_eq_true rfl) dX4_changeNumber_136 ⟨Nat.le_of_ble_eq_true rfl, Nat.le_of_ble_eq_true rfl⟩ (fun E u9 hw_136 => (by unfold Xdesk_changeNumber; first | simp only [hw_2, eq_false c_41, eq_false c_68, eq_true c_117, hw_125, hw_136, ↓reduceIte] | rfl)) (fun u_136 H locs hw_136 G => ?_)
        have hv_136 : xWF u_136 := putNumber_wf hv_125 hw_136
        refine lv_goto (tgt := 161) hx hb dX4_changeNumber_139 (by decide) ?_
        exact xq_ret (x_vret X G hr hlocks (by unfold Xdesk_changeNumber; first | simp only [hw_2, eq_false c_41, eq_false c_68, eq_true c_117, hw_125, hw_136, ↓reduceIte] | rfl) dX4_changeNumber_161)
    · have c_68 : k0 = 118 := c_68
      refine lv_aload_n hx hb dX4_changeNumber_71 rfl (lv_at hl 2 rfl) ?_
      refine x_dget_5 X G hin4 (by decide +kernel) dX4_changeNumber_72 ?_
      refine lv_iload hx hb dX4_changeNumber_75 (lv_at hl 0 rfl) ?_
      refine va_mmax (own := RX4) hx hb (hml.trans hl.1.symm) hown (hts (.methodLink RX4 185 Lib.Math.max.name) (by decide +kernel)) (hts (.static Lib.Math.max.name) (by decide +kernel)) (hts (.initialized "java/lang/Math") (by decide +kernel)) (hts (.code Lib.Math.max.name Lib.Math.max.code 2 (some .int)) (by decide +kernel)) (Nat.le_of_ble_eq_true rfl) (Nat.le_of_ble_eq_true rfl) (Nat.le_of_ble_eq_true rfl) (Nat.le_of_ble_eq_true rfl) dX4_changeNumber_77 ?_
      refine lv_istore (lv' := [(5, .int (if (σ.1 0) < (Xsh_placesAt σ 6 (Xsh_slotBelowTop σ 6 0)) then (Xsh_placesAt σ 6 (Xsh_slotBelowTop σ 6 0)) else (σ.1 0))), (4, .int (Xsh_placesAt σ 6 (Xsh_slotBelowTop σ 6 0))), (2, .long (Xsh_valueAt σ 6 (Xsh_slotBelowTop σ 6 0))), (0, .ref (ad 0)), (1, .int k0)]) hx hb dX4_changeNumber_80 hl (by decide) rfl (fun ls hl => ?_)
      refine lv_lload_n hx hb dX4_changeNumber_82 rfl (lv_at hl 2 rfl) ?_
      refine lv_iload hx hb dX4_changeNumber_83 (lv_at hl 1 rfl) ?_
      refine lv_iload hx hb dX4_changeNumber_85 (lv_at hl 0 rfl) ?_
      refine y_callDl (As := [.long (Xsh_valueAt σ 6 (Xsh_slotBelowTop σ 6 0)), .int (Xsh_placesAt σ 6 (Xsh_slotBelowTop σ 6 0)), .int (if (σ.1 0) < (Xsh_placesAt σ 6 (Xsh_slotBelowTop σ 6 0)) then (Xsh_placesAt σ 6 (Xsh_slotBelowTop σ 6 0)) else (σ.1 0))]) (rest := []) X hml G hA hEx hlocks (c_D_root l hl9 _ (Xsh_valueAt σ 6 (Xsh_slotBelowTop σ 6 0)) (Xsh_placesAt σ 6 (Xsh_slotBelowTop σ 6 0)) (if (σ.1 0) < (Xsh_placesAt σ 6 (Xsh_slotBelowTop σ 6 0)) then (Xsh_placesAt σ 6 (Xsh_slotBelowTop σ 6 0)) else (σ.1 0))) (va_cwS 3 hts gX4_changeNumber_X0_root rfl rfl rfl (by decide +kernel) ⟨(Nat.le_of_ble_eq_true rfl), (Nat.le_of_ble_eq_true rfl)⟩) rfl hl.1 rfl (Nat.le_of_ble_eq_true rfl) dX4_changeNumber_87 ⟨(Nat.le_of_ble_eq_true rfl), (Nat.le_of_ble_eq_true rfl)⟩ (fun E hw_87 => (by unfold Xdesk_changeNumber; first | simp only [hw_2, eq_false c_41, eq_true c_68, hw_87, ↓reduceIte] | rfl)) (fun r_87 H locs hw_87 G => ?_)
      refine lv_lstore (lv' := [(6, .long r_87), (5, .int (if (σ.1 0) < (Xsh_placesAt σ 6 (Xsh_slotBelowTop σ 6 0)) then (Xsh_placesAt σ 6 (Xsh_slotBelowTop σ 6 0)) else (σ.1 0))), (4, .int (Xsh_placesAt σ 6 (Xsh_slotBelowTop σ 6 0))), (2, .long (Xsh_valueAt σ 6 (Xsh_slotBelowTop σ 6 0))), (0, .ref (ad 0)), (1, .int k0)]) hx hb dX4_changeNumber_90 hl (by decide) rfl (fun ls hl => ?_)
      refine lv_aload_n hx hb dX4_changeNumber_92 rfl (lv_at hl 4 rfl) ?_
      refine x_dget_0 X G hin4 (by decide +kernel) dX4_changeNumber_93 ?_
      refine lv_iconst (v := 1) hx hb dX4_changeNumber_96 (by decide) ?_
      refine x_callv (As := [.int 1]) (rest := []) X hml G hA (xW_sh (by decide)) rfl (c_Xsh_drop l dC dI kc ad _ σ 6 1 (by decide)) (cwV 1 hts gX4_changeNumber_X3_drop rfl rfl rfl (by decide +kernel) ⟨Nat.le_of_ble_eq_true rfl, Nat.le_of_ble_eq_true rfl⟩) rfl hl.1 rfl (Nat.le_of_ble_eq_true rfl) dX4_changeNumber_97 ⟨Nat.zero_le _, Nat.zero_le _⟩ (fun u_97 H locs hw_97 G => ?_)
      have hv_97 : xWF u_97 := by have h9 : xWF (Xsh_drop σ 6 1) := drop_wf hrv; rw [hw_97] at h9; exact h9
      refine lv_aload_n hx hb dX4_changeNumber_100 rfl (lv_at hl 4 rfl) ?_
      refine x_dget_0 X G hin4 (by decide +kernel) dX4_changeNumber_101 ?_
      refine lv_lload hx hb dX4_changeNumber_104 (lv_at hl 0 rfl) ?_
      refine lv_iload hx hb dX4_changeNumber_106 (lv_at hl 1 rfl) ?_
      refine y_callv (As := [.long r_87, .int (if (σ.1 0) < (Xsh_placesAt σ 6 (Xsh_slotBelowTop σ 6 0)) then (Xsh_placesAt σ 6 (Xsh_slotBelowTop σ 6 0)) else (σ.1 0))]) (rest := []) X hml G hA hEx hlocks (xW_sh (by decide)) rfl (c_Xsh_putNumber l hl9 dC dI kc ad _ u_97 6 r_87 (if (σ.1 0) < (Xsh_placesAt σ 6 (Xsh_slotBelowTop σ 6 0)) then (Xsh_placesAt σ 6 (Xsh_slotBelowTop σ 6 0)) else (σ.1 0)) (by decide)) (cwV 2 hts gX4_changeNumber_X3_putNumber rfl rfl rfl (by decide +kernel) ⟨Nat.le_of_ble_eq_true rfl, Nat.le_of_ble_eq_true rfl⟩) rfl hl.1 rfl (Nat.le_of_ble_eq_true rfl) dX4_changeNumber_108 ⟨Nat.le_of_ble_eq_true rfl, Nat.le_of_ble_eq_true rfl⟩ (fun E u9 hw_108 => (by unfold Xdesk_changeNumber; first | simp only [hw_2, eq_false c_41, eq_true c_68, hw_87, hw_97, hw_108, ↓reduceIte] | rfl)) (fun u_108 H locs hw_108 G => ?_)
      have hv_108 : xWF u_108 := putNumber_wf hv_97 hw_108
      refine lv_goto (tgt := 161) hx hb dX4_changeNumber_111 (by decide) ?_
      exact xq_ret (x_vret X G hr hlocks (by unfold Xdesk_changeNumber; first | simp only [hw_2, eq_false c_41, eq_true c_68, hw_87, hw_97, hw_108, ↓reduceIte] | rfl) dX4_changeNumber_161)
  · have c_41 : k0 = 107 := c_41
    refine lv_aload_n hx hb dX4_changeNumber_44 rfl (lv_at hl 2 rfl) ?_
    refine lv_lload_n hx hb dX4_changeNumber_45 rfl (lv_at hl 1 rfl) ?_
    refine lv_iload hx hb dX4_changeNumber_46 (lv_at hl 0 rfl) ?_
    refine y_callDi (As := [.long (Xsh_valueAt σ 6 (Xsh_slotBelowTop σ 6 0)), .int (Xsh_placesAt σ 6 (Xsh_slotBelowTop σ 6 0))]) (rest := [.ref (ad 0)]) X hml G hA hEx hlocks (c_D_asPlaces l hl9 _ (Xsh_valueAt σ 6 (Xsh_slotBelowTop σ 6 0)) (Xsh_placesAt σ 6 (Xsh_slotBelowTop σ 6 0))) (va_cwS 2 hts gX4_changeNumber_X0_asPlaces rfl rfl rfl (by decide +kernel) ⟨(Nat.le_of_ble_eq_true rfl), (Nat.le_of_ble_eq_true rfl)⟩) rfl hl.1 rfl (Nat.le_of_ble_eq_true rfl) dX4_changeNumber_48 ⟨(Nat.le_of_ble_eq_true rfl), (Nat.le_of_ble_eq_true rfl)⟩ (fun E hw_48 => (by unfold Xdesk_changeNumber; first | simp only [hw_2, eq_true c_41, hw_48, ↓reduceIte] | rfl)) (fun r_48 H locs hw_48 G => ?_)
    refine x_dput_5 X G hin4 (by decide +kernel) dX4_changeNumber_51 (fun H locs G => ?_)
    have G : xH dC dI kc ad (xi σ 0 r_48) _ s.heap H locs := G
    refine lv_aload_n hx hb dX4_changeNumber_54 rfl (lv_at hl 2 rfl) ?_
    refine x_dget_0 X G hin4 (by decide +kernel) dX4_changeNumber_55 ?_
    refine lv_iconst (v := 1) hx hb dX4_changeNumber_58 (by decide) ?_
    refine x_callv (As := [.int 1]) (rest := []) X hml G hA (xW_sh (by decide)) rfl (c_Xsh_drop l dC dI kc ad _ (xi σ 0 r_48) 6 1 (by decide)) (cwV 1 hts gX4_changeNumber_X3_drop rfl rfl rfl (by decide +kernel) ⟨Nat.le_of_ble_eq_true rfl, Nat.le_of_ble_eq_true rfl⟩) rfl hl.1 rfl (Nat.le_of_ble_eq_true rfl) dX4_changeNumber_59 ⟨Nat.zero_le _, Nat.zero_le _⟩ (fun u_59 H locs hw_59 G => ?_)
    have hv_59 : xWF u_59 := by have h9 : xWF (Xsh_drop (xi σ 0 r_48) 6 1) := drop_wf hrv; rw [hw_59] at h9; exact h9
    refine lv_goto (tgt := 161) hx hb dX4_changeNumber_62 (by decide) ?_
    exact xq_ret (x_vret X G hr hlocks (by unfold Xdesk_changeNumber; first | simp only [hw_2, eq_true c_41, hw_48, hw_59, ↓reduceIte] | rfl) dX4_changeNumber_161)
def Xdesk_arrangeStack (σ : XS) (k0 : Int32) : (String × XS) ⊕ XS := if k0 = 68 then ((match Xdesk_needItems σ 1 with | .inl e9 => .inl e9 | .inr u104 => let q_112 := Xsh_drop σ 6 1; .inr q_112)) else if k0 = 75 then ((match Xsh_putNumber σ 6 ((σ.1 0).toInt64) 0 with | .inl e9 => .inl e9 | .inr u157 => .inr u157)) else if k0 = 99 then (let q_122 := Xsh_clear σ 6; .inr q_122) else if k0 = 100 then ((match Xdesk_needItems σ 1 with | .inl e9 => .inl e9 | .inr u70 => (match Xsh_putTopOf σ 6 6 with | .inl e9 => .inl e9 | .inr u81 => .inr u81))) else if k0 = 112 then ((match Xdesk_needItems σ 1 with | .inl e9 => .inl e9 | .inr u165 => if (Xsh_isFull σ 31) = 0 then ((match Xsh_putTopOf σ 31 6 with | .inl e9 => .inl e9 | .inr u186 => .inr u186)) else .inr σ)) else if k0 = 114 then ((match Xdesk_needItems σ 2 with | .inl e9 => .inl e9 | .inr u89 => let q_96 := Xsh_swapTopTwo σ 6; .inr q_96)) else if k0 = 122 then ((match Xsh_putNumber σ 6 ((σ.1 6).toInt64) 0 with | .inl e9 => .inl e9 | .inr u141 => .inr u141)) else .inl ("java/lang/IllegalArgumentException", σ)
set_option maxHeartbeats 4000000 in
set_option maxRecDepth 100000 in
theorem c_Xdesk_arrangeStack (l : Launch) (hl9 : l.stackTraces = false) (dC : Nat → ClassId) (dI : Nat → Nat → Nat) (kc : Nat → ClassId) (ad : Nat → Nat) (sz : Nat) (σ : XS) (k0 : Int32) (hrv : xWF σ) : xq_Met l yX4_arrangeStack wsX4_arrangeStack ({ frames := 8, cells := 1, slots := 6, locals := 130 } : Room) (va_Pc [.ref (ad 0), .int k0] (xPre dC dI kc ad sz σ)) (va_Qv (fun u => Xdesk_arrangeStack σ k0 = .inr u) (xAt dC dI kc ad (xA kc ad σ sz)) (xA kc ad σ sz)) (xE (Xdesk_arrangeStack σ k0) dC dI kc ad (xA kc ad σ sz)) 0 0 1 6 (xA kc ad σ sz) := by
  refine y_ofW (cc := cX4_arrangeStack) (maxL := 2) (ret := none) (by decide) rfl rfl (Nat.le_of_ble_eq_true rfl) ?_
  intro p e s m below meth c X G hA hr hlocks hml hEx ls hl
  have hl : lv_has ls 2 [(0, .ref (ad 0)), (1, .int k0)] := hl
  have hx := X.1
  have hb := X.2.1
  have hts := X.2.2.1
  have hown := X.2.2.2.1
  have hz := X.2.2.2.2.2
  have hin3 : ∀ w ∈ wsX30, w ∈ wsX4_arrangeStack := (fun w hw => List.mem_cons_of_mem _ (List.mem_append_left _ (List.mem_append_left _ (List.mem_append_left _ (List.mem_append_right _ hw)))))
  have hin4 : ∀ w ∈ wsX40, w ∈ wsX4_arrangeStack := (fun w hw => List.mem_cons_of_mem _ (List.mem_append_left _ (List.mem_append_left _ (List.mem_append_left _ (List.mem_append_left _ (List.mem_append_right _ hw))))))
  refine lv_iload_n hx hb dX4_arrangeStack_0 rfl (lv_at hl 1 rfl) ?_
  by_cases s_1_68 : k0 = 68
  · refine lv_lookup (off := 101) (tgt := 102) hx hb dX4_arrangeStack_1 (by decide) (by rw [s_1_68]; rfl) (by decide) ?_
    refine lv_aload_n hx hb dX4_arrangeStack_102 rfl (lv_at hl 0 rfl) ?_
    refine lv_iconst (v := 1) hx hb dX4_arrangeStack_103 (by decide) ?_
    refine y_callv (As := [.int 1]) (rest := []) X hml G hA hEx hlocks xW_desk rfl (c_Xdesk_needItems l hl9 dC dI kc ad _ σ 1) (cwV 1 hts gX4_arrangeStack_X4_needItems rfl rfl rfl (by decide +kernel) ⟨Nat.le_of_ble_eq_true rfl, Nat.le_of_ble_eq_true rfl⟩) rfl hl.1 rfl (Nat.le_of_ble_eq_true rfl) dX4_arrangeStack_104 ⟨Nat.le_of_ble_eq_true rfl, Nat.le_of_ble_eq_true rfl⟩ (fun E u9 hw_104 => (by unfold Xdesk_arrangeStack; first | simp only [eq_true s_1_68, hw_104, ↓reduceIte] | rfl)) (fun u_104 H locs hw_104 G => ?_)
    have hs_104 := needItems_s hw_104
    subst hs_104
    refine lv_aload_n hx hb dX4_arrangeStack_107 rfl (lv_at hl 0 rfl) ?_
    refine x_dget_0 X G hin4 (by decide +kernel) dX4_arrangeStack_108 ?_
    refine lv_iconst (v := 1) hx hb dX4_arrangeStack_111 (by decide) ?_
    refine x_callv (As := [.int 1]) (rest := []) X hml G hA (xW_sh (by decide)) rfl (c_Xsh_drop l dC dI kc ad _ σ 6 1 (by decide)) (cwV 1 hts gX4_arrangeStack_X3_drop rfl rfl rfl (by decide +kernel) ⟨Nat.le_of_ble_eq_true rfl, Nat.le_of_ble_eq_true rfl⟩) rfl hl.1 rfl (Nat.le_of_ble_eq_true rfl) dX4_arrangeStack_112 ⟨Nat.zero_le _, Nat.zero_le _⟩ (fun u_112 H locs hw_112 G => ?_)
    have hv_112 : xWF u_112 := by have h9 : xWF (Xsh_drop σ 6 1) := drop_wf hrv; rw [hw_112] at h9; exact h9
    refine lv_goto (tgt := 202) hx hb dX4_arrangeStack_115 (by decide) ?_
    exact xq_ret (x_vret X G hr hlocks (by unfold Xdesk_arrangeStack; first | simp only [eq_true s_1_68, hw_104, hw_112, ↓reduceIte] | rfl) dX4_arrangeStack_202)
  by_cases s_1_75 : k0 = 75
  · refine lv_lookup (off := 146) (tgt := 147) hx hb dX4_arrangeStack_1 (by decide) (by rw [s_1_75]; rfl) (by decide) ?_
    refine lv_aload_n hx hb dX4_arrangeStack_147 rfl (lv_at hl 0 rfl) ?_
    refine x_dget_0 X G hin4 (by decide +kernel) dX4_arrangeStack_148 ?_
    refine lv_aload_n hx hb dX4_arrangeStack_151 rfl (lv_at hl 0 rfl) ?_
    refine x_dget_5 X G hin4 (by decide +kernel) dX4_arrangeStack_152 ?_
    refine lv_i2l hx hb dX4_arrangeStack_155 rfl ?_
    refine lv_iconst (v := 0) hx hb dX4_arrangeStack_156 (by decide) ?_
    refine y_callv (As := [.long ((σ.1 0).toInt64), .int 0]) (rest := []) X hml G hA hEx hlocks (xW_sh (by decide)) rfl (c_Xsh_putNumber l hl9 dC dI kc ad _ σ 6 ((σ.1 0).toInt64) 0 (by decide)) (cwV 2 hts gX4_arrangeStack_X3_putNumber rfl rfl rfl (by decide +kernel) ⟨Nat.le_of_ble_eq_true rfl, Nat.le_of_ble_eq_true rfl⟩) rfl hl.1 rfl (Nat.le_of_ble_eq_true rfl) dX4_arrangeStack_157 ⟨Nat.le_of_ble_eq_true rfl, Nat.le_of_ble_eq_true rfl⟩ (fun E u9 hw_157 => (by unfold Xdesk_arrangeStack; first | simp only [eq_false s_1_68, eq_true s_1_75, hw_157, ↓reduceIte] | rfl)) (fun u_157 H locs hw_157 G => ?_)
    have hv_157 : xWF u_157 := putNumber_wf hrv hw_157
    refine lv_goto (tgt := 202) hx hb dX4_arrangeStack_160 (by decide) ?_
    exact xq_ret (x_vret X G hr hlocks (by unfold Xdesk_arrangeStack; first | simp only [eq_false s_1_68, eq_true s_1_75, hw_157, ↓reduceIte] | rfl) dX4_arrangeStack_202)
  by_cases s_1_99 : k0 = 99
  · refine lv_lookup (off := 117) (tgt := 118) hx hb dX4_arrangeStack_1 (by decide) (by rw [s_1_99]; rfl) (by decide) ?_
    refine lv_aload_n hx hb dX4_arrangeStack_118 rfl (lv_at hl 0 rfl) ?_
    refine x_dget_0 X G hin4 (by decide +kernel) dX4_arrangeStack_119 ?_
    refine x_callv (As := []) (rest := []) X hml G hA (xW_sh (by decide)) rfl (c_Xsh_clear l dC dI kc ad _ σ 6 (by decide)) (cwV 0 hts gX4_arrangeStack_X3_clear rfl rfl rfl (by decide +kernel) ⟨Nat.le_of_ble_eq_true rfl, Nat.le_of_ble_eq_true rfl⟩) rfl hl.1 rfl (Nat.le_of_ble_eq_true rfl) dX4_arrangeStack_122 ⟨Nat.zero_le _, Nat.zero_le _⟩ (fun u_122 H locs hw_122 G => ?_)
    have hv_122 : xWF u_122 := by have h9 : xWF (Xsh_clear σ 6) := clear_wf hrv; rw [hw_122] at h9; exact h9
    refine lv_goto (tgt := 202) hx hb dX4_arrangeStack_125 (by decide) ?_
    exact xq_ret (x_vret X G hr hlocks (by unfold Xdesk_arrangeStack; first | simp only [eq_false s_1_68, eq_false s_1_75, eq_true s_1_99, hw_122, ↓reduceIte] | rfl) dX4_arrangeStack_202)
  by_cases s_1_100 : k0 = 100
  · refine lv_lookup (off := 67) (tgt := 68) hx hb dX4_arrangeStack_1 (by decide) (by rw [s_1_100]; rfl) (by decide) ?_
    refine lv_aload_n hx hb dX4_arrangeStack_68 rfl (lv_at hl 0 rfl) ?_
    refine lv_iconst (v := 1) hx hb dX4_arrangeStack_69 (by decide) ?_
    refine y_callv (As := [.int 1]) (rest := []) X hml G hA hEx hlocks xW_desk rfl (c_Xdesk_needItems l hl9 dC dI kc ad _ σ 1) (cwV 1 hts gX4_arrangeStack_X4_needItems rfl rfl rfl (by decide +kernel) ⟨Nat.le_of_ble_eq_true rfl, Nat.le_of_ble_eq_true rfl⟩) rfl hl.1 rfl (Nat.le_of_ble_eq_true rfl) dX4_arrangeStack_70 ⟨Nat.le_of_ble_eq_true rfl, Nat.le_of_ble_eq_true rfl⟩ (fun E u9 hw_70 => (by unfold Xdesk_arrangeStack; first | simp only [eq_false s_1_68, eq_false s_1_75, eq_false s_1_99, eq_true s_1_100, hw_70, ↓reduceIte] | rfl)) (fun u_70 H locs hw_70 G => ?_)
    have hs_70 := needItems_s hw_70
    subst hs_70
    refine lv_aload_n hx hb dX4_arrangeStack_73 rfl (lv_at hl 0 rfl) ?_
    refine x_dget_0 X G hin4 (by decide +kernel) dX4_arrangeStack_74 ?_
    refine lv_aload_n hx hb dX4_arrangeStack_77 rfl (lv_at hl 0 rfl) ?_
    refine x_dget_0 X G hin4 (by decide +kernel) dX4_arrangeStack_78 ?_
    refine y_callv (As := [.ref (ad 6)]) (rest := []) X hml G hA hEx hlocks (xW_sh (by decide)) rfl (c_Xsh_putTopOf l hl9 dC dI kc ad _ σ 6 6 (by decide) (by decide) hrv) (cwV 1 hts gX4_arrangeStack_X3_putTopOf rfl rfl rfl (by decide +kernel) ⟨Nat.le_of_ble_eq_true rfl, Nat.le_of_ble_eq_true rfl⟩) rfl hl.1 rfl (Nat.le_of_ble_eq_true rfl) dX4_arrangeStack_81 ⟨Nat.le_of_ble_eq_true rfl, Nat.le_of_ble_eq_true rfl⟩ (fun E u9 hw_81 => (by unfold Xdesk_arrangeStack; first | simp only [eq_false s_1_68, eq_false s_1_75, eq_false s_1_99, eq_true s_1_100, hw_70, hw_81, ↓reduceIte] | rfl)) (fun u_81 H locs hw_81 G => ?_)
    have hv_81 : xWF u_81 := putTopOf_wf hrv hw_81
    refine lv_goto (tgt := 202) hx hb dX4_arrangeStack_84 (by decide) ?_
    exact xq_ret (x_vret X G hr hlocks (by unfold Xdesk_arrangeStack; first | simp only [eq_false s_1_68, eq_false s_1_75, eq_false s_1_99, eq_true s_1_100, hw_70, hw_81, ↓reduceIte] | rfl) dX4_arrangeStack_202)
  by_cases s_1_112 : k0 = 112
  · refine lv_lookup (off := 162) (tgt := 163) hx hb dX4_arrangeStack_1 (by decide) (by rw [s_1_112]; rfl) (by decide) ?_
    refine lv_aload_n hx hb dX4_arrangeStack_163 rfl (lv_at hl 0 rfl) ?_
    refine lv_iconst (v := 1) hx hb dX4_arrangeStack_164 (by decide) ?_
    refine y_callv (As := [.int 1]) (rest := []) X hml G hA hEx hlocks xW_desk rfl (c_Xdesk_needItems l hl9 dC dI kc ad _ σ 1) (cwV 1 hts gX4_arrangeStack_X4_needItems rfl rfl rfl (by decide +kernel) ⟨Nat.le_of_ble_eq_true rfl, Nat.le_of_ble_eq_true rfl⟩) rfl hl.1 rfl (Nat.le_of_ble_eq_true rfl) dX4_arrangeStack_165 ⟨Nat.le_of_ble_eq_true rfl, Nat.le_of_ble_eq_true rfl⟩ (fun E u9 hw_165 => (by unfold Xdesk_arrangeStack; first | simp only [eq_false s_1_68, eq_false s_1_75, eq_false s_1_99, eq_false s_1_100, eq_true s_1_112, hw_165, ↓reduceIte] | rfl)) (fun u_165 H locs hw_165 G => ?_)
    have hs_165 := needItems_s hw_165
    subst hs_165
    refine lv_aload_n hx hb dX4_arrangeStack_168 rfl (lv_at hl 0 rfl) ?_
    refine x_dget_2 X G hin4 (by decide +kernel) dX4_arrangeStack_169 ?_
    refine x_calli (As := []) (rest := []) X hml G hA (xW_sh (by decide)) rfl (c_Xsh_isFull l dC dI kc ad _ σ 31 (by decide)) (cwV 0 hts gX4_arrangeStack_X3_isFull rfl rfl rfl (by decide +kernel) ⟨Nat.le_of_ble_eq_true rfl, Nat.le_of_ble_eq_true rfl⟩) rfl hl.1 rfl (Nat.le_of_ble_eq_true rfl) dX4_arrangeStack_172 ⟨Nat.zero_le _, Nat.zero_le _⟩ (fun r_172 u_172 H locs hw_172 G => ?_)
    obtain ⟨rfl, hu_172⟩ := hw_172
    rw [hu_172] at G
    refine lv_if_ne (tgt := 202) hx hb dX4_arrangeStack_175 (by decide) (fun c_175 => ?_) (fun c_175 => ?_)
    · have c_175 : ¬ ((Xsh_isFull σ 31) = 0) := c_175
      exact xq_ret (x_vret X G hr hlocks (by unfold Xdesk_arrangeStack; first | simp only [eq_false s_1_68, eq_false s_1_75, eq_false s_1_99, eq_false s_1_100, eq_true s_1_112, hw_165, eq_false c_175, ↓reduceIte] | rfl) dX4_arrangeStack_202)
    · have c_175 : (Xsh_isFull σ 31) = 0 := c_175
      refine lv_aload_n hx hb dX4_arrangeStack_178 rfl (lv_at hl 0 rfl) ?_
      refine x_dget_2 X G hin4 (by decide +kernel) dX4_arrangeStack_179 ?_
      refine lv_aload_n hx hb dX4_arrangeStack_182 rfl (lv_at hl 0 rfl) ?_
      refine x_dget_0 X G hin4 (by decide +kernel) dX4_arrangeStack_183 ?_
      refine y_callv (As := [.ref (ad 6)]) (rest := []) X hml G hA hEx hlocks (xW_sh (by decide)) rfl (c_Xsh_putTopOf l hl9 dC dI kc ad _ σ 31 6 (by decide) (by decide) hrv) (cwV 1 hts gX4_arrangeStack_X3_putTopOf rfl rfl rfl (by decide +kernel) ⟨Nat.le_of_ble_eq_true rfl, Nat.le_of_ble_eq_true rfl⟩) rfl hl.1 rfl (Nat.le_of_ble_eq_true rfl) dX4_arrangeStack_186 ⟨Nat.le_of_ble_eq_true rfl, Nat.le_of_ble_eq_true rfl⟩ (fun E u9 hw_186 => (by unfold Xdesk_arrangeStack; first | simp only [eq_false s_1_68, eq_false s_1_75, eq_false s_1_99, eq_false s_1_100, eq_true s_1_112, hw_165, eq_true c_175, hw_186, ↓reduceIte] | rfl)) (fun u_186 H locs hw_186 G => ?_)
      have hv_186 : xWF u_186 := putTopOf_wf hrv hw_186
      refine lv_goto (tgt := 202) hx hb dX4_arrangeStack_189 (by decide) ?_
      exact xq_ret (x_vret X G hr hlocks (by unfold Xdesk_arrangeStack; first | simp only [eq_false s_1_68, eq_false s_1_75, eq_false s_1_99, eq_false s_1_100, eq_true s_1_112, hw_165, eq_true c_175, hw_186, ↓reduceIte] | rfl) dX4_arrangeStack_202)
  by_cases s_1_114 : k0 = 114
  · refine lv_lookup (off := 86) (tgt := 87) hx hb dX4_arrangeStack_1 (by decide) (by rw [s_1_114]; rfl) (by decide) ?_
    refine lv_aload_n hx hb dX4_arrangeStack_87 rfl (lv_at hl 0 rfl) ?_
    refine lv_iconst (v := 2) hx hb dX4_arrangeStack_88 (by decide) ?_
    refine y_callv (As := [.int 2]) (rest := []) X hml G hA hEx hlocks xW_desk rfl (c_Xdesk_needItems l hl9 dC dI kc ad _ σ 2) (cwV 1 hts gX4_arrangeStack_X4_needItems rfl rfl rfl (by decide +kernel) ⟨Nat.le_of_ble_eq_true rfl, Nat.le_of_ble_eq_true rfl⟩) rfl hl.1 rfl (Nat.le_of_ble_eq_true rfl) dX4_arrangeStack_89 ⟨Nat.le_of_ble_eq_true rfl, Nat.le_of_ble_eq_true rfl⟩ (fun E u9 hw_89 => (by unfold Xdesk_arrangeStack; first | simp only [eq_false s_1_68, eq_false s_1_75, eq_false s_1_99, eq_false s_1_100, eq_false s_1_112, eq_true s_1_114, hw_89, ↓reduceIte] | rfl)) (fun u_89 H locs hw_89 G => ?_)
    have hs_89 := needItems_s hw_89
    subst hs_89
    refine lv_aload_n hx hb dX4_arrangeStack_92 rfl (lv_at hl 0 rfl) ?_
    refine x_dget_0 X G hin4 (by decide +kernel) dX4_arrangeStack_93 ?_
    refine x_callv (As := []) (rest := []) X hml G hA (xW_sh (by decide)) rfl (c_Xsh_swapTopTwo l dC dI kc ad _ σ 6 (by decide) hrv) (cwV 0 hts gX4_arrangeStack_X3_swapTopTwo rfl rfl rfl (by decide +kernel) ⟨Nat.le_of_ble_eq_true rfl, Nat.le_of_ble_eq_true rfl⟩) rfl hl.1 rfl (Nat.le_of_ble_eq_true rfl) dX4_arrangeStack_96 ⟨Nat.zero_le _, Nat.zero_le _⟩ (fun u_96 H locs hw_96 G => ?_)
    have hv_96 : xWF u_96 := by have h9 : xWF (Xsh_swapTopTwo σ 6) := swapTopTwo_wf hrv; rw [hw_96] at h9; exact h9
    refine lv_goto (tgt := 202) hx hb dX4_arrangeStack_99 (by decide) ?_
    exact xq_ret (x_vret X G hr hlocks (by unfold Xdesk_arrangeStack; first | simp only [eq_false s_1_68, eq_false s_1_75, eq_false s_1_99, eq_false s_1_100, eq_false s_1_112, eq_true s_1_114, hw_89, hw_96, ↓reduceIte] | rfl) dX4_arrangeStack_202)
  by_cases s_1_122 : k0 = 122
  · refine lv_lookup (off := 127) (tgt := 128) hx hb dX4_arrangeStack_1 (by decide) (by rw [s_1_122]; rfl) (by decide) ?_
    refine lv_aload_n hx hb dX4_arrangeStack_128 rfl (lv_at hl 0 rfl) ?_
    refine x_dget_0 X G hin4 (by decide +kernel) dX4_arrangeStack_129 ?_
    refine lv_aload_n hx hb dX4_arrangeStack_132 rfl (lv_at hl 0 rfl) ?_
    refine x_dget_0 X G hin4 (by decide +kernel) dX4_arrangeStack_133 ?_
    refine x_sget_4 X G hin3 (by decide) (by decide +kernel) dX4_arrangeStack_136 ?_
    refine lv_i2l hx hb dX4_arrangeStack_139 rfl ?_
    refine lv_iconst (v := 0) hx hb dX4_arrangeStack_140 (by decide) ?_
    refine y_callv (As := [.long ((σ.1 6).toInt64), .int 0]) (rest := []) X hml G hA hEx hlocks (xW_sh (by decide)) rfl (c_Xsh_putNumber l hl9 dC dI kc ad _ σ 6 ((σ.1 6).toInt64) 0 (by decide)) (cwV 2 hts gX4_arrangeStack_X3_putNumber rfl rfl rfl (by decide +kernel) ⟨Nat.le_of_ble_eq_true rfl, Nat.le_of_ble_eq_true rfl⟩) rfl hl.1 rfl (Nat.le_of_ble_eq_true rfl) dX4_arrangeStack_141 ⟨Nat.le_of_ble_eq_true rfl, Nat.le_of_ble_eq_true rfl⟩ (fun E u9 hw_141 => (by unfold Xdesk_arrangeStack; first | simp only [eq_false s_1_68, eq_false s_1_75, eq_false s_1_99, eq_false s_1_100, eq_false s_1_112, eq_false s_1_114, eq_true s_1_122, hw_141, ↓reduceIte] | rfl)) (fun u_141 H locs hw_141 G => ?_)
    have hv_141 : xWF u_141 := putNumber_wf hrv hw_141
    refine lv_goto (tgt := 202) hx hb dX4_arrangeStack_144 (by decide) ?_
    exact xq_ret (x_vret X G hr hlocks (by unfold Xdesk_arrangeStack; first | simp only [eq_false s_1_68, eq_false s_1_75, eq_false s_1_99, eq_false s_1_100, eq_false s_1_112, eq_false s_1_114, eq_true s_1_122, hw_141, ↓reduceIte] | rfl) dX4_arrangeStack_202)
  refine lv_lookup (off := 191) (tgt := 192) hx hb dX4_arrangeStack_1 (by decide) (show Op.lookupswitch.offset [(68, 101), (75, 146), (99, 117), (100, 67), (112, 162), (114, 86), (122, 127)] 191 k0.toInt = 191 by rw [lv_osw s_1_68 (by decide), lv_osw s_1_75 (by decide), lv_osw s_1_99 (by decide), lv_osw s_1_100 (by decide), lv_osw s_1_112 (by decide), lv_osw s_1_114 (by decide), lv_osw s_1_122 (by decide)]; rfl) (by decide) ?_
  obtain ⟨sa, hstr⟩ := zstr hz (own := RX4) (k := 236) (text := "no command begins with this character") (by decide +kernel)
  exact xq_thr (vx_throwS (own := RX4) (cls := "java/lang/IllegalArgumentException") (text := "no command begins with this character") (names := ["java/lang/RuntimeException", "java/lang/Exception"]) hx hb hl9 hown (by decide +kernel) (by decide +kernel) (hts (.classLink RX4 56 "java/lang/IllegalArgumentException") (by decide +kernel)) (hts (.initialized "java/lang/IllegalArgumentException") (by decide +kernel)) hstr (zhat hz hts (by decide +kernel) (fun w hw => List.mem_cons_of_mem _ (List.mem_append_left _ (List.mem_append_left _ (List.mem_append_right _ hw)))) (by decide +kernel)) (by decide +kernel) hz.2.1 hz.2.2.1 G.2.2 (hl.1.trans hml.symm) dX4_arrangeStack_192 dX4_arrangeStack_195 dX4_arrangeStack_196 dX4_arrangeStack_198 dX4_arrangeStack_201 (fun x hx => (hEx x hx).elim) (Nat.le_of_ble_eq_true rfl) (Nat.le_of_ble_eq_true rfl) (Nat.le_of_ble_eq_true rfl) (Nat.le_of_ble_eq_true rfl) hlocks (fun t ha hsz hk => ⟨σ, trivial, ⟨(by unfold Xdesk_arrangeStack; first | simp only [eq_false s_1_68, eq_false s_1_75, eq_false s_1_99, eq_false s_1_100, eq_false s_1_112, eq_false s_1_114, eq_false s_1_122, ↓reduceIte] | rfl), (y_kept X G ha hsz hk).1⟩, (y_kept X G ha hsz hk).2⟩) G.2.2.2.2 (Nat.le_of_ble_eq_true rfl) (Nat.le_of_ble_eq_true rfl))
theorem no_lr {α β : Type} {a : α} {b : β} {P : Prop} (h : (Sum.inl a : α ⊕ β) = Sum.inr b) : P := nomatch h
theorem xWF_xi {σ : XS} {k : Nat} {v : Int32} (h : xWF σ) : xWF (xi σ k v) := h
set_option maxHeartbeats 2000000 in
theorem calculate_wf {σ u : XS} {k0 : Int32} (h : xWF σ) (hw : Xdesk_calculate σ k0 = .inr u) : xWF u := by
  unfold Xdesk_calculate at hw
  simp only at hw
  repeat' split at hw
  all_goals first
    | with_reducible exact no_lr hw
    | (have hw := Sum.inr.inj hw; subst hw; first
      | with_reducible exact h
      | (rename_i h9; with_reducible exact putNumber_wf (drop_wf h) h9)
      | (rename_i h9; with_reducible exact putNumber_wf h h9)
      | with_reducible exact drop_wf h
      | (rename_i h9; with_reducible exact putTopOf_wf h h9)
      | with_reducible exact swapTopTwo_wf h
      | with_reducible exact clear_wf h
      | with_reducible exact drop_wf (xWF_xi h))
set_option maxHeartbeats 2000000 in
theorem changeNumber_wf {σ u : XS} {k0 : Int32} (h : xWF σ) (hw : Xdesk_changeNumber σ k0 = .inr u) : xWF u := by
  unfold Xdesk_changeNumber at hw
  simp only at hw
  repeat' split at hw
  all_goals first
    | with_reducible exact no_lr hw
    | (have hw := Sum.inr.inj hw; subst hw; first
      | with_reducible exact h
      | (rename_i h9; with_reducible exact putNumber_wf (drop_wf h) h9)
      | (rename_i h9; with_reducible exact putNumber_wf h h9)
      | with_reducible exact drop_wf h
      | (rename_i h9; with_reducible exact putTopOf_wf h h9)
      | with_reducible exact swapTopTwo_wf h
      | with_reducible exact clear_wf h
      | with_reducible exact drop_wf (xWF_xi h))
set_option maxHeartbeats 2000000 in
theorem arrangeStack_wf {σ u : XS} {k0 : Int32} (h : xWF σ) (hw : Xdesk_arrangeStack σ k0 = .inr u) : xWF u := by
  unfold Xdesk_arrangeStack at hw
  simp only at hw
  repeat' split at hw
  all_goals first
    | with_reducible exact no_lr hw
    | (have hw := Sum.inr.inj hw; subst hw; first
      | with_reducible exact h
      | (rename_i h9; with_reducible exact putNumber_wf (drop_wf h) h9)
      | (rename_i h9; with_reducible exact putNumber_wf h h9)
      | with_reducible exact drop_wf h
      | (rename_i h9; with_reducible exact putTopOf_wf h h9)
      | with_reducible exact swapTopTwo_wf h
      | with_reducible exact clear_wf h
      | with_reducible exact drop_wf (xWF_xi h))
