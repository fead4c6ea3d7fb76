theorem si_self {σ : MS} {k : Nat} {v : Int32} : (si σ k v).1 k = v := by simp [si, upd]
theorem sm_self {σ : MS} {v : Int64} : (sm σ v).2.1 = v := rfl
theorem si_snd {σ : MS} {k : Nat} {v : Int32} : (si σ k v).2 = σ.2 := rfl
theorem sm_fst {σ : MS} {v : Int64} : (sm σ v).1 = σ.1 := rfl
theorem si20_16 {σ : MS} {v : Int32} : (si σ 20 v).1 16 = σ.1 16 := rfl
theorem i_nle {a b : Int32} (h : ¬ a ≤ b) : b.toInt < a.toInt := by
  rw [Int32.le_iff_toInt_le] at h; omega
theorem i_le {a b : Int32} (h : a ≤ b) : a.toInt ≤ b.toInt := Int32.le_iff_toInt_le.mp h
theorem i_lt {a b : Int32} (h : a < b) : a.toInt < b.toInt := Int32.lt_iff_toInt_lt.mp h
theorem i_nlt {a b : Int32} (h : ¬ a < b) : b.toInt ≤ a.toInt := by
  rw [Int32.lt_iff_toInt_lt] at h; omega
theorem i_inc {j k : Int32} (h : ¬ k ≤ j) : (j + 1).toInt = j.toInt + 1 := by
  have h1 := i_nle h
  have h2 := k.toInt_lt
  have h3 := j.le_toInt
  exact i_addE rfl rfl (by omega) (by omega)
theorem mu_inc {j k : Int32} {n : Nat} (hm : (k.toInt - j.toInt).toNat < n + 1) (h : ¬ k ≤ j) : (k.toInt - (j + 1).toInt).toNat < n := by
  have h1 := i_nle h
  rw [i_inc h]; omega
theorem mu_0 (k : Int32) : (k.toInt - (0 : Int32).toInt).toNat < k.toInt.toNat + 1 := by
  have : (0 : Int32).toInt = 0 := rfl
  omega
set_option maxHeartbeats 4000000 in
set_option maxRecDepth 100000 in
theorem c_M_within (l : Launch) (x0 : Int64) (a0 : Int64) (b0 : Int64) : Met l yX5_within wsX5_within ({ frames := 0, cells := 0, slots := 0, locals := 0 } : Room) (va_Pc [.long x0, .long a0, .long b0] (fun _ => True)) (QcRead (f_within x0 a0 b0)) 0 0 (fun _ => False) := by
  refine s_ofW (cc := cX5_within) (maxL := 6) (ret := (some .boolean)) (cls := RX5) (by decide) rfl rfl (Nat.le_of_ble_eq_true rfl) ?_
  intro p e s m below meth c hx hb hts hown hr hlocks hml ls hl
  have hl : lv_has ls 6 [(0, .long x0), (2, .long a0), (4, .long b0)] := hl
  refine lv_lload_n hx hb dX5_within_0 rfl (lv_at hl 0 rfl) ?_
  refine lv_lload_n hx hb dX5_within_1 rfl (lv_at hl 1 rfl) ?_
  refine W.lcmp hx hb dX5_within_2 ?_
  refine lv_if_lt (tgt := 17) hx hb dX5_within_3 (by decide) (fun c_3 => ?_) (fun c_3 => ?_)
  · have c_3 := ((l_cmp_lt _ _).mp c_3)
    have c_3 : x0 < a0 := c_3
    refine lv_iconst (v := 0) hx hb dX5_within_17 (by decide) ?_
    exact W.zret hx hb hr rfl (fun t ht hW => ⟨(by simp only [f_within, eq_true c_3, ↓reduceIte, not_false_eq_true, not_true_eq_false, eq_self]), ht⟩) (fun q h => nomatch h) dX5_within_18 hlocks
  · have c_3 := (mt (l_cmp_lt _ _).mpr c_3)
    have c_3 : ¬ (x0 < a0) := c_3
    refine lv_lload_n hx hb dX5_within_6 rfl (lv_at hl 0 rfl) ?_
    refine lv_lload hx hb dX5_within_7 (lv_at hl 2 rfl) ?_
    refine W.lcmp hx hb dX5_within_9 ?_
    refine lv_if_gt (tgt := 17) hx hb dX5_within_10 (by decide) (fun c_10 => ?_) (fun c_10 => ?_)
    · have c_10 := ((l_cmp_gt _ _).mp c_10)
      have c_10 : b0 < x0 := c_10
      refine lv_iconst (v := 0) hx hb dX5_within_17 (by decide) ?_
      exact W.zret hx hb hr rfl (fun t ht hW => ⟨(by simp only [f_within, eq_false c_3, eq_true c_10, ↓reduceIte, not_false_eq_true, not_true_eq_false, eq_self]), ht⟩) (fun q h => nomatch h) dX5_within_18 hlocks
    · have c_10 := (mt (l_cmp_gt _ _).mpr c_10)
      have c_10 : ¬ (b0 < x0) := c_10
      refine lv_iconst (v := 1) hx hb dX5_within_13 (by decide) ?_
      refine lv_goto (tgt := 18) hx hb dX5_within_14 (by decide) ?_
      exact W.zret hx hb hr rfl (fun t ht hW => ⟨(by simp only [f_within, eq_false c_3, eq_false c_10, ↓reduceIte, not_false_eq_true, not_true_eq_false, eq_self]), ht⟩) (fun q h => nomatch h) dX5_within_18 hlocks
set_option maxHeartbeats 4000000 in
set_option maxRecDepth 100000 in
theorem c_M_isBig (l : Launch) (v0 : Int64) : Met l yX5_isBig wsX5_isBig ({ frames := 0, cells := 0, slots := 0, locals := 0 } : Room) (va_Pc [.long v0] (fun _ => True)) (QcRead (f_isBig v0)) 0 0 (fun _ => False) := by
  refine s_ofW (cc := cX5_isBig) (maxL := 2) (ret := (some .boolean)) (cls := RX5) (by decide) rfl rfl (Nat.le_of_ble_eq_true rfl) ?_
  intro p e s m below meth c hx hb hts hown hr hlocks hml ls hl
  have hl : lv_has ls 2 [(0, .long v0)] := hl
  refine lv_lload_n hx hb dX5_isBig_0 rfl (lv_at hl 0 rfl) ?_
  refine lv_ldc2 (v := 999999999999999999) hx hb hown (hts (.constantLong RX5 61 (999999999999999999)) (by decide +kernel)) dX5_isBig_1 ?_
  refine W.lcmp hx hb dX5_isBig_4 ?_
  refine lv_if_gt (tgt := 16) hx hb dX5_isBig_5 (by decide) (fun c_5 => ?_) (fun c_5 => ?_)
  · have c_5 := ((l_cmp_gt _ _).mp c_5)
    have c_5 : 999999999999999999 < v0 := c_5
    refine lv_iconst (v := 1) hx hb dX5_isBig_16 (by decide) ?_
    refine lv_goto (tgt := 21) hx hb dX5_isBig_17 (by decide) ?_
    exact W.zret hx hb hr rfl (fun t ht hW => ⟨(by simp only [f_isBig, eq_true c_5, ↓reduceIte, not_false_eq_true, not_true_eq_false, eq_self]), ht⟩) (fun q h => nomatch h) dX5_isBig_21 hlocks
  · have c_5 := (mt (l_cmp_gt _ _).mpr c_5)
    have c_5 : ¬ (999999999999999999 < v0) := c_5
    refine lv_lload_n hx hb dX5_isBig_8 rfl (lv_at hl 0 rfl) ?_
    refine lv_ldc2 (v := -999999999999999999) hx hb hown (hts (.constantLong RX5 63 (-999999999999999999)) (by decide +kernel)) dX5_isBig_9 ?_
    refine W.lcmp hx hb dX5_isBig_12 ?_
    refine lv_if_ge (tgt := 20) hx hb dX5_isBig_13 (by decide) (fun c_13 => ?_) (fun c_13 => ?_)
    · have c_13 := ((l_cmp_ge _ _).mp c_13)
      have c_13 : (-999999999999999999) ≤ v0 := c_13
      refine lv_iconst (v := 0) hx hb dX5_isBig_20 (by decide) ?_
      exact W.zret hx hb hr rfl (fun t ht hW => ⟨(by simp only [f_isBig, eq_false c_5, eq_true c_13, ↓reduceIte, not_false_eq_true, not_true_eq_false, eq_self]), ht⟩) (fun q h => nomatch h) dX5_isBig_21 hlocks
    · have c_13 := (mt (l_cmp_ge _ _).mpr c_13)
      have c_13 : ¬ ((-999999999999999999) ≤ v0) := c_13
      refine lv_iconst (v := 1) hx hb dX5_isBig_16 (by decide) ?_
      refine lv_goto (tgt := 21) hx hb dX5_isBig_17 (by decide) ?_
      exact W.zret hx hb hr rfl (fun t ht hW => ⟨(by simp only [f_isBig, eq_false c_5, eq_false c_13, ↓reduceIte, not_false_eq_true, not_true_eq_false, eq_self]), ht⟩) (fun q h => nomatch h) dX5_isBig_21 hlocks
set_option maxHeartbeats 4000000 in
set_option maxRecDepth 100000 in
theorem c_M_greater (l : Launch) (p0 : Int32) (q0 : Int32) : Met l yX5_greater wsX5_greater ({ frames := 0, cells := 0, slots := 0, locals := 0 } : Room) (va_Pc [.int p0, .int q0] (fun _ => True)) (QcRead (f_greater p0 q0)) 0 0 (fun _ => False) := by
  refine s_ofW (cc := cX5_greater) (maxL := 2) (ret := (some .int)) (cls := RX5) (by decide) rfl rfl (Nat.le_of_ble_eq_true rfl) ?_
  intro p e s m below meth c hx hb hts hown hr hlocks hml ls hl
  have hl : lv_has ls 2 [(0, .int p0), (1, .int q0)] := hl
  refine lv_iload_n hx hb dX5_greater_0 rfl (lv_at hl 0 rfl) ?_
  refine lv_iload_n hx hb dX5_greater_1 rfl (lv_at hl 1 rfl) ?_
  refine lv_icmp_le (tgt := 9) hx hb dX5_greater_2 (by decide) (fun c_2 => ?_) (fun c_2 => ?_)
  · have c_2 : p0 ≤ q0 := c_2
    refine lv_iload_n hx hb dX5_greater_9 rfl (lv_at hl 1 rfl) ?_
    exact W.iret hx hb hr (fun t ht hW => ⟨(by simp only [f_greater, eq_true c_2, ↓reduceIte, not_false_eq_true, not_true_eq_false, eq_self]), ht⟩) (fun q h => nomatch h) dX5_greater_10 hlocks
  · have c_2 : ¬ (p0 ≤ q0) := c_2
    refine lv_iload_n hx hb dX5_greater_5 rfl (lv_at hl 0 rfl) ?_
    refine lv_goto (tgt := 10) hx hb dX5_greater_6 (by decide) ?_
    exact W.iret hx hb hr (fun t ht hW => ⟨(by simp only [f_greater, eq_false c_2, ↓reduceIte, not_false_eq_true, not_true_eq_false, eq_self]), ht⟩) (fun q h => nomatch h) dX5_greater_10 hlocks
set_option maxHeartbeats 4000000 in
set_option maxRecDepth 100000 in
theorem c_M_register (l : Launch) (c0 : Int32) : Met l yX5_register wsX5_register ({ frames := 0, cells := 0, slots := 0, locals := 0 } : Room) (va_Pc [.int c0] (fun _ => True)) (QcRead (f_register c0)) 0 0 (fun _ => False) := by
  refine s_ofW (cc := cX5_register) (maxL := 1) (ret := (some .int)) (cls := RX5) (by decide) rfl rfl (Nat.le_of_ble_eq_true rfl) ?_
  intro p e s m below meth c hx hb hts hown hr hlocks hml ls hl
  have hl : lv_has ls 1 [(0, .int c0)] := hl
  refine lv_iload_n hx hb dX5_register_0 rfl (lv_at hl 0 rfl) ?_
  refine lv_bipush (v := 97) hx hb dX5_register_1 (by decide) ?_
  refine lv_isub hx hb dX5_register_3 ?_
  exact W.iret hx hb hr (fun t ht hW => ⟨(by simp only [f_register, ↓reduceIte, not_false_eq_true, not_true_eq_false, eq_self]), ht⟩) (fun q h => nomatch h) dX5_register_4 hlocks
set_option maxHeartbeats 4000000 in
set_option maxRecDepth 100000 in
theorem c_M_isOne (l : Launch) (c0 : Int32) (a0 : Int32) (b0 : Int32) (d0 : Int32) (e0 : Int32) : Met l yX5_isOne wsX5_isOne ({ frames := 0, cells := 0, slots := 0, locals := 0 } : Room) (va_Pc [.int c0, .int a0, .int b0, .int d0, .int e0] (fun _ => True)) (QcRead (f_isOne c0 a0 b0 d0 e0)) 0 0 (fun _ => False) := by
  refine s_ofW (cc := cX5_isOne) (maxL := 5) (ret := (some .boolean)) (cls := RX5) (by decide) rfl rfl (Nat.le_of_ble_eq_true rfl) ?_
  intro p e s m below meth c hx hb hts hown hr hlocks hml ls hl
  have hl : lv_has ls 5 [(0, .int c0), (1, .int a0), (2, .int b0), (3, .int d0), (4, .int e0)] := hl
  refine lv_iload_n hx hb dX5_isOne_0 rfl (lv_at hl 0 rfl) ?_
  refine lv_iload_n hx hb dX5_isOne_1 rfl (lv_at hl 1 rfl) ?_
  refine lv_icmp_eq (tgt := 21) hx hb dX5_isOne_2 (by decide) (fun c_2 => ?_) (fun c_2 => ?_)
  · have c_2 : c0 = a0 := c_2
    refine lv_iconst (v := 1) hx hb dX5_isOne_21 (by decide) ?_
    refine lv_goto (tgt := 26) hx hb dX5_isOne_22 (by decide) ?_
    exact W.zret hx hb hr rfl (fun t ht hW => ⟨(by simp only [f_isOne, eq_true c_2, ↓reduceIte, not_false_eq_true, not_true_eq_false, eq_self]), ht⟩) (fun q h => nomatch h) dX5_isOne_26 hlocks
  · have c_2 : ¬ (c0 = a0) := c_2
    refine lv_iload_n hx hb dX5_isOne_5 rfl (lv_at hl 0 rfl) ?_
    refine lv_iload_n hx hb dX5_isOne_6 rfl (lv_at hl 2 rfl) ?_
    refine lv_icmp_eq (tgt := 21) hx hb dX5_isOne_7 (by decide) (fun c_7 => ?_) (fun c_7 => ?_)
    · have c_7 : c0 = b0 := c_7
      refine lv_iconst (v := 1) hx hb dX5_isOne_21 (by decide) ?_
      refine lv_goto (tgt := 26) hx hb dX5_isOne_22 (by decide) ?_
      exact W.zret hx hb hr rfl (fun t ht hW => ⟨(by simp only [f_isOne, eq_false c_2, eq_true c_7, ↓reduceIte, not_false_eq_true, not_true_eq_false, eq_self]), ht⟩) (fun q h => nomatch h) dX5_isOne_26 hlocks
    · have c_7 : ¬ (c0 = b0) := c_7
      refine lv_iload_n hx hb dX5_isOne_10 rfl (lv_at hl 0 rfl) ?_
      refine lv_iload_n hx hb dX5_isOne_11 rfl (lv_at hl 3 rfl) ?_
      refine lv_icmp_eq (tgt := 21) hx hb dX5_isOne_12 (by decide) (fun c_12 => ?_) (fun c_12 => ?_)
      · have c_12 : c0 = d0 := c_12
        refine lv_iconst (v := 1) hx hb dX5_isOne_21 (by decide) ?_
        refine lv_goto (tgt := 26) hx hb dX5_isOne_22 (by decide) ?_
        exact W.zret hx hb hr rfl (fun t ht hW => ⟨(by simp only [f_isOne, eq_false c_2, eq_false c_7, eq_true c_12, ↓reduceIte, not_false_eq_true, not_true_eq_false, eq_self]), ht⟩) (fun q h => nomatch h) dX5_isOne_26 hlocks
      · have c_12 : ¬ (c0 = d0) := c_12
        refine lv_iload_n hx hb dX5_isOne_15 rfl (lv_at hl 0 rfl) ?_
        refine lv_iload hx hb dX5_isOne_16 (lv_at hl 4 rfl) ?_
        refine lv_icmp_ne (tgt := 25) hx hb dX5_isOne_18 (by decide) (fun c_18 => ?_) (fun c_18 => ?_)
        · have c_18 : ¬ (c0 = e0) := c_18
          refine lv_iconst (v := 0) hx hb dX5_isOne_25 (by decide) ?_
          exact W.zret hx hb hr rfl (fun t ht hW => ⟨(by simp only [f_isOne, eq_false c_2, eq_false c_7, eq_false c_12, eq_false c_18, ↓reduceIte, not_false_eq_true, not_true_eq_false, eq_self]), ht⟩) (fun q h => nomatch h) dX5_isOne_26 hlocks
        · have c_18 : c0 = e0 := c_18
          refine lv_iconst (v := 1) hx hb dX5_isOne_21 (by decide) ?_
          refine lv_goto (tgt := 26) hx hb dX5_isOne_22 (by decide) ?_
          exact W.zret hx hb hr rfl (fun t ht hW => ⟨(by simp only [f_isOne, eq_false c_2, eq_false c_7, eq_false c_12, eq_true c_18, ↓reduceIte, not_false_eq_true, not_true_eq_false, eq_self]), ht⟩) (fun q h => nomatch h) dX5_isOne_26 hlocks
set_option maxHeartbeats 4000000 in
set_option maxRecDepth 100000 in
theorem c_M_cut_L5 {p : Program} (l : Launch) {e : Env} {s : State} {m : MethodId} {below : List Frame} {meth : Method} {c : Code} (v0 : Int64) (k0 : Int32) (hx : p.tables.exec = Jvm.exec) (hb : c.code = cX5_cut) (hts : ∀ w ∈ wsX5_cut, w.before ([.long v0, .int k0] : List Value).toArray s = true) (hown : s.vm.findClass RX5 = some m.cls) (hr : meth.sig.returnType = (some .long)) (hlocks : meth.locks = false) (hml : c.maxLocals = 6) :
    ∀ (fu : Nat) (w0 : Int64) (j0 : Int32), f_cut v0 k0 = f_cut_L5 v0 k0 fu w0 j0 → ((k0.toInt - j0.toInt).toNat < fu) → ∀ ls : Array Slot, lv_has ls 6 [(0, .long v0), (2, .int k0), (3, .long w0), (5, .int j0)] → W p l e ({ frames := 0, cells := 0, slots := 0, locals := 0 } : Room) s m ([.long v0, .int k0] : List Value).toArray below meth c s.heap [] 0 0 (MQ below (QcReadL (f_cut v0 k0)) ([.long v0, .int k0] : List Value).toArray s 0 0 (fun _ => False)) (F0 m 5 ls []) := by
  intro fu
  induction fu with
  | zero =>
    intro w0 j0 hI hm
    exact absurd hm (Nat.not_lt_zero _)
  | succ fu ih =>
    intro w0 j0 hI hm ls hl
    refine lv_iload hx hb dX5_cut_5 (lv_at hl 3 rfl) ?_
    refine lv_iload_n hx hb dX5_cut_7 rfl (lv_at hl 1 rfl) ?_
    refine lv_icmp_ge (tgt := 23) hx hb dX5_cut_8 (by decide) (fun c_8 => ?_) (fun c_8 => ?_)
    · have c_8 : k0 ≤ j0 := c_8
      refine lv_lload_n hx hb dX5_cut_23 rfl (lv_at hl 2 rfl) ?_
      exact W.lret hx hb hr (fun t ht hW => ⟨(by rw [hI]; simp only [f_cut_L5, eq_true c_8, ↓reduceIte, not_false_eq_true, not_true_eq_false, eq_self]), ht⟩) (fun q h => nomatch h) dX5_cut_24 hlocks
    · have c_8 : ¬ (k0 ≤ j0) := c_8
      refine lv_lload_n hx hb dX5_cut_11 rfl (lv_at hl 2 rfl) ?_
      refine lv_ldc2 (v := 10) hx hb hown (hts (.constantLong RX5 69 (10)) (by decide +kernel)) dX5_cut_12 ?_
      refine lv_ldiv hx hb dX5_cut_15 (by decide) ?_
      refine lv_lstore_n (lv' := [(3, .long (w0 / 10)), (0, .long v0), (2, .int k0), (5, .int j0)]) hx hb dX5_cut_16 rfl hl (by decide) rfl (fun ls hl => ?_)
      refine lv_iinc (v := (j0 + 1)) (lv' := [(5, .int (j0 + 1)), (3, .long (w0 / 10)), (0, .long v0), (2, .int k0)]) hx hb dX5_cut_17 hl (k := 3) rfl rfl (by decide) rfl (fun ls hl => ?_)
      refine lv_goto (tgt := 5) hx hb dX5_cut_20 (by decide) ?_
      exact ih (w0 / 10) (j0 + 1) (by rw [hI]; simp only [f_cut_L5, eq_false c_8, ↓reduceIte]) (mu_inc hm c_8) ls (lv_sub hl [2, 3, 1, 0] rfl)
set_option maxHeartbeats 4000000 in
set_option maxRecDepth 100000 in
theorem c_M_cut (l : Launch) (v0 : Int64) (k0 : Int32) : Met l yX5_cut wsX5_cut ({ frames := 0, cells := 0, slots := 0, locals := 0 } : Room) (va_Pc [.long v0, .int k0] (fun _ => True)) (QcReadL (f_cut v0 k0)) 0 0 (fun _ => False) := by
  refine s_ofW (cc := cX5_cut) (maxL := 6) (ret := (some .long)) (cls := RX5) (by decide) rfl rfl (Nat.le_of_ble_eq_true rfl) ?_
  intro p e s m below meth c hx hb hts hown hr hlocks hml ls hl
  have hl : lv_has ls 6 [(0, .long v0), (2, .int k0)] := hl
  refine lv_lload_n hx hb dX5_cut_0 rfl (lv_at hl 0 rfl) ?_
  refine lv_lstore_n (lv' := [(3, .long v0), (0, .long v0), (2, .int k0)]) hx hb dX5_cut_1 rfl hl (by decide) rfl (fun ls hl => ?_)
  refine lv_iconst (v := 0) hx hb dX5_cut_2 (by decide) ?_
  refine lv_istore (lv' := [(5, .int 0), (3, .long v0), (0, .long v0), (2, .int k0)]) hx hb dX5_cut_3 hl (by decide) rfl (fun ls hl => ?_)
  exact c_M_cut_L5 l v0 k0 hx hb hts hown hr hlocks hml (k0.toInt.toNat + 1) v0 0 (by simp only [f_cut, ↓reduceIte]) (mu_0 _) ls (lv_sub hl [2, 3, 1, 0] rfl)
set_option maxHeartbeats 4000000 in
set_option maxRecDepth 100000 in
theorem c_M_fail (l : Launch) (dC : Nat → ClassId) (dI : Nat → Nat → Nat) (cI cJ : ClassId) (h : Nat) (ad : Nat → Nat) (sz : Nat) (σ : MS) (n0 : Int32) : Met l yX5_fail wsX5_fail ({ frames := 0, cells := 0, slots := 0, locals := 0 } : Room) (va_Pc [.ref h, .int n0] (mPre dC dI cI cJ h ad sz σ)) (va_Qi (fun r u => r = 0 ∧ u = (si σ 16 n0)) (mAt dC dI cI cJ h ad (mA h ad cI cJ σ sz)) (mA h ad cI cJ σ sz)) 0 0 (mA h ad cI cJ σ sz) := by
  refine m_ofW (cc := cX5_fail) (maxL := 2) (ret := (some .boolean)) (by decide) rfl (by decide +kernel) rfl (Nat.le_of_ble_eq_true rfl) ?_
  intro p e s m below meth c X G hA hr hlocks hml ls hl
  have hl : lv_has ls 2 [(0, .ref h), (1, .int n0)] := hl
  have hx := X.1
  have hb := X.2.1
  have hts := X.2.2.1
  have hown := X.2.2.2.2.1
  refine lv_aload_n hx hb dX5_fail_0 rfl (lv_at hl 0 rfl) ?_
  refine lv_iload_n hx hb dX5_fail_1 rfl (lv_at hl 1 rfl) ?_
  refine m_put_16 X G (by decide +kernel) dX5_fail_2 (fun H locs G => ?_)
  refine lv_iconst (v := 0) hx hb dX5_fail_5 (by decide) ?_
  exact m_zret X G hr hlocks rfl ⟨rfl, rfl⟩ dX5_fail_6
set_option maxHeartbeats 4000000 in
set_option maxRecDepth 100000 in
theorem c_M_have (l : Launch) (dC : Nat → ClassId) (dI : Nat → Nat → Nat) (cI cJ : ClassId) (h : Nat) (ad : Nat → Nat) (sz : Nat) (σ : MS) (n0 : Int32) : Met l yX5_have wsX5_have ({ frames := 1, cells := 0, slots := 0, locals := 21 } : Room) (va_Pc [.ref h, .int n0] (mPre dC dI cI cJ h ad sz σ)) (va_Qi (fun r u => F_have σ n0 = (r, u)) (mAt dC dI cI cJ h ad (mA h ad cI cJ σ sz)) (mA h ad cI cJ σ sz)) 0 0 (mA h ad cI cJ σ sz) := by
  refine m_ofW (cc := cX5_have) (maxL := 2) (ret := (some .boolean)) (by decide) rfl (by decide +kernel) rfl (Nat.le_of_ble_eq_true rfl) ?_
  intro p e s m below meth c X G hA hr hlocks hml ls hl
  have hl : lv_has ls 2 [(0, .ref h), (1, .int n0)] := hl
  have hx := X.1
  have hb := X.2.1
  have hts := X.2.2.1
  have hown := X.2.2.2.2.1
  refine lv_aload_n hx hb dX5_have_0 rfl (lv_at hl 0 rfl) ?_
  refine m_get_5 X G (by decide +kernel) dX5_have_1 ?_
  refine lv_iload_n hx hb dX5_have_4 rfl (lv_at hl 1 rfl) ?_
  refine lv_icmp_ge (tgt := 16) hx hb dX5_have_5 (by decide) (fun c_5 => ?_) (fun c_5 => ?_)
  · have c_5 : n0 ≤ (σ.1 5) := c_5
    refine lv_iconst (v := 1) hx hb dX5_have_16 (by decide) ?_
    refine lv_goto (tgt := 21) hx hb dX5_have_17 (by decide) ?_
    exact m_zret X G hr hlocks rfl (by simp only [F_have, eq_true c_5, ↓reduceIte, si_self, sm_self, si_snd, sm_fst, si20_16, not_false_eq_true, not_true_eq_false, eq_self] <;> rfl) dX5_have_21
  · have c_5 : ¬ (n0 ≤ (σ.1 5)) := c_5
    refine lv_aload_n hx hb dX5_have_8 rfl (lv_at hl 0 rfl) ?_
    refine lv_iconst (v := 2) hx hb dX5_have_9 (by decide) ?_
    refine m_calli (As := [.int 2]) (rest := []) X hml G hA (c_M_fail l dC dI cI cJ h ad _ σ 2) (cwV 1 hts gX5_have_X5_fail rfl rfl rfl (by decide +kernel) ⟨Nat.le_of_ble_eq_true rfl, Nat.le_of_ble_eq_true rfl⟩) rfl hl.1 rfl (Nat.le_of_ble_eq_true rfl) dX5_have_10 ⟨Nat.zero_le _, Nat.zero_le _⟩ (fun r_10 u_10 H locs hw_10 G => ?_)
    obtain ⟨rfl, rfl⟩ := hw_10
    refine lv_if_eq (tgt := 20) hx hb dX5_have_13 (by decide) (fun c9 => ?_) (fun c9 => absurd (show (0 : Int32) = 0 from by decide) c9)
    refine lv_iconst (v := 0) hx hb dX5_have_20 (by decide) ?_
    exact m_zret X G hr hlocks rfl (by simp only [F_have, eq_false c_5, ↓reduceIte, si_self, sm_self, si_snd, sm_fst, si20_16, not_false_eq_true, not_true_eq_false, eq_self] <;> rfl) dX5_have_21
set_option maxHeartbeats 4000000 in
set_option maxRecDepth 100000 in
theorem c_M_room (l : Launch) (dC : Nat → ClassId) (dI : Nat → Nat → Nat) (cI cJ : ClassId) (h : Nat) (ad : Nat → Nat) (sz : Nat) (σ : MS) : Met l yX5_room wsX5_room ({ frames := 1, cells := 0, slots := 0, locals := 21 } : Room) (va_Pc [.ref h] (mPre dC dI cI cJ h ad sz σ)) (va_Qi (fun r u => F_room σ = (r, u)) (mAt dC dI cI cJ h ad (mA h ad cI cJ σ sz)) (mA h ad cI cJ σ sz)) 0 0 (mA h ad cI cJ σ sz) := by
  refine m_ofW (cc := cX5_room) (maxL := 1) (ret := (some .boolean)) (by decide) rfl (by decide +kernel) rfl (Nat.le_of_ble_eq_true rfl) ?_
  intro p e s m below meth c X G hA hr hlocks hml ls hl
  have hl : lv_has ls 1 [(0, .ref h)] := hl
  have hx := X.1
  have hb := X.2.1
  have hts := X.2.2.1
  have hown := X.2.2.2.2.1
  refine lv_aload_n hx hb dX5_room_0 rfl (lv_at hl 0 rfl) ?_
  refine m_get_5 X G (by decide +kernel) dX5_room_1 ?_
  refine lv_bipush (v := 40) hx hb dX5_room_4 (by decide) ?_
  refine lv_icmp_lt (tgt := 17) hx hb dX5_room_6 (by decide) (fun c_6 => ?_) (fun c_6 => ?_)
  · have c_6 : (σ.1 5) < 40 := c_6
    refine lv_iconst (v := 1) hx hb dX5_room_17 (by decide) ?_
    refine lv_goto (tgt := 22) hx hb dX5_room_18 (by decide) ?_
    exact m_zret X G hr hlocks rfl (by simp only [F_room, eq_true c_6, ↓reduceIte, si_self, sm_self, si_snd, sm_fst, si20_16, not_false_eq_true, not_true_eq_false, eq_self] <;> rfl) dX5_room_22
  · have c_6 : ¬ ((σ.1 5) < 40) := c_6
    refine lv_aload_n hx hb dX5_room_9 rfl (lv_at hl 0 rfl) ?_
    refine lv_iconst (v := 5) hx hb dX5_room_10 (by decide) ?_
    refine m_calli (As := [.int 5]) (rest := []) X hml G hA (c_M_fail l dC dI cI cJ h ad _ σ 5) (cwV 1 hts gX5_room_X5_fail rfl rfl rfl (by decide +kernel) ⟨Nat.le_of_ble_eq_true rfl, Nat.le_of_ble_eq_true rfl⟩) rfl hl.1 rfl (Nat.le_of_ble_eq_true rfl) dX5_room_11 ⟨Nat.zero_le _, Nat.zero_le _⟩ (fun r_11 u_11 H locs hw_11 G => ?_)
    obtain ⟨rfl, rfl⟩ := hw_11
    refine lv_if_eq (tgt := 21) hx hb dX5_room_14 (by decide) (fun c9 => ?_) (fun c9 => absurd (show (0 : Int32) = 0 from by decide) c9)
    refine lv_iconst (v := 0) hx hb dX5_room_21 (by decide) ?_
    exact m_zret X G hr hlocks rfl (by simp only [F_room, eq_false c_6, ↓reduceIte, si_self, sm_self, si_snd, sm_fst, si20_16, not_false_eq_true, not_true_eq_false, eq_self] <;> rfl) dX5_room_22
set_option maxHeartbeats 4000000 in
set_option maxRecDepth 100000 in
theorem c_M_put (l : Launch) (dC : Nat → ClassId) (dI : Nat → Nat → Nat) (cI cJ : ClassId) (h : Nat) (ad : Nat → Nat) (sz : Nat) (σ : MS) (n0 : Int32) (v0 : Int64) (p0 : Int32) (h0 : 0 ≤ (σ.1 5).toInt - n0.toInt) (h1 : (σ.1 5).toInt - n0.toInt < 82) : Met l yX5_put wsX5_put ({ frames := 0, cells := 0, slots := 0, locals := 0 } : Room) (va_Pc [.ref h, .int n0, .long v0, .int p0] (mPre dC dI cI cJ h ad sz σ)) (va_Qv (fun u => u = F_put σ n0 v0 p0) (mAt dC dI cI cJ h ad (mA h ad cI cJ σ sz)) (mA h ad cI cJ σ sz)) 0 0 (mA h ad cI cJ σ sz) := by
  refine m_ofW (cc := cX5_put) (maxL := 5) (ret := none) (by decide) rfl (by decide +kernel) rfl (Nat.le_of_ble_eq_true rfl) ?_
  intro p e s m below meth c X G hA hr hlocks hml ls hl
  have hl : lv_has ls 5 [(0, .ref h), (1, .int n0), (2, .long v0), (4, .int p0)] := hl
  have hx := X.1
  have hb := X.2.1
  have hts := X.2.2.1
  have hown := X.2.2.2.2.1
  refine lv_aload_n hx hb dX5_put_0 rfl (lv_at hl 0 rfl) ?_
  refine lv_dup hx hb dX5_put_1 rfl ?_
  refine m_get_5 X G (by decide +kernel) dX5_put_2 ?_
  refine lv_iload_n hx hb dX5_put_5 rfl (lv_at hl 1 rfl) ?_
  refine lv_isub hx hb dX5_put_6 ?_
  refine m_put_5 X G (by decide +kernel) dX5_put_7 (fun H locs G => ?_)
  refine lv_aload_n hx hb dX5_put_10 rfl (lv_at hl 0 rfl) ?_
  refine m_get_2 X G (by decide +kernel) dX5_put_11 ?_
  refine lv_aload_n hx hb dX5_put_14 rfl (lv_at hl 0 rfl) ?_
  refine m_get_5 X G (by decide +kernel) dX5_put_15 ?_
  refine lv_lload_n hx hb dX5_put_18 rfl (lv_at hl 2 rfl) ?_
  refine m_st_2 X G (vin (i_subE (rfl : (σ.1 5).toInt = _) (rfl : n0.toInt = _) (by omega) (by omega)) (by omega) (by omega)) dX5_put_19 (fun H locs G => ?_)
  refine lv_aload_n hx hb dX5_put_20 rfl (lv_at hl 0 rfl) ?_
  refine m_get_3 X G (by decide +kernel) dX5_put_21 ?_
  refine lv_aload_n hx hb dX5_put_24 rfl (lv_at hl 0 rfl) ?_
  refine m_get_5 X G (by decide +kernel) dX5_put_25 ?_
  refine lv_iload hx hb dX5_put_28 (lv_at hl 3 rfl) ?_
  refine m_st_3 X G (vin (i_subE (rfl : (σ.1 5).toInt = _) (rfl : n0.toInt = _) (by omega) (by omega)) (by omega) (by omega)) dX5_put_30 (fun H locs G => ?_)
  refine lv_aload_n hx hb dX5_put_31 rfl (lv_at hl 0 rfl) ?_
  refine lv_dup hx hb dX5_put_32 rfl ?_
  refine m_get_5 X G (by decide +kernel) dX5_put_33 ?_
  refine lv_iconst (v := 1) hx hb dX5_put_36 (by decide) ?_
  refine lv_iadd hx hb dX5_put_37 ?_
  refine m_put_5 X G (by decide +kernel) dX5_put_38 (fun H locs G => ?_)
  exact m_vret X G hr hlocks rfl dX5_put_41
set_option maxHeartbeats 4000000 in
set_option maxRecDepth 100000 in
theorem c_M_topOf (l : Launch) (dC : Nat → ClassId) (dI : Nat → Nat → Nat) (cI cJ : ClassId) (h : Nat) (ad : Nat → Nat) (sz : Nat) (σ : MS) (r0 : Int32) (h0 : 0 ≤ r0.toInt) (h1 : r0.toInt < 4) : Met l yX5_topOf wsX5_topOf ({ frames := 0, cells := 0, slots := 0, locals := 0 } : Room) (va_Pc [.ref h, .int r0] (mPre dC dI cI cJ h ad sz σ)) (va_Qi (fun r u => r = F_topOf σ r0 ∧ u = σ) (mAt dC dI cI cJ h ad (mA h ad cI cJ σ sz)) (mA h ad cI cJ σ sz)) 0 0 (mA h ad cI cJ σ sz) := by
  refine m_ofW (cc := cX5_topOf) (maxL := 2) (ret := (some .int)) (by decide) rfl (by decide +kernel) rfl (Nat.le_of_ble_eq_true rfl) ?_
  intro p e s m below meth c X G hA hr hlocks hml ls hl
  have hl : lv_has ls 2 [(0, .ref h), (1, .int r0)] := hl
  have hx := X.1
  have hb := X.2.1
  have hts := X.2.2.1
  have hown := X.2.2.2.2.1
  refine lv_bipush (v := 40) hx hb dX5_topOf_0 (by decide) ?_
  refine lv_bipush (v := 10) hx hb dX5_topOf_2 (by decide) ?_
  refine lv_iload_n hx hb dX5_topOf_4 rfl (lv_at hl 1 rfl) ?_
  refine lv_imul hx hb dX5_topOf_5 ?_
  refine lv_iadd hx hb dX5_topOf_6 ?_
  refine lv_aload_n hx hb dX5_topOf_7 rfl (lv_at hl 0 rfl) ?_
  refine m_get_7 X G (by decide +kernel) dX5_topOf_8 ?_
  refine lv_iload_n hx hb dX5_topOf_11 rfl (lv_at hl 1 rfl) ?_
  refine m_ld_7 X G (vin (rfl : r0.toInt = _) (by omega) (by omega)) dX5_topOf_12 ?_
  refine lv_iadd hx hb dX5_topOf_13 ?_
  refine lv_iconst (v := 1) hx hb dX5_topOf_14 (by decide) ?_
  refine lv_isub hx hb dX5_topOf_15 ?_
  exact m_iret X G hr hlocks ⟨(by simp only [F_topOf, ↓reduceIte, si_self, sm_self, si_snd, sm_fst, si20_16, not_false_eq_true, not_true_eq_false, eq_self] <;> rfl), rfl⟩ dX5_topOf_16
set_option maxHeartbeats 4000000 in
set_option maxRecDepth 100000 in
theorem c_M_thrown (l : Launch) (dC : Nat → ClassId) (dI : Nat → Nat → Nat) (cI cJ : ClassId) (h : Nat) (ad : Nat → Nat) (sz : Nat) (σ : MS) : Met l yX5_thrown wsX5_thrown ({ frames := 0, cells := 0, slots := 0, locals := 0 } : Room) (va_Pc [.ref h] (mPre dC dI cI cJ h ad sz σ)) (va_Qi (fun r u => r = (σ.1 17) ∧ u = σ) (mAt dC dI cI cJ h ad (mA h ad cI cJ σ sz)) (mA h ad cI cJ σ sz)) 0 0 (mA h ad cI cJ σ sz) := by
  refine m_ofW (cc := cX5_thrown) (maxL := 1) (ret := (some .int)) (by decide) rfl (by decide +kernel) rfl (Nat.le_of_ble_eq_true rfl) ?_
  intro p e s m below meth c X G hA hr hlocks hml ls hl
  have hl : lv_has ls 1 [(0, .ref h)] := hl
  have hx := X.1
  have hb := X.2.1
  have hts := X.2.2.1
  have hown := X.2.2.2.2.1
  refine lv_aload_n hx hb dX5_thrown_0 rfl (lv_at hl 0 rfl) ?_
  refine m_get_17 X G (by decide +kernel) dX5_thrown_1 ?_
  exact m_iret X G hr hlocks ⟨rfl, rfl⟩ dX5_thrown_4
set_option maxHeartbeats 4000000 in
set_option maxRecDepth 100000 in
theorem c_M_cost (l : Launch) (dC : Nat → ClassId) (dI : Nat → Nat → Nat) (cI cJ : ClassId) (h : Nat) (ad : Nat → Nat) (sz : Nat) (σ : MS) : Met l yX5_cost wsX5_cost ({ frames := 0, cells := 0, slots := 0, locals := 0 } : Room) (va_Pc [.ref h] (mPre dC dI cI cJ h ad sz σ)) (va_Qi (fun r u => F_cost σ = (r, u)) (mAt dC dI cI cJ h ad (mA h ad cI cJ σ sz)) (mA h ad cI cJ σ sz)) 0 0 (mA h ad cI cJ σ sz) := by
  refine m_ofW (cc := cX5_cost) (maxL := 1) (ret := (some .int)) (by decide) rfl (by decide +kernel) rfl (Nat.le_of_ble_eq_true rfl) ?_
  intro p e s m below meth c X G hA hr hlocks hml ls hl
  have hl : lv_has ls 1 [(0, .ref h)] := hl
  have hx := X.1
  have hb := X.2.1
  have hts := X.2.2.1
  have hown := X.2.2.2.2.1
  refine lv_aload_n hx hb dX5_cost_0 rfl (lv_at hl 0 rfl) ?_
  refine lv_iconst (v := 0) hx hb dX5_cost_1 (by decide) ?_
  refine m_put_17 X G (by decide +kernel) dX5_cost_2 (fun H locs G => ?_)
  refine lv_aload_n hx hb dX5_cost_5 rfl (lv_at hl 0 rfl) ?_
  refine m_get_15 X G (by decide +kernel) dX5_cost_6 ?_
  exact m_iret X G hr hlocks rfl dX5_cost_9
set_option maxHeartbeats 4000000 in
set_option maxRecDepth 100000 in
theorem c_M_prints (l : Launch) (dC : Nat → ClassId) (dI : Nat → Nat → Nat) (cI cJ : ClassId) (h : Nat) (ad : Nat → Nat) (sz : Nat) (σ : MS) : Met l yX5_prints wsX5_prints ({ frames := 0, cells := 0, slots := 0, locals := 0 } : Room) (va_Pc [.ref h] (mPre dC dI cI cJ h ad sz σ)) (va_Qi (fun r u => F_prints σ = (r, u)) (mAt dC dI cI cJ h ad (mA h ad cI cJ σ sz)) (mA h ad cI cJ σ sz)) 0 0 (mA h ad cI cJ σ sz) := by
  refine m_ofW (cc := cX5_prints) (maxL := 1) (ret := (some .int)) (by decide) rfl (by decide +kernel) rfl (Nat.le_of_ble_eq_true rfl) ?_
  intro p e s m below meth c X G hA hr hlocks hml ls hl
  have hl : lv_has ls 1 [(0, .ref h)] := hl
  have hx := X.1
  have hb := X.2.1
  have hts := X.2.2.1
  have hown := X.2.2.2.2.1
  refine lv_aload_n hx hb dX5_prints_0 rfl (lv_at hl 0 rfl) ?_
  refine lv_iconst (v := 0) hx hb dX5_prints_1 (by decide) ?_
  refine m_put_17 X G (by decide +kernel) dX5_prints_2 (fun H locs G => ?_)
  refine lv_aload_n hx hb dX5_prints_5 rfl (lv_at hl 0 rfl) ?_
  refine m_get_14 X G (by decide +kernel) dX5_prints_6 ?_
  exact m_iret X G hr hlocks rfl dX5_prints_9
set_option maxHeartbeats 4000000 in
set_option maxRecDepth 100000 in
theorem c_M_depth (l : Launch) (dC : Nat → ClassId) (dI : Nat → Nat → Nat) (cI cJ : ClassId) (h : Nat) (ad : Nat → Nat) (sz : Nat) (σ : MS) : Met l yX5_depth wsX5_depth ({ frames := 0, cells := 0, slots := 0, locals := 0 } : Room) (va_Pc [.ref h] (mPre dC dI cI cJ h ad sz σ)) (va_Qi (fun r u => F_depth σ = (r, u)) (mAt dC dI cI cJ h ad (mA h ad cI cJ σ sz)) (mA h ad cI cJ σ sz)) 0 0 (mA h ad cI cJ σ sz) := by
  refine m_ofW (cc := cX5_depth) (maxL := 1) (ret := (some .int)) (by decide) rfl (by decide +kernel) rfl (Nat.le_of_ble_eq_true rfl) ?_
  intro p e s m below meth c X G hA hr hlocks hml ls hl
  have hl : lv_has ls 1 [(0, .ref h)] := hl
  have hx := X.1
  have hb := X.2.1
  have hts := X.2.2.1
  have hown := X.2.2.2.2.1
  refine lv_aload_n hx hb dX5_depth_0 rfl (lv_at hl 0 rfl) ?_
  refine lv_iconst (v := 0) hx hb dX5_depth_1 (by decide) ?_
  refine m_put_17 X G (by decide +kernel) dX5_depth_2 (fun H locs G => ?_)
  refine lv_aload_n hx hb dX5_depth_5 rfl (lv_at hl 0 rfl) ?_
  refine m_get_5 X G (by decide +kernel) dX5_depth_6 ?_
  exact m_iret X G hr hlocks rfl dX5_depth_9
set_option maxHeartbeats 4000000 in
set_option maxRecDepth 100000 in
theorem c_M_precision (l : Launch) (dC : Nat → ClassId) (dI : Nat → Nat → Nat) (cI cJ : ClassId) (h : Nat) (ad : Nat → Nat) (sz : Nat) (σ : MS) : Met l yX5_precision wsX5_precision ({ frames := 0, cells := 0, slots := 0, locals := 0 } : Room) (va_Pc [.ref h] (mPre dC dI cI cJ h ad sz σ)) (va_Qi (fun r u => F_precision σ = (r, u)) (mAt dC dI cI cJ h ad (mA h ad cI cJ σ sz)) (mA h ad cI cJ σ sz)) 0 0 (mA h ad cI cJ σ sz) := by
  refine m_ofW (cc := cX5_precision) (maxL := 1) (ret := (some .int)) (by decide) rfl (by decide +kernel) rfl (Nat.le_of_ble_eq_true rfl) ?_
  intro p e s m below meth c X G hA hr hlocks hml ls hl
  have hl : lv_has ls 1 [(0, .ref h)] := hl
  have hx := X.1
  have hb := X.2.1
  have hts := X.2.2.1
  have hown := X.2.2.2.2.1
  refine lv_aload_n hx hb dX5_precision_0 rfl (lv_at hl 0 rfl) ?_
  refine lv_iconst (v := 0) hx hb dX5_precision_1 (by decide) ?_
  refine m_put_17 X G (by decide +kernel) dX5_precision_2 (fun H locs G => ?_)
  refine lv_aload_n hx hb dX5_precision_5 rfl (lv_at hl 0 rfl) ?_
  refine m_get_6 X G (by decide +kernel) dX5_precision_6 ?_
  exact m_iret X G hr hlocks rfl dX5_precision_9
set_option maxHeartbeats 4000000 in
set_option maxRecDepth 100000 in
theorem c_M_erase (l : Launch) (dC : Nat → ClassId) (dI : Nat → Nat → Nat) (cI cJ : ClassId) (h : Nat) (ad : Nat → Nat) (sz : Nat) (σ : MS) : Met l yX5_erase wsX5_erase ({ frames := 0, cells := 0, slots := 0, locals := 0 } : Room) (va_Pc [.ref h] (mPre dC dI cI cJ h ad sz σ)) (va_Qi (fun r u => F_erase σ = (r, u)) (mAt dC dI cI cJ h ad (mA h ad cI cJ σ sz)) (mA h ad cI cJ σ sz)) 0 0 (mA h ad cI cJ σ sz) := by
  refine m_ofW (cc := cX5_erase) (maxL := 2) (ret := (some .int)) (by decide) rfl (by decide +kernel) rfl (Nat.le_of_ble_eq_true rfl) ?_
  intro p e s m below meth c X G hA hr hlocks hml ls hl
  have hl : lv_has ls 2 [(0, .ref h)] := hl
  have hx := X.1
  have hb := X.2.1
  have hts := X.2.2.1
  have hown := X.2.2.2.2.1
  refine lv_aload_n hx hb dX5_erase_0 rfl (lv_at hl 0 rfl) ?_
  refine lv_iconst (v := 0) hx hb dX5_erase_1 (by decide) ?_
  refine m_put_17 X G (by decide +kernel) dX5_erase_2 (fun H locs G => ?_)
  refine lv_aload_n hx hb dX5_erase_5 rfl (lv_at hl 0 rfl) ?_
  refine m_get_1 X G (by decide +kernel) dX5_erase_6 ?_
  refine lv_istore_n (lv' := [(1, .int (σ.1 1)), (0, .ref h)]) hx hb dX5_erase_9 rfl hl (by decide) rfl (fun ls hl => ?_)
  refine lv_aload_n hx hb dX5_erase_10 rfl (lv_at hl 1 rfl) ?_
  refine lv_iconst (v := 0) hx hb dX5_erase_11 (by decide) ?_
  refine m_put_1 X G (by decide +kernel) dX5_erase_12 (fun H locs G => ?_)
  refine lv_iload_n hx hb dX5_erase_15 rfl (lv_at hl 0 rfl) ?_
  exact m_iret X G hr hlocks rfl dX5_erase_16
set_option maxHeartbeats 4000000 in
set_option maxRecDepth 100000 in
theorem c_M_raised_L6 {p : Program} (l : Launch) {e : Env} {s : State} {m : MethodId} {below : List Frame} {meth : Method} {c : Code} {dC : Nat → ClassId} {dI : Nat → Nat → Nat} {cI cJ : ClassId} {h : Nat} {ad : Nat → Nat} {sz : Nat} (σ : MS) (v0 : Int64) (k0 : Int32) (X : mX p s m ([.ref h, .long v0, .int k0] : List Value).toArray c cX5_raised wsX5_raised dC dI cI cJ) (hA : ∀ q : Nat, s.heap.size ≤ q → mA h ad cI cJ σ sz q) (hr : meth.sig.returnType = (some .long)) (hlocks : meth.locks = false) (hml : c.maxLocals = 7) :
    ∀ (fu : Nat) (w0 : Int64) (j0 : Int32) (τ : MS), F_raised σ v0 k0 = F_raised_L6 v0 k0 fu w0 j0 τ → ((k0.toInt - j0.toInt).toNat < fu) → ∀ (H : Heap) (locs : List Loc), mH dC dI h ad cI cJ τ (mA h ad cI cJ σ sz) s.heap H locs → ∀ ls : Array Slot, lv_has ls 7 [(0, .ref h), (1, .long v0), (3, .int k0), (4, .long w0), (6, .int j0)] → W p l e ({ frames := 0, cells := 0, slots := 0, locals := 0 } : Room) s m ([.ref h, .long v0, .int k0] : List Value).toArray below meth c H locs 0 0 (MQ below (va_Ql (fun r u => F_raised σ v0 k0 = (r, u)) (mAt dC dI cI cJ h ad (mA h ad cI cJ σ sz)) (mA h ad cI cJ σ sz)) ([.ref h, .long v0, .int k0] : List Value).toArray s 0 0 (mA h ad cI cJ σ sz)) (F0 m 6 ls []) := by
  have hx := X.1
  have hb := X.2.1
  have hts := X.2.2.1
  have hown := X.2.2.2.2.1
  intro fu
  induction fu with
  | zero =>
    intro w0 j0 τ hI hm
    exact absurd hm (Nat.not_lt_zero _)
  | succ fu ih =>
    intro w0 j0 τ hI hm H locs G ls hl
    refine lv_iload hx hb dX5_raised_6 (lv_at hl 4 rfl) ?_
    refine lv_iload_n hx hb dX5_raised_8 rfl (lv_at hl 2 rfl) ?_
    refine lv_icmp_ge (tgt := 59) hx hb dX5_raised_9 (by decide) (fun c_9 => ?_) (fun c_9 => ?_)
    · have c_9 : k0 ≤ j0 := c_9
      refine lv_lload hx hb dX5_raised_59 (lv_at hl 3 rfl) ?_
      exact m_lret X G hr hlocks (by rw [hI]; simp only [F_raised_L6, eq_true c_9, ↓reduceIte, si_self, sm_self, si_snd, sm_fst, si20_16, not_false_eq_true, not_true_eq_false, eq_self] <;> rfl) dX5_raised_61
    · have c_9 : ¬ (k0 ≤ j0) := c_9
      refine lv_aload_n hx hb dX5_raised_12 rfl (lv_at hl 0 rfl) ?_
      refine m_get_16 X G (by decide +kernel) dX5_raised_13 ?_
      refine lv_if_ne (tgt := 59) hx hb dX5_raised_16 (by decide) (fun c_16 => ?_) (fun c_16 => ?_)
      · have c_16 : ¬ ((τ.1 16) = 0) := c_16
        refine lv_lload hx hb dX5_raised_59 (lv_at hl 3 rfl) ?_
        exact m_lret X G hr hlocks (by rw [hI]; simp only [F_raised_L6, eq_false c_9, eq_false c_16, ↓reduceIte, si_self, sm_self, si_snd, sm_fst, si20_16, not_false_eq_true, not_true_eq_false, eq_self] <;> rfl) dX5_raised_61
      · have c_16 : (τ.1 16) = 0 := c_16
        refine lv_lload hx hb dX5_raised_19 (lv_at hl 3 rfl) ?_
        refine lv_ldc2 (v := 99999999999999999) hx hb hown (hts (.constantLong RX5 65 (99999999999999999)) (by decide +kernel)) dX5_raised_21 ?_
        refine W.lcmp hx hb dX5_raised_24 ?_
        refine lv_if_gt (tgt := 37) hx hb dX5_raised_25 (by decide) (fun c_25 => ?_) (fun c_25 => ?_)
        · have c_25 := ((l_cmp_gt _ _).mp c_25)
          have c_25 : 99999999999999999 < w0 := c_25
          refine lv_aload_n hx hb dX5_raised_37 rfl (lv_at hl 0 rfl) ?_
          refine lv_iconst (v := 5) hx hb dX5_raised_38 (by decide) ?_
          refine m_put_16 X G (by decide +kernel) dX5_raised_39 (fun H locs G => ?_)
          refine lv_goto (tgt := 53) hx hb dX5_raised_42 (by decide) ?_
          refine lv_iinc (v := (j0 + 1)) (lv' := [(6, .int (j0 + 1)), (0, .ref h), (1, .long v0), (3, .int k0), (4, .long w0)]) hx hb dX5_raised_53 hl (k := 4) rfl rfl (by decide) rfl (fun ls hl => ?_)
          refine lv_goto (tgt := 6) hx hb dX5_raised_56 (by decide) ?_
          exact ih w0 (j0 + 1) (si τ 16 5) (by rw [hI]; simp only [F_raised_L6, eq_false c_9, eq_true c_16, eq_true c_25, ↓reduceIte, si_self, sm_self, si_snd, sm_fst, si20_16, not_false_eq_true, not_true_eq_false, eq_self] <;> rfl) (mu_inc hm c_9) H locs G ls (lv_sub hl [1, 2, 3, 4, 0] rfl)
        · have c_25 := (mt (l_cmp_gt _ _).mpr c_25)
          have c_25 : ¬ (99999999999999999 < w0) := c_25
          refine lv_lload hx hb dX5_raised_28 (lv_at hl 3 rfl) ?_
          refine lv_ldc2 (v := -99999999999999999) hx hb hown (hts (.constantLong RX5 67 (-99999999999999999)) (by decide +kernel)) dX5_raised_30 ?_
          refine W.lcmp hx hb dX5_raised_33 ?_
          refine lv_if_ge (tgt := 45) hx hb dX5_raised_34 (by decide) (fun c_34 => ?_) (fun c_34 => ?_)
          · have c_34 := ((l_cmp_ge _ _).mp c_34)
            have c_34 : (-99999999999999999) ≤ w0 := c_34
            refine lv_lload hx hb dX5_raised_45 (lv_at hl 3 rfl) ?_
            refine lv_ldc2 (v := 10) hx hb hown (hts (.constantLong RX5 69 (10)) (by decide +kernel)) dX5_raised_47 ?_
            refine lv_lmul hx hb dX5_raised_50 ?_
            refine lv_lstore (lv' := [(4, .long (w0 * 10)), (0, .ref h), (1, .long v0), (3, .int k0), (6, .int j0)]) hx hb dX5_raised_51 hl (by decide) rfl (fun ls hl => ?_)
            refine lv_iinc (v := (j0 + 1)) (lv' := [(6, .int (j0 + 1)), (4, .long (w0 * 10)), (0, .ref h), (1, .long v0), (3, .int k0)]) hx hb dX5_raised_53 hl (k := 4) rfl rfl (by decide) rfl (fun ls hl => ?_)
            refine lv_goto (tgt := 6) hx hb dX5_raised_56 (by decide) ?_
            exact ih (w0 * 10) (j0 + 1) τ (by rw [hI]; simp only [F_raised_L6, eq_false c_9, eq_true c_16, eq_false c_25, eq_true c_34, ↓reduceIte, si_self, sm_self, si_snd, sm_fst, si20_16, not_false_eq_true, not_true_eq_false, eq_self] <;> rfl) (mu_inc hm c_9) H locs G ls (lv_sub hl [2, 3, 4, 1, 0] rfl)
          · have c_34 := (mt (l_cmp_ge _ _).mpr c_34)
            have c_34 : ¬ ((-99999999999999999) ≤ w0) := c_34
            refine lv_aload_n hx hb dX5_raised_37 rfl (lv_at hl 0 rfl) ?_
            refine lv_iconst (v := 5) hx hb dX5_raised_38 (by decide) ?_
            refine m_put_16 X G (by decide +kernel) dX5_raised_39 (fun H locs G => ?_)
            refine lv_goto (tgt := 53) hx hb dX5_raised_42 (by decide) ?_
            refine lv_iinc (v := (j0 + 1)) (lv' := [(6, .int (j0 + 1)), (0, .ref h), (1, .long v0), (3, .int k0), (4, .long w0)]) hx hb dX5_raised_53 hl (k := 4) rfl rfl (by decide) rfl (fun ls hl => ?_)
            refine lv_goto (tgt := 6) hx hb dX5_raised_56 (by decide) ?_
            exact ih w0 (j0 + 1) (si τ 16 5) (by rw [hI]; simp only [F_raised_L6, eq_false c_9, eq_true c_16, eq_false c_25, eq_false c_34, ↓reduceIte, si_self, sm_self, si_snd, sm_fst, si20_16, not_false_eq_true, not_true_eq_false, eq_self] <;> rfl) (mu_inc hm c_9) H locs G ls (lv_sub hl [1, 2, 3, 4, 0] rfl)
set_option maxHeartbeats 4000000 in
set_option maxRecDepth 100000 in
theorem c_M_raised (l : Launch) (dC : Nat → ClassId) (dI : Nat → Nat → Nat) (cI cJ : ClassId) (h : Nat) (ad : Nat → Nat) (sz : Nat) (σ : MS) (v0 : Int64) (k0 : Int32) : Met l yX5_raised wsX5_raised ({ frames := 0, cells := 0, slots := 0, locals := 0 } : Room) (va_Pc [.ref h, .long v0, .int k0] (mPre dC dI cI cJ h ad sz σ)) (va_Ql (fun r u => F_raised σ v0 k0 = (r, u)) (mAt dC dI cI cJ h ad (mA h ad cI cJ σ sz)) (mA h ad cI cJ σ sz)) 0 0 (mA h ad cI cJ σ sz) := by
  refine m_ofW (cc := cX5_raised) (maxL := 7) (ret := (some .long)) (by decide) rfl (by decide +kernel) rfl (Nat.le_of_ble_eq_true rfl) ?_
  intro p e s m below meth c X G hA hr hlocks hml ls hl
  have hl : lv_has ls 7 [(0, .ref h), (1, .long v0), (3, .int k0)] := hl
  have hx := X.1
  have hb := X.2.1
  have hts := X.2.2.1
  have hown := X.2.2.2.2.1
  refine lv_lload_n hx hb dX5_raised_0 rfl (lv_at hl 1 rfl) ?_
  refine lv_lstore (lv' := [(4, .long v0), (0, .ref h), (1, .long v0), (3, .int k0)]) hx hb dX5_raised_1 hl (by decide) rfl (fun ls hl => ?_)
  refine lv_iconst (v := 0) hx hb dX5_raised_3 (by decide) ?_
  refine lv_istore (lv' := [(6, .int 0), (4, .long v0), (0, .ref h), (1, .long v0), (3, .int k0)]) hx hb dX5_raised_4 hl (by decide) rfl (fun ls hl => ?_)
  exact c_M_raised_L6 l σ v0 k0 X hA hr hlocks hml (k0.toInt.toNat + 1) v0 0 σ (by simp only [F_raised, ↓reduceIte, si_self, sm_self, si_snd, sm_fst, si20_16, not_false_eq_true, not_true_eq_false, eq_self] <;> rfl) (mu_0 _) _ _ G ls (lv_sub hl [2, 3, 4, 1, 0] rfl)
