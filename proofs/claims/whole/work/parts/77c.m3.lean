theorem cl_lt {a : Int32} {n : Nat} (h0 : 0 ≤ a.toInt) (h1 : a.toInt < n) : a.toNatClampNeg < n := by
  have := i_cl h0; omega
theorem l_i32 {v : Int64} (h0 : 0 ≤ v.toInt) (h1 : v.toInt ≤ 160) : v.toInt32.toInt = v.toInt := by
  rw [Int64.toInt_toInt32]; exact i_bm (by omega) (by omega)
theorem l_lt64 {k : Int32} {v : Int64} (h : ¬ v ≤ k.toInt64) : k.toInt < v.toInt := by
  rw [Int64.le_iff_toInt_le, Int32.toInt_toInt64] at h; omega
set_option maxHeartbeats 4000000 in
set_option maxRecDepth 100000 in
theorem c_M_isNothing (l : Launch) (h : Nat) (c0 : Int32) : Met l yX5_isNothing wsX5_isNothing ({ frames := 0, cells := 0, slots := 0, locals := 0 } : Room) (va_Pc [.ref h, .int c0] (fun _ => True)) (QcRead (f_isNothing c0)) 0 0 (fun _ => False) := by
  refine s_ofW (cc := cX5_isNothing) (maxL := 2) (ret := (some .boolean)) (cls := RX5) (by decide) rfl rfl (Nat.le_of_ble_eq_true rfl) ?_
  intro p e s m below meth c hx hb hts hown hr hlocks hml ls hl
  have hl : lv_has ls 2 [(0, .ref h), (1, .int c0)] := hl
  refine lv_iload_n hx hb dX5_isNothing_0 rfl (lv_at hl 1 rfl) ?_
  refine lv_bipush (v := 32) hx hb dX5_isNothing_1 (by decide) ?_
  refine lv_icmp_eq (tgt := 12) hx hb dX5_isNothing_3 (by decide) (fun c_3 => ?_) (fun c_3 => ?_)
  · have c_3 : c0 = 32 := c_3
    refine lv_iconst (v := 1) hx hb dX5_isNothing_12 (by decide) ?_
    refine lv_goto (tgt := 17) hx hb dX5_isNothing_13 (by decide) ?_
    exact W.zret hx hb hr rfl (fun t ht hW => ⟨(by simp only [f_isNothing, eq_true c_3, ↓reduceIte, not_false_eq_true, not_true_eq_false, eq_self]), ht⟩) (fun q h => nomatch h) dX5_isNothing_17 hlocks
  · have c_3 : ¬ (c0 = 32) := c_3
    refine lv_iload_n hx hb dX5_isNothing_6 rfl (lv_at hl 1 rfl) ?_
    refine lv_bipush (v := 10) hx hb dX5_isNothing_7 (by decide) ?_
    refine lv_icmp_ne (tgt := 16) hx hb dX5_isNothing_9 (by decide) (fun c_9 => ?_) (fun c_9 => ?_)
    · have c_9 : ¬ (c0 = 10) := c_9
      refine lv_iconst (v := 0) hx hb dX5_isNothing_16 (by decide) ?_
      exact W.zret hx hb hr rfl (fun t ht hW => ⟨(by simp only [f_isNothing, eq_false c_3, eq_false c_9, ↓reduceIte, not_false_eq_true, not_true_eq_false, eq_self]), ht⟩) (fun q h => nomatch h) dX5_isNothing_17 hlocks
    · have c_9 : c0 = 10 := c_9
      refine lv_iconst (v := 1) hx hb dX5_isNothing_12 (by decide) ?_
      refine lv_goto (tgt := 17) hx hb dX5_isNothing_13 (by decide) ?_
      exact W.zret hx hb hr rfl (fun t ht hW => ⟨(by simp only [f_isNothing, eq_false c_3, eq_true c_9, ↓reduceIte, not_false_eq_true, not_true_eq_false, eq_self]), ht⟩) (fun q h => nomatch h) dX5_isNothing_17 hlocks
set_option maxHeartbeats 4000000 in
set_option maxRecDepth 100000 in
theorem c_M_charAt (l : Launch) (dC : Nat → ClassId) (dI : Nat → Nat → Nat) (cI cJ : ClassId) (h : Nat) (ad : Nat → Nat) (sz : Nat) (σ : MS) (l0 : Int32) (i0 : Int32) (hl0 : 0 ≤ l0.toInt) (hl1 : l0.toInt < 12) (hi0 : 0 ≤ i0.toInt) (hs : (σ.2.2.1 9 l0.toNatClampNeg).toInt ≤ 160) : Met l yX5_charAt wsX5_charAt ({ frames := 0, cells := 0, slots := 0, locals := 0 } : Room) (va_Pc [.ref h, .int l0, .int i0] (mPre dC dI cI cJ h ad sz σ)) (va_Qi (fun r u => r = F_charAt σ l0 i0 ∧ u = σ) (mAt dC dI cI cJ h ad (mA h ad cI cJ σ sz)) (mA h ad cI cJ σ sz)) 0 0 (mA h ad cI cJ σ sz) := by
  refine m_ofW (cc := cX5_charAt) (maxL := 3) (ret := (some .int)) (by decide) rfl (by decide +kernel) rfl (Nat.le_of_ble_eq_true rfl) ?_
  intro p e s m below meth c X G hA hr hlocks hml ls hl
  have hl : lv_has ls 3 [(0, .ref h), (1, .int l0), (2, .int i0)] := hl
  have hx := X.1
  have hb := X.2.1
  have hts := X.2.2.1
  have hown := X.2.2.2.2.1
  refine lv_iload_n hx hb dX5_charAt_0 rfl (lv_at hl 2 rfl) ?_
  refine lv_aload_n hx hb dX5_charAt_1 rfl (lv_at hl 0 rfl) ?_
  refine m_get_9 X G (by decide +kernel) dX5_charAt_2 ?_
  refine lv_iload_n hx hb dX5_charAt_5 rfl (lv_at hl 1 rfl) ?_
  refine m_ld_9 X G (vin (rfl : l0.toInt = _) (by omega) (by omega)) dX5_charAt_6 ?_
  refine lv_icmp_ge (tgt := 25) hx hb dX5_charAt_7 (by decide) (fun c_7 => ?_) (fun c_7 => ?_)
  · have c_7 : (σ.2.2.1 9 l0.toNatClampNeg) ≤ i0 := c_7
    refine lv_iconst (v := 0) hx hb dX5_charAt_25 (by decide) ?_
    exact m_iret X G hr hlocks ⟨(by simp only [F_charAt, eq_true c_7, ↓reduceIte, si_self, sm_self, si_snd, sm_fst, si20_16, not_false_eq_true, not_true_eq_false, eq_self] <;> rfl), rfl⟩ dX5_charAt_26
  · have c_7 : ¬ ((σ.2.2.1 9 l0.toNatClampNeg) ≤ i0) := c_7
    have h7 := i_nle c_7
    refine lv_aload_n hx hb dX5_charAt_10 rfl (lv_at hl 0 rfl) ?_
    refine m_get_8 X G (by decide +kernel) dX5_charAt_11 ?_
    refine lv_sipush (v := 160) hx hb dX5_charAt_14 (by decide) ?_
    refine lv_iload_n hx hb dX5_charAt_17 rfl (lv_at hl 1 rfl) ?_
    refine lv_imul hx hb dX5_charAt_18 ?_
    refine lv_iload_n hx hb dX5_charAt_19 rfl (lv_at hl 2 rfl) ?_
    refine lv_iadd hx hb dX5_charAt_20 ?_
    refine m_ld_8 X G (vin (i_addE (i_mulE (show (160 : Int32).toInt = 160 from rfl) (rfl : l0.toInt = _) (by omega) (by omega)) (rfl : i0.toInt = _) (by omega) (by omega)) (by omega) (by omega)) dX5_charAt_21 ?_
    refine lv_goto (tgt := 26) hx hb dX5_charAt_22 (by decide) ?_
    exact m_iret X G hr hlocks ⟨(by simp only [F_charAt, eq_false c_7, ↓reduceIte, si_self, sm_self, si_snd, sm_fst, si20_16, not_false_eq_true, not_true_eq_false, eq_self] <;> rfl), rfl⟩ dX5_charAt_26
set_option maxHeartbeats 4000000 in
set_option maxRecDepth 100000 in
theorem c_M_isDone_L9 {p : Program} (l : Launch) {e : Env} {s : State} {m : MethodId} {below : List Frame} {meth : Method} {c : Code} {dC : Nat → ClassId} {dI : Nat → Nat → Nat} {cI cJ : ClassId} {h : Nat} {ad : Nat → Nat} {sz : Nat} (σ : MS) (i0 : Int32) (hi0 : 0 ≤ i0.toInt) (hl0 : 1 ≤ (σ.1 11).toInt) (hl1 : (σ.1 11).toInt ≤ 12) (hs : (σ.2.2.1 9 (σ.1 11 - 1).toNatClampNeg).toInt ≤ 160) (X : mX p s m ([.ref h, .int i0] : List Value).toArray c cX5_isDone wsX5_isDone dC dI cI cJ) (hA : ∀ q : Nat, s.heap.size ≤ q → mA h ad cI cJ σ sz q) (hr : meth.sig.returnType = (some .boolean)) (hlocks : meth.locks = false) (hml : c.maxLocals = 4) :
    ∀ (fu : Nat) (v1 : Int32) (k1 : Int32), F_isDone σ i0 = F_isDone_L9 i0 fu v1 k1 σ → (0 ≤ v1.toInt) → (v1.toInt < 12) → (0 ≤ k1.toInt) → ((σ.2.2.1 9 v1.toNatClampNeg).toInt ≤ 160) → (((σ.2.2.1 9 v1.toNatClampNeg).toInt - k1.toInt).toNat < fu) → ∀ (H : Heap) (locs : List Loc), mH dC dI h ad cI cJ σ (mA h ad cI cJ σ sz) s.heap H locs → ∀ ls : Array Slot, lv_has ls 4 [(0, .ref h), (1, .int i0), (2, .int v1), (3, .int k1)] → W p l e ({ frames := 1, cells := 0, slots := 0, locals := 21 } : Room) s m ([.ref h, .int i0] : List Value).toArray below meth c H locs 0 0 (MQ below (va_Qi (fun r u => r = F_isDone σ i0 ∧ u = σ) (mAt dC dI cI cJ h ad (mA h ad cI cJ σ sz)) (mA h ad cI cJ σ sz)) ([.ref h, .int i0] : List Value).toArray s 0 0 (mA h ad cI cJ σ sz)) (F0 m 9 ls []) := by
  have hx := X.1
  have hb := X.2.1
  have hts := X.2.2.1
  have hown := X.2.2.2.2.1
  intro fu
  induction fu with
  | zero =>
    intro v1 k1 hI h20 h21 h22 h23 hm
    exact absurd hm (Nat.not_lt_zero _)
  | succ fu ih =>
    intro v1 k1 hI h20 h21 h22 h23 hm H locs G ls hl
    refine lv_iload_n hx hb dX5_isDone_9 rfl (lv_at hl 3 rfl) ?_
    refine lv_aload_n hx hb dX5_isDone_10 rfl (lv_at hl 0 rfl) ?_
    refine m_get_9 X G (by decide +kernel) dX5_isDone_11 ?_
    refine lv_iload_n hx hb dX5_isDone_14 rfl (lv_at hl 2 rfl) ?_
    refine m_ld_9 X G (vin (rfl : v1.toInt = _) (by omega) (by omega)) dX5_isDone_15 ?_
    refine lv_icmp_ge (tgt := 46) hx hb dX5_isDone_16 (by decide) (fun c_16 => ?_) (fun c_16 => ?_)
    · have c_16 : (σ.2.2.1 9 v1.toNatClampNeg) ≤ k1 := c_16
      refine lv_iconst (v := 1) hx hb dX5_isDone_46 (by decide) ?_
      exact m_zret X G hr hlocks rfl ⟨(by rw [hI]; simp only [F_isDone_L9, eq_true c_16, ↓reduceIte, si_self, sm_self, si_snd, sm_fst, si20_16, not_false_eq_true, not_true_eq_false, eq_self] <;> rfl), rfl⟩ dX5_isDone_47
    · have c_16 : ¬ ((σ.2.2.1 9 v1.toNatClampNeg) ≤ k1) := c_16
      have h16 := i_nle c_16
      refine lv_aload_n hx hb dX5_isDone_19 rfl (lv_at hl 0 rfl) ?_
      refine lv_aload_n hx hb dX5_isDone_20 rfl (lv_at hl 0 rfl) ?_
      refine m_get_8 X G (by decide +kernel) dX5_isDone_21 ?_
      refine lv_sipush (v := 160) hx hb dX5_isDone_24 (by decide) ?_
      refine lv_iload_n hx hb dX5_isDone_27 rfl (lv_at hl 2 rfl) ?_
      refine lv_imul hx hb dX5_isDone_28 ?_
      refine lv_iload_n hx hb dX5_isDone_29 rfl (lv_at hl 3 rfl) ?_
      refine lv_iadd hx hb dX5_isDone_30 ?_
      refine m_ld_8 X G (vin (i_addE (i_mulE (show (160 : Int32).toInt = 160 from rfl) (rfl : v1.toInt = _) (by omega) (by omega)) (rfl : k1.toInt = _) (by omega) (by omega)) (by omega) (by omega)) dX5_isDone_31 ?_
      refine W.callR (W.runV (C := RX5) (As := [.int (σ.2.2.1 8 ((160 * v1) + k1).toNatClampNeg)]) (rest := []) ⟨hx, hb, hml, hown, hts⟩ (c_M_isNothing l h (σ.2.2.1 8 ((160 * v1) + k1).toNatClampNeg)) (cwV 1 hts gX5_isDone_X5_isNothing rfl rfl rfl (by decide +kernel) ⟨Nat.le_of_ble_eq_true rfl, Nat.le_of_ble_eq_true rfl⟩) ⟨fun a U g mk q => q, va_recv X.2.2.2.2.2 G.1 (ci := 4) (q0 := 0) rfl rfl, fun U _ _ => ⟨rfl, trivial⟩⟩ rfl rfl hl.1 rfl (lv_room (Nat.le_of_ble_eq_true rfl)) dX5_isDone_32 ⟨Nat.zero_le _, Nat.zero_le _⟩) ?_
      refine W.eq (g2 := F0 m 35 ls [.int (f_isNothing (σ.2.2.1 8 ((160 * v1) + k1).toNatClampNeg))]) rfl ?_
      refine lv_if_ne (tgt := 40) hx hb dX5_isDone_35 (by decide) (fun c_35 => ?_) (fun c_35 => ?_)
      · have c_35 : ¬ ((f_isNothing (σ.2.2.1 8 ((160 * v1) + k1).toNatClampNeg)) = 0) := c_35
        refine lv_iinc (v := (k1 + 1)) (lv' := [(3, .int (k1 + 1)), (0, .ref h), (1, .int i0), (2, .int v1)]) hx hb dX5_isDone_40 hl (k := 3) rfl rfl (by decide) rfl (fun ls hl => ?_)
        refine lv_goto (tgt := 9) hx hb dX5_isDone_43 (by decide) ?_
        exact ih v1 (k1 + 1)  (by rw [hI]; simp only [F_isDone_L9, eq_false c_16, eq_false c_35, ↓reduceIte, si_self, sm_self, si_snd, sm_fst, si20_16, not_false_eq_true, not_true_eq_false, eq_self] <;> rfl) h20 h21 (by rw [i_inc c_16]; omega) h23 (mu_inc hm c_16) H locs G ls (lv_sub hl [1, 2, 3, 0] rfl)
      · have c_35 : (f_isNothing (σ.2.2.1 8 ((160 * v1) + k1).toNatClampNeg)) = 0 := c_35
        refine lv_iconst (v := 0) hx hb dX5_isDone_38 (by decide) ?_
        exact m_zret X G hr hlocks rfl ⟨(by rw [hI]; simp only [F_isDone_L9, eq_false c_16, eq_true c_35, ↓reduceIte, si_self, sm_self, si_snd, sm_fst, si20_16, not_false_eq_true, not_true_eq_false, eq_self] <;> rfl), rfl⟩ dX5_isDone_39
set_option maxHeartbeats 4000000 in
set_option maxRecDepth 100000 in
theorem c_M_isDone (l : Launch) (dC : Nat → ClassId) (dI : Nat → Nat → Nat) (cI cJ : ClassId) (h : Nat) (ad : Nat → Nat) (sz : Nat) (σ : MS) (i0 : Int32) (hi0 : 0 ≤ i0.toInt) (hl0 : 1 ≤ (σ.1 11).toInt) (hl1 : (σ.1 11).toInt ≤ 12) (hs : (σ.2.2.1 9 (σ.1 11 - 1).toNatClampNeg).toInt ≤ 160) : Met l yX5_isDone wsX5_isDone ({ frames := 1, cells := 0, slots := 0, locals := 21 } : Room) (va_Pc [.ref h, .int i0] (mPre dC dI cI cJ h ad sz σ)) (va_Qi (fun r u => r = F_isDone σ i0 ∧ u = σ) (mAt dC dI cI cJ h ad (mA h ad cI cJ σ sz)) (mA h ad cI cJ σ sz)) 0 0 (mA h ad cI cJ σ sz) := by
  refine m_ofW (cc := cX5_isDone) (maxL := 4) (ret := (some .boolean)) (by decide) rfl (by decide +kernel) rfl (Nat.le_of_ble_eq_true rfl) ?_
  intro p e s m below meth c X G hA hr hlocks hml ls hl
  have hl : lv_has ls 4 [(0, .ref h), (1, .int i0)] := hl
  have hx := X.1
  have hb := X.2.1
  have hts := X.2.2.1
  have hown := X.2.2.2.2.1
  refine lv_aload_n hx hb dX5_isDone_0 rfl (lv_at hl 0 rfl) ?_
  refine m_get_11 X G (by decide +kernel) dX5_isDone_1 ?_
  refine lv_iconst (v := 1) hx hb dX5_isDone_4 (by decide) ?_
  refine lv_isub hx hb dX5_isDone_5 ?_
  refine lv_istore_n (lv' := [(2, .int ((σ.1 11) - 1)), (0, .ref h), (1, .int i0)]) hx hb dX5_isDone_6 rfl hl (by decide) rfl (fun ls hl => ?_)
  refine lv_iload_n hx hb dX5_isDone_7 rfl (lv_at hl 2 rfl) ?_
  refine lv_istore_n (lv' := [(3, .int i0), (2, .int ((σ.1 11) - 1)), (0, .ref h), (1, .int i0)]) hx hb dX5_isDone_8 rfl hl (by decide) rfl (fun ls hl => ?_)
  exact c_M_isDone_L9 l σ i0 hi0 hl0 hl1 hs X hA hr hlocks hml (((σ.2.2.1 9 (σ.1 11 - 1).toNatClampNeg).toInt - i0.toInt).toNat + 1) ((σ.1 11) - 1) i0  (by simp only [F_isDone, ↓reduceIte, si_self, sm_self, si_snd, sm_fst, si20_16, not_false_eq_true, not_true_eq_false, eq_self] <;> rfl) (by rw [i_subE rfl (show (1 : Int32).toInt = 1 from rfl) (by omega) (by omega)]; omega) (by rw [i_subE rfl (show (1 : Int32).toInt = 1 from rfl) (by omega) (by omega)]; omega) hi0 hs (Nat.lt_succ_self _) _ _ G ls (lv_sub hl [2, 3, 1, 0] rfl)
set_option maxHeartbeats 4000000 in
set_option maxRecDepth 100000 in
theorem c_M_mayRun (l : Launch) (dC : Nat → ClassId) (dI : Nat → Nat → Nat) (cI cJ : ClassId) (h : Nat) (ad : Nat → Nat) (sz : Nat) (σ : MS) (i0 : Int32) (hi0 : 0 ≤ i0.toInt) (hl0 : 1 ≤ (σ.1 11).toInt) (hl1 : (σ.1 11).toInt ≤ 12) (hs : (σ.2.2.1 9 (σ.1 11 - 1).toNatClampNeg).toInt ≤ 160) : Met l yX5_mayRun wsX5_mayRun ({ frames := 2, cells := 0, slots := 0, locals := 44 } : Room) (va_Pc [.ref h, .int i0] (mPre dC dI cI cJ h ad sz σ)) (va_Qi (fun r u => F_mayRun σ i0 = (r, u)) (mAt dC dI cI cJ h ad (mA h ad cI cJ σ sz)) (mA h ad cI cJ σ sz)) 0 0 (mA h ad cI cJ σ sz) := by
  refine m_ofW (cc := cX5_mayRun) (maxL := 2) (ret := (some .boolean)) (by decide) rfl (by decide +kernel) rfl (Nat.le_of_ble_eq_true rfl) ?_
  intro p e s m below meth c X G hA hr hlocks hml ls hl
  have hl : lv_has ls 2 [(0, .ref h), (1, .int i0)] := hl
  have hx := X.1
  have hb := X.2.1
  have hts := X.2.2.1
  have hown := X.2.2.2.2.1
  refine lv_aload_n hx hb dX5_mayRun_0 rfl (lv_at hl 0 rfl) ?_
  refine m_get_11 X G (by decide +kernel) dX5_mayRun_1 ?_
  refine lv_bipush (v := 12) hx hb dX5_mayRun_4 (by decide) ?_
  refine lv_icmp_lt (tgt := 25) hx hb dX5_mayRun_6 (by decide) (fun c_6 => ?_) (fun c_6 => ?_)
  · have c_6 : (σ.1 11) < 12 := c_6
    refine lv_iconst (v := 1) hx hb dX5_mayRun_25 (by decide) ?_
    refine lv_goto (tgt := 30) hx hb dX5_mayRun_26 (by decide) ?_
    exact m_zret X G hr hlocks rfl (by simp only [F_mayRun, eq_true c_6, ↓reduceIte, si_self, sm_self, si_snd, sm_fst, si20_16, not_false_eq_true, not_true_eq_false, eq_self] <;> rfl) dX5_mayRun_30
  · have c_6 : ¬ ((σ.1 11) < 12) := c_6
    refine lv_aload_n hx hb dX5_mayRun_9 rfl (lv_at hl 0 rfl) ?_
    refine lv_iload_n hx hb dX5_mayRun_10 rfl (lv_at hl 1 rfl) ?_
    refine m_calli (As := [.int i0]) (rest := []) X hml G hA (c_M_isDone l dC dI cI cJ h ad _ σ i0 hi0 hl0 hl1 hs) (cwV 1 hts gX5_mayRun_X5_isDone rfl rfl rfl (by decide +kernel) ⟨Nat.le_of_ble_eq_true rfl, Nat.le_of_ble_eq_true rfl⟩) rfl hl.1 rfl (Nat.le_of_ble_eq_true rfl) dX5_mayRun_11 ⟨Nat.zero_le _, Nat.zero_le _⟩ (fun r_11 u_11 H locs hw_11 G => ?_)
    obtain ⟨rfl, hu_11⟩ := hw_11
    rw [hu_11] at G
    refine lv_if_ne (tgt := 25) hx hb dX5_mayRun_14 (by decide) (fun c_14 => ?_) (fun c_14 => ?_)
    · have c_14 : ¬ ((F_isDone σ i0) = 0) := c_14
      refine lv_iconst (v := 1) hx hb dX5_mayRun_25 (by decide) ?_
      refine lv_goto (tgt := 30) hx hb dX5_mayRun_26 (by decide) ?_
      exact m_zret X G hr hlocks rfl (by simp only [F_mayRun, eq_false c_6, eq_false c_14, ↓reduceIte, si_self, sm_self, si_snd, sm_fst, si20_16, not_false_eq_true, not_true_eq_false, eq_self] <;> rfl) dX5_mayRun_30
    · have c_14 : (F_isDone σ i0) = 0 := c_14
      refine lv_aload_n hx hb dX5_mayRun_17 rfl (lv_at hl 0 rfl) ?_
      refine lv_iconst (v := 5) hx hb dX5_mayRun_18 (by decide) ?_
      refine m_calli (As := [.int 5]) (rest := []) X hml G hA (c_M_fail l dC dI cI cJ h ad _ σ 5) (cwV 1 hts gX5_mayRun_X5_fail rfl rfl rfl (by decide +kernel) ⟨Nat.le_of_ble_eq_true rfl, Nat.le_of_ble_eq_true rfl⟩) rfl hl.1 rfl (Nat.le_of_ble_eq_true rfl) dX5_mayRun_19 ⟨Nat.zero_le _, Nat.zero_le _⟩ (fun r_19 u_19 H locs hw_19 G => ?_)
      obtain ⟨rfl, rfl⟩ := hw_19
      refine lv_if_eq (tgt := 29) hx hb dX5_mayRun_22 (by decide) (fun c9 => ?_) (fun c9 => absurd (show (0 : Int32) = 0 from by decide) c9)
      refine lv_iconst (v := 0) hx hb dX5_mayRun_29 (by decide) ?_
      exact m_zret X G hr hlocks rfl (by simp only [F_mayRun, eq_false c_6, eq_true c_14, ↓reduceIte, si_self, sm_self, si_snd, sm_fst, si20_16, not_false_eq_true, not_true_eq_false, eq_self] <;> rfl) dX5_mayRun_30
theorem mayRun_ok {σ u : MS} {i r : Int32} (h : F_mayRun σ i = (r, u)) (hr : ¬ r = 0) : σ = u ∧ ((σ.1 11).toInt < 12 ∨ ¬ F_isDone σ i = 0) := by
  by_cases c : σ.1 11 < 12
  · simp only [F_mayRun, c, ↓reduceIte, Prod.mk.injEq] at h; exact ⟨h.2, Or.inl (i_lt c)⟩
  · by_cases d : F_isDone σ i = 0
    · simp only [F_mayRun, c, d, ↓reduceIte, Prod.mk.injEq] at h; exact absurd h.1.symm hr
    · simp only [F_mayRun, c, d, ↓reduceIte, Prod.mk.injEq] at h; exact ⟨h.2, Or.inr d⟩
set_option maxHeartbeats 4000000 in
set_option maxRecDepth 100000 in
theorem c_M_copy_L26 {p : Program} (l : Launch) {e : Env} {s : State} {m : MethodId} {below : List Frame} {meth : Method} {c : Code} {dC : Nat → ClassId} {dI : Nat → Nat → Nat} {cI cJ : ClassId} {h : Nat} {ad : Nat → Nat} {sz : Nat} (σ : MS) (f0 : Int32) (t0 : Int32) (h0 : 0 ≤ f0.toInt) (h1 : f0.toInt < 82) (h2 : 0 ≤ t0.toInt) (h3 : t0.toInt < 82) (ht : σ.2.2.1 3 f0.toNatClampNeg < 0 → (σ.2.2.2 2 f0.toNatClampNeg).toInt ≤ 160) (X : mX p s m ([.ref h, .int f0, .int t0] : List Value).toArray c cX5_copy wsX5_copy dC dI cI cJ) (hA : ∀ q : Nat, s.heap.size ≤ q → mA h ad cI cJ σ sz q) (hr : meth.sig.returnType = none) (hlocks : meth.locks = false) (hml : c.maxLocals = 4) :
    ∀ (fu : Nat) (k1 : Int32) (τ : MS), F_copy σ f0 t0 = F_copy_L26 f0 t0 fu k1 τ → (0 ≤ k1.toInt) → ((161 - k1.toInt).toNat < fu) → (τ.2.2.1 3 f0.toNatClampNeg < 0 → (τ.2.2.2 2 f0.toNatClampNeg).toInt ≤ 160) → ∀ (H : Heap) (locs : List Loc), mH dC dI h ad cI cJ τ (mA h ad cI cJ σ sz) s.heap H locs → ∀ ls : Array Slot, lv_has ls 4 [(0, .ref h), (1, .int f0), (2, .int t0), (3, .int k1)] → W p l e ({ frames := 0, cells := 0, slots := 0, locals := 0 } : Room) s m ([.ref h, .int f0, .int t0] : List Value).toArray below meth c H locs 0 0 (MQ below (va_Qv (fun u => F_copy σ f0 t0 = u) (mAt dC dI cI cJ h ad (mA h ad cI cJ σ sz)) (mA h ad cI cJ σ sz)) ([.ref h, .int f0, .int t0] : List Value).toArray s 0 0 (mA h ad cI cJ σ sz)) (F0 m 26 ls []) := by
  have hx := X.1
  have hb := X.2.1
  have hts := X.2.2.1
  have hown := X.2.2.2.2.1
  intro fu
  induction fu with
  | zero =>
    intro k1 τ hI hk hm htx
    exact absurd hm (Nat.not_lt_zero _)
  | succ fu ih =>
    intro k1 τ hI hk hm htx H locs G ls hl
    refine lv_iload_n hx hb dX5_copy_26 rfl (lv_at hl 3 rfl) ?_
    refine lv_i2l hx hb dX5_copy_27 rfl ?_
    refine lv_aload_n hx hb dX5_copy_28 rfl (lv_at hl 0 rfl) ?_
    refine m_get_2 X G (by decide +kernel) dX5_copy_29 ?_
    refine lv_iload_n hx hb dX5_copy_32 rfl (lv_at hl 1 rfl) ?_
    refine m_ld_2 X G (vin (rfl : f0.toInt = _) (by omega) (by omega)) dX5_copy_33 ?_
    refine W.lcmp hx hb dX5_copy_34 ?_
    refine lv_if_ge (tgt := 77) hx hb dX5_copy_35 (by decide) (fun c_35 => ?_) (fun c_35 => ?_)
    · have c_35 := ((l_cmp_ge _ _).mp c_35)
      have c_35 : (τ.2.2.2 2 f0.toNatClampNeg) ≤ k1.toInt64 := c_35
      exact m_vret X G hr hlocks (by rw [hI]; simp only [F_copy_L26, eq_true c_35, ↓reduceIte, si_self, sm_self, si_snd, sm_fst, si20_16, not_false_eq_true, not_true_eq_false, eq_self] <;> rfl) dX5_copy_77
    · have c_35 := (mt (l_cmp_ge _ _).mpr c_35)
      have c_35 : ¬ ((τ.2.2.2 2 f0.toNatClampNeg) ≤ k1.toInt64) := c_35
      have h35 := l_lt64 c_35
      refine lv_aload_n hx hb dX5_copy_38 rfl (lv_at hl 0 rfl) ?_
      refine m_get_3 X G (by decide +kernel) dX5_copy_39 ?_
      refine lv_iload_n hx hb dX5_copy_42 rfl (lv_at hl 1 rfl) ?_
      refine m_ld_3 X G (vin (rfl : f0.toInt = _) (by omega) (by omega)) dX5_copy_43 ?_
      refine lv_if_ge (tgt := 77) hx hb dX5_copy_44 (by decide) (fun c_44 => ?_) (fun c_44 => ?_)
      · have c_44 : 0 ≤ (τ.2.2.1 3 f0.toNatClampNeg) := c_44
        exact m_vret X G hr hlocks (by rw [hI]; simp only [F_copy_L26, eq_false c_35, eq_true c_44, ↓reduceIte, si_self, sm_self, si_snd, sm_fst, si20_16, not_false_eq_true, not_true_eq_false, eq_self] <;> rfl) dX5_copy_77
      · have c_44 : ¬ (0 ≤ (τ.2.2.1 3 f0.toNatClampNeg)) := c_44
        have h44 := htx (Int32.not_le.mp c_44)
        have hk2 : (k1 + 1).toInt = k1.toInt + 1 := i_addE rfl rfl (by omega) (by omega)
        refine lv_aload_n hx hb dX5_copy_47 rfl (lv_at hl 0 rfl) ?_
        refine m_get_4 X G (by decide +kernel) dX5_copy_48 ?_
        refine lv_sipush (v := 160) hx hb dX5_copy_51 (by decide) ?_
        refine lv_iload_n hx hb dX5_copy_54 rfl (lv_at hl 2 rfl) ?_
        refine lv_imul hx hb dX5_copy_55 ?_
        refine lv_iload_n hx hb dX5_copy_56 rfl (lv_at hl 3 rfl) ?_
        refine lv_iadd hx hb dX5_copy_57 ?_
        refine lv_aload_n hx hb dX5_copy_58 rfl (lv_at hl 0 rfl) ?_
        refine m_get_4 X G (by decide +kernel) dX5_copy_59 ?_
        refine lv_sipush (v := 160) hx hb dX5_copy_62 (by decide) ?_
        refine lv_iload_n hx hb dX5_copy_65 rfl (lv_at hl 1 rfl) ?_
        refine lv_imul hx hb dX5_copy_66 ?_
        refine lv_iload_n hx hb dX5_copy_67 rfl (lv_at hl 3 rfl) ?_
        refine lv_iadd hx hb dX5_copy_68 ?_
        refine m_ld_4 X G (vin (i_addE (i_mulE (show (160 : Int32).toInt = 160 from rfl) (rfl : f0.toInt = _) (by omega) (by omega)) (rfl : k1.toInt = _) (by omega) (by omega)) (by omega) (by omega)) dX5_copy_69 ?_
        refine m_st_4 X G (vin (i_addE (i_mulE (show (160 : Int32).toInt = 160 from rfl) (rfl : t0.toInt = _) (by omega) (by omega)) (rfl : k1.toInt = _) (by omega) (by omega)) (by omega) (by omega)) dX5_copy_70 (fun H locs G => ?_)
        refine lv_iinc (v := (k1 + 1)) (lv' := [(3, .int (k1 + 1)), (0, .ref h), (1, .int f0), (2, .int t0)]) hx hb dX5_copy_71 hl (k := 3) rfl rfl (by decide) rfl (fun ls hl => ?_)
        refine lv_goto (tgt := 26) hx hb dX5_copy_74 (by decide) ?_
        exact ih (k1 + 1) (sa τ 4 ((160 * t0) + k1).toNatClampNeg (τ.2.2.1 4 ((160 * f0) + k1).toNatClampNeg)) (by rw [hI]; simp only [F_copy_L26, eq_false c_35, eq_false c_44, ↓reduceIte, si_self, sm_self, si_snd, sm_fst, si20_16, not_false_eq_true, not_true_eq_false, eq_self] <;> rfl) (by omega) (by omega) htx H locs G ls (lv_sub hl [1, 2, 3, 0] rfl)
set_option maxHeartbeats 4000000 in
set_option maxRecDepth 100000 in
theorem c_M_copy (l : Launch) (dC : Nat → ClassId) (dI : Nat → Nat → Nat) (cI cJ : ClassId) (h : Nat) (ad : Nat → Nat) (sz : Nat) (σ : MS) (f0 : Int32) (t0 : Int32) (h0 : 0 ≤ f0.toInt) (h1 : f0.toInt < 82) (h2 : 0 ≤ t0.toInt) (h3 : t0.toInt < 82) (ht : σ.2.2.1 3 f0.toNatClampNeg < 0 → (σ.2.2.2 2 f0.toNatClampNeg).toInt ≤ 160) : Met l yX5_copy wsX5_copy ({ frames := 0, cells := 0, slots := 0, locals := 0 } : Room) (va_Pc [.ref h, .int f0, .int t0] (mPre dC dI cI cJ h ad sz σ)) (va_Qv (fun u => F_copy σ f0 t0 = u) (mAt dC dI cI cJ h ad (mA h ad cI cJ σ sz)) (mA h ad cI cJ σ sz)) 0 0 (mA h ad cI cJ σ sz) := by
  refine m_ofW (cc := cX5_copy) (maxL := 4) (ret := none) (by decide) rfl (by decide +kernel) rfl (Nat.le_of_ble_eq_true rfl) ?_
  intro p e s m below meth c X G hA hr hlocks hml ls hl
  have hl : lv_has ls 4 [(0, .ref h), (1, .int f0), (2, .int t0)] := hl
  have hx := X.1
  have hb := X.2.1
  have hts := X.2.2.1
  have hown := X.2.2.2.2.1
  refine lv_aload_n hx hb dX5_copy_0 rfl (lv_at hl 0 rfl) ?_
  refine m_get_2 X G (by decide +kernel) dX5_copy_1 ?_
  refine lv_iload_n hx hb dX5_copy_4 rfl (lv_at hl 2 rfl) ?_
  refine lv_aload_n hx hb dX5_copy_5 rfl (lv_at hl 0 rfl) ?_
  refine m_get_2 X G (by decide +kernel) dX5_copy_6 ?_
  refine lv_iload_n hx hb dX5_copy_9 rfl (lv_at hl 1 rfl) ?_
  refine m_ld_2 X G (vin (rfl : f0.toInt = _) (by omega) (by omega)) dX5_copy_10 ?_
  refine m_st_2 X G (vin (rfl : t0.toInt = _) (by omega) (by omega)) dX5_copy_11 (fun H locs G => ?_)
  refine lv_aload_n hx hb dX5_copy_12 rfl (lv_at hl 0 rfl) ?_
  refine m_get_3 X G (by decide +kernel) dX5_copy_13 ?_
  refine lv_iload_n hx hb dX5_copy_16 rfl (lv_at hl 2 rfl) ?_
  refine lv_aload_n hx hb dX5_copy_17 rfl (lv_at hl 0 rfl) ?_
  refine m_get_3 X G (by decide +kernel) dX5_copy_18 ?_
  refine lv_iload_n hx hb dX5_copy_21 rfl (lv_at hl 1 rfl) ?_
  refine m_ld_3 X G (vin (rfl : f0.toInt = _) (by omega) (by omega)) dX5_copy_22 ?_
  refine m_st_3 X G (vin (rfl : t0.toInt = _) (by omega) (by omega)) dX5_copy_23 (fun H locs G => ?_)
  refine lv_iconst (v := 0) hx hb dX5_copy_24 (by decide) ?_
  refine lv_istore_n (lv' := [(3, .int 0), (0, .ref h), (1, .int f0), (2, .int t0)]) hx hb dX5_copy_25 rfl hl (by decide) rfl (fun ls hl => ?_)
  exact c_M_copy_L26 l σ f0 t0 h0 h1 h2 h3 ht X hA hr hlocks hml 162 0 (sa (sb σ 2 t0.toNatClampNeg (σ.2.2.2 2 f0.toNatClampNeg)) 3 t0.toNatClampNeg (σ.2.2.1 3 f0.toNatClampNeg)) (by simp only [F_copy, ↓reduceIte, si_self, sm_self, si_snd, sm_fst, si20_16, not_false_eq_true, not_true_eq_false, eq_self] <;> rfl) (by decide) (by decide) (by by_cases e : f0.toNatClampNeg = t0.toNatClampNeg <;> simpa [sa, sb, upd, vp_updL, e] using ht) _ _ G ls (lv_sub hl [1, 2, 3, 0] rfl)
theorem sc_refl (σ : MS) : sc σ σ := ⟨rfl, rfl, fun _ _ _ => rfl, fun _ _ => rfl⟩
theorem sc_sa {σ u : MS} {k j : Nat} {v : Int32} (hk : k = 3 ∨ k = 4) (h : sc σ u) : sc σ (sa u k j v) := by
  obtain ⟨h1, h2, h3, h4⟩ := h
  refine ⟨h1, h2, fun q e1 e2 => ?_, h4⟩
  have e : q ≠ k := by rcases hk with rfl | rfl <;> assumption
  simp only [sa, e, ↓reduceIte]; exact h3 q e1 e2
theorem sc_sb {σ u : MS} {j : Nat} {v : Int64} (h : sc σ u) : sc σ (sb u 2 j v) := by
  obtain ⟨h1, h2, h3, h4⟩ := h
  refine ⟨h1, h2, h3, fun q e => ?_⟩
  simp only [sb, e, ↓reduceIte]; exact h4 q e
theorem sc_copyL {σ : MS} {f0 t0 : Int32} : ∀ (fu : Nat) (k : Int32) (τ : MS), sc σ τ → sc σ (F_copy_L26 f0 t0 fu k τ) := by
  intro fu
  induction fu with
  | zero => intro k τ h; exact h
  | succ fu ih =>
    intro k τ h
    simp only [F_copy_L26]
    split
    · exact h
    · split
      · exact h
      · exact ih _ _ (sc_sa (Or.inr rfl) h)
theorem sc_copy {σ : MS} {f t : Int32} : sc σ (F_copy σ f t) := sc_copyL _ _ _ (sc_sa (Or.inl rfl) (sc_sb (sc_refl _)))
theorem copy_st {σ u : MS} {f t : Int32} (h : F_copy σ f t = u) : ∃ b2 a3 a4, scp σ b2 a3 a4 = u := by
  have hs := sc_copy (σ := σ) (f := f) (t := t)
  rw [h] at hs
  obtain ⟨h1, h2, h3, h4⟩ := hs
  refine ⟨u.2.2.2 2, u.2.2.1 3, u.2.2.1 4, ?_⟩
  obtain ⟨a, b, c, d⟩ := u
  simp only at h1 h2 h3 h4
  simp only [scp, Prod.mk.injEq]
  refine ⟨h1.symm, h2.symm, ?_, ?_⟩
  · funext q
    by_cases e1 : q = 3
    · simp [e1]
    · by_cases e2 : q = 4
      · simp [e2]
      · simp only [e1, e2, ↓reduceIte]; exact (h3 q e1 e2).symm
  · funext q
    by_cases e1 : q = 2
    · simp [e1]
    · simp only [e1, ↓reduceIte]; exact (h4 q e1).symm
theorem isDone_at {σ : MS} {j : Nat} {v i : Int32} : F_isDone (sa σ 10 j v) i = F_isDone σ i := by
  have h : ∀ (fu : Nat) (a b : Int32), F_isDone_L9 i fu a b (sa σ 10 j v) = F_isDone_L9 i fu a b σ := by
    intro fu
    induction fu with
    | zero => intro a b; rfl
    | succ fu ih => intro a b; simp only [F_isDone_L9, ih]; rfl
  exact h _ _ _
set_option maxHeartbeats 4000000 in
set_option maxRecDepth 100000 in
theorem c_M_begin_L58 {p : Program} (l : Launch) {e : Env} {s : State} {m : MethodId} {below : List Frame} {meth : Method} {c : Code} {dC : Nat → ClassId} {dI : Nat → Nat → Nat} {cI cJ : ClassId} {h : Nat} {ad : Nat → Nat} {sz : Nat} (σ : MS) (s0 : Int32) (i0 : Int32) (hi0 : 0 ≤ i0.toInt) (hl0 : 1 ≤ (σ.1 11).toInt) (hl1 : (σ.1 11).toInt ≤ 12) (hs : (σ.2.2.1 9 (σ.1 11 - 1).toNatClampNeg).toInt ≤ 160) (h0 : 0 ≤ s0.toInt) (h1 : s0.toInt < 82) (hv0 : 0 ≤ (σ.2.2.2 2 s0.toNatClampNeg).toInt) (hv1 : (σ.2.2.2 2 s0.toNatClampNeg).toInt ≤ 160) (hmr : (σ.1 11).toInt < 12 ∨ ¬ F_isDone σ i0 = 0) (X : mX p s m ([.ref h, .int s0, .int i0] : List Value).toArray c cX5_begin wsX5_begin dC dI cI cJ) (hA : ∀ q : Nat, s.heap.size ≤ q → mA h ad cI cJ σ sz q) (hr : meth.sig.returnType = none) (hlocks : meth.locks = false) (hml : c.maxLocals = 4) :
    ∀ (fu : Nat) (k1 : Int32) (τ : MS), F_begin σ s0 i0 = F_begin_L58 s0 i0 fu k1 τ → (0 ≤ (τ.1 11).toInt) → ((τ.1 11).toInt < 12) → (0 ≤ k1.toInt) → ((τ.2.2.1 9 (τ.1 11).toNatClampNeg).toInt ≤ 160) → (((τ.2.2.1 9 (τ.1 11).toNatClampNeg).toInt - k1.toInt).toNat < fu) → ∀ (H : Heap) (locs : List Loc), mH dC dI h ad cI cJ τ (mA h ad cI cJ σ sz) s.heap H locs → ∀ ls : Array Slot, lv_has ls 4 [(0, .ref h), (1, .int s0), (2, .int i0), (3, .int k1)] → W p l e ({ frames := 2, cells := 0, slots := 0, locals := 44 } : Room) s m ([.ref h, .int s0, .int i0] : List Value).toArray below meth c H locs 0 0 (MQ below (va_Qv (fun u => F_begin σ s0 i0 = u) (mAt dC dI cI cJ h ad (mA h ad cI cJ σ sz)) (mA h ad cI cJ σ sz)) ([.ref h, .int s0, .int i0] : List Value).toArray s 0 0 (mA h ad cI cJ σ sz)) (F0 m 58 ls []) := by
  have hx := X.1
  have hb := X.2.1
  have hts := X.2.2.1
  have hown := X.2.2.2.2.1
  intro fu
  induction fu with
  | zero =>
    intro k1 τ hI h20 h21 hk hsz hm
    exact absurd hm (Nat.not_lt_zero _)
  | succ fu ih =>
    intro k1 τ hI h20 h21 hk hsz hm H locs G ls hl
    refine lv_iload_n hx hb dX5_begin_58 rfl (lv_at hl 3 rfl) ?_
    refine lv_aload_n hx hb dX5_begin_59 rfl (lv_at hl 0 rfl) ?_
    refine m_get_9 X G (by decide +kernel) dX5_begin_60 ?_
    refine lv_aload_n hx hb dX5_begin_63 rfl (lv_at hl 0 rfl) ?_
    refine m_get_11 X G (by decide +kernel) dX5_begin_64 ?_
    refine m_ld_9 X G (vin (rfl : (τ.1 11).toInt = _) (by omega) (by omega)) dX5_begin_67 ?_
    refine lv_icmp_ge (tgt := 104) hx hb dX5_begin_68 (by decide) (fun c_68 => ?_) (fun c_68 => ?_)
    · have c_68 : (τ.2.2.1 9 (τ.1 11).toNatClampNeg) ≤ k1 := c_68
      refine lv_aload_n hx hb dX5_begin_104 rfl (lv_at hl 0 rfl) ?_
      refine lv_dup hx hb dX5_begin_105 rfl ?_
      refine m_get_11 X G (by decide +kernel) dX5_begin_106 ?_
      refine lv_iconst (v := 1) hx hb dX5_begin_109 (by decide) ?_
      refine lv_iadd hx hb dX5_begin_110 ?_
      refine m_put_11 X G (by decide +kernel) dX5_begin_111 (fun H locs G => ?_)
      exact m_vret X G hr hlocks (by rw [hI]; simp only [F_begin_L58, eq_true c_68, ↓reduceIte, si_self, sm_self, si_snd, sm_fst, si20_16, not_false_eq_true, not_true_eq_false, eq_self] <;> rfl) dX5_begin_114
    · have c_68 : ¬ ((τ.2.2.1 9 (τ.1 11).toNatClampNeg) ≤ k1) := c_68
      have h68 := i_nle c_68
      refine lv_aload_n hx hb dX5_begin_71 rfl (lv_at hl 0 rfl) ?_
      refine m_get_8 X G (by decide +kernel) dX5_begin_72 ?_
      refine lv_sipush (v := 160) hx hb dX5_begin_75 (by decide) ?_
      refine lv_aload_n hx hb dX5_begin_78 rfl (lv_at hl 0 rfl) ?_
      refine m_get_11 X G (by decide +kernel) dX5_begin_79 ?_
      refine lv_imul hx hb dX5_begin_82 ?_
      refine lv_iload_n hx hb dX5_begin_83 rfl (lv_at hl 3 rfl) ?_
      refine lv_iadd hx hb dX5_begin_84 ?_
      refine lv_aload_n hx hb dX5_begin_85 rfl (lv_at hl 0 rfl) ?_
      refine m_get_4 X G (by decide +kernel) dX5_begin_86 ?_
      refine lv_sipush (v := 160) hx hb dX5_begin_89 (by decide) ?_
      refine lv_iload_n hx hb dX5_begin_92 rfl (lv_at hl 1 rfl) ?_
      refine lv_imul hx hb dX5_begin_93 ?_
      refine lv_iload_n hx hb dX5_begin_94 rfl (lv_at hl 3 rfl) ?_
      refine lv_iadd hx hb dX5_begin_95 ?_
      refine m_ld_4 X G (vin (i_addE (i_mulE (show (160 : Int32).toInt = 160 from rfl) (rfl : s0.toInt = _) (by omega) (by omega)) (rfl : k1.toInt = _) (by omega) (by omega)) (by omega) (by omega)) dX5_begin_96 ?_
      refine m_st_8 X G (vin (i_addE (i_mulE (show (160 : Int32).toInt = 160 from rfl) (rfl : (τ.1 11).toInt = _) (by omega) (by omega)) (rfl : k1.toInt = _) (by omega) (by omega)) (by omega) (by omega)) dX5_begin_97 (fun H locs G => ?_)
      refine lv_iinc (v := (k1 + 1)) (lv' := [(3, .int (k1 + 1)), (0, .ref h), (1, .int s0), (2, .int i0)]) hx hb dX5_begin_98 hl (k := 3) rfl rfl (by decide) rfl (fun ls hl => ?_)
      refine lv_goto (tgt := 58) hx hb dX5_begin_101 (by decide) ?_
      exact ih (k1 + 1) (sa τ 8 ((160 * (τ.1 11)) + k1).toNatClampNeg (τ.2.2.1 4 ((160 * s0) + k1).toNatClampNeg)) (by rw [hI]; simp only [F_begin_L58, eq_false c_68, ↓reduceIte, si_self, sm_self, si_snd, sm_fst, si20_16, not_false_eq_true, not_true_eq_false, eq_self] <;> rfl) h20 h21 (by rw [i_inc c_68]; omega) hsz (mu_inc hm c_68) H locs G ls (lv_sub hl [1, 2, 3, 0] rfl)
set_option maxHeartbeats 4000000 in
set_option maxRecDepth 100000 in
theorem c_M_begin (l : Launch) (dC : Nat → ClassId) (dI : Nat → Nat → Nat) (cI cJ : ClassId) (h : Nat) (ad : Nat → Nat) (sz : Nat) (σ : MS) (s0 : Int32) (i0 : Int32) (hi0 : 0 ≤ i0.toInt) (hl0 : 1 ≤ (σ.1 11).toInt) (hl1 : (σ.1 11).toInt ≤ 12) (hs : (σ.2.2.1 9 (σ.1 11 - 1).toNatClampNeg).toInt ≤ 160) (h0 : 0 ≤ s0.toInt) (h1 : s0.toInt < 82) (hv0 : 0 ≤ (σ.2.2.2 2 s0.toNatClampNeg).toInt) (hv1 : (σ.2.2.2 2 s0.toNatClampNeg).toInt ≤ 160) (hmr : (σ.1 11).toInt < 12 ∨ ¬ F_isDone σ i0 = 0) : Met l yX5_begin wsX5_begin ({ frames := 2, cells := 0, slots := 0, locals := 44 } : Room) (va_Pc [.ref h, .int s0, .int i0] (mPre dC dI cI cJ h ad sz σ)) (va_Qv (fun u => F_begin σ s0 i0 = u) (mAt dC dI cI cJ h ad (mA h ad cI cJ σ sz)) (mA h ad cI cJ σ sz)) 0 0 (mA h ad cI cJ σ sz) := by
  refine m_ofW (cc := cX5_begin) (maxL := 4) (ret := none) (by decide) rfl (by decide +kernel) rfl (Nat.le_of_ble_eq_true rfl) ?_
  intro p e s m below meth c X G hA hr hlocks hml ls hl
  have hl : lv_has ls 4 [(0, .ref h), (1, .int s0), (2, .int i0)] := hl
  have hx := X.1
  have hb := X.2.1
  have hts := X.2.2.1
  have hown := X.2.2.2.2.1
  have hvi := l_i32 hv0 hv1
  refine lv_aload_n hx hb dX5_begin_0 rfl (lv_at hl 0 rfl) ?_
  refine m_get_10 X G (by decide +kernel) dX5_begin_1 ?_
  refine lv_aload_n hx hb dX5_begin_4 rfl (lv_at hl 0 rfl) ?_
  refine m_get_11 X G (by decide +kernel) dX5_begin_5 ?_
  refine lv_iconst (v := 1) hx hb dX5_begin_8 (by decide) ?_
  refine lv_isub hx hb dX5_begin_9 ?_
  refine lv_iload_n hx hb dX5_begin_10 rfl (lv_at hl 2 rfl) ?_
  refine m_st_10 X G (vin (i_subE (rfl : (σ.1 11).toInt = _) (show (1 : Int32).toInt = 1 from rfl) (by omega) (by omega)) (by omega) (by omega)) dX5_begin_11 (fun H locs G => ?_)
  refine lv_aload_n hx hb dX5_begin_12 rfl (lv_at hl 0 rfl) ?_
  refine lv_iload_n hx hb dX5_begin_13 rfl (lv_at hl 2 rfl) ?_
  refine m_calli (As := [.int i0]) (rest := []) X hml G hA (c_M_isDone l dC dI cI cJ h ad _ (sa σ 10 ((σ.1 11) - 1).toNatClampNeg i0) i0 hi0 hl0 hl1 hs) (cwV 1 hts gX5_begin_X5_isDone rfl rfl rfl (by decide +kernel) ⟨Nat.le_of_ble_eq_true rfl, Nat.le_of_ble_eq_true rfl⟩) rfl hl.1 rfl (Nat.le_of_ble_eq_true rfl) dX5_begin_14 ⟨Nat.zero_le _, Nat.zero_le _⟩ (fun r_14 u_14 H locs hw_14 G => ?_)
  obtain ⟨rfl, hu_14⟩ := hw_14
  rw [hu_14] at G
  refine lv_if_eq (tgt := 30) hx hb dX5_begin_17 (by decide) (fun c_17 => ?_) (fun c_17 => ?_)
  · have c_17 : (F_isDone (sa σ 10 ((σ.1 11) - 1).toNatClampNeg i0) i0) = 0 := c_17
    have hlt : (σ.1 11).toInt < 12 := hmr.resolve_right (fun h => h (isDone_at.symm.trans c_17))
    refine lv_aload_n hx hb dX5_begin_30 rfl (lv_at hl 0 rfl) ?_
    refine m_get_9 X G (by decide +kernel) dX5_begin_31 ?_
    refine lv_aload_n hx hb dX5_begin_34 rfl (lv_at hl 0 rfl) ?_
    refine m_get_11 X G (by decide +kernel) dX5_begin_35 ?_
    refine lv_aload_n hx hb dX5_begin_38 rfl (lv_at hl 0 rfl) ?_
    refine m_get_2 X G (by decide +kernel) dX5_begin_39 ?_
    refine lv_iload_n hx hb dX5_begin_42 rfl (lv_at hl 1 rfl) ?_
    refine m_ld_2 X G (vin (rfl : s0.toInt = _) (by omega) (by omega)) dX5_begin_43 ?_
    refine lv_l2i hx hb dX5_begin_44 rfl ?_
    refine m_st_9 X G (vin (rfl : (σ.1 11).toInt = _) (by omega) (by omega)) dX5_begin_45 (fun H locs G => ?_)
    refine lv_aload_n hx hb dX5_begin_46 rfl (lv_at hl 0 rfl) ?_
    refine m_get_10 X G (by decide +kernel) dX5_begin_47 ?_
    refine lv_aload_n hx hb dX5_begin_50 rfl (lv_at hl 0 rfl) ?_
    refine m_get_11 X G (by decide +kernel) dX5_begin_51 ?_
    refine lv_iconst (v := 0) hx hb dX5_begin_54 (by decide) ?_
    refine m_st_10 X G (vin (rfl : (σ.1 11).toInt = _) (by omega) (by omega)) dX5_begin_55 (fun H locs G => ?_)
    refine lv_iconst (v := 0) hx hb dX5_begin_56 (by decide) ?_
    refine lv_istore_n (lv' := [(3, .int 0), (0, .ref h), (1, .int s0), (2, .int i0)]) hx hb dX5_begin_57 rfl hl (by decide) rfl (fun ls hl => ?_)
    exact c_M_begin_L58 l σ s0 i0 hi0 hl0 hl1 hs h0 h1 hv0 hv1 hmr X hA hr hlocks hml 161 0 (sa (sa (sa σ 10 ((σ.1 11) - 1).toNatClampNeg i0) 9 (σ.1 11).toNatClampNeg ((σ.2.2.2 2 s0.toNatClampNeg).toInt32)) 10 (σ.1 11).toNatClampNeg 0) (by simp only [F_begin, eq_true c_17, ↓reduceIte, si_self, sm_self, si_snd, sm_fst, si20_16, not_false_eq_true, not_true_eq_false, eq_self] <;> rfl) (show 0 ≤ (σ.1 11).toInt from by omega) (show (σ.1 11).toInt < 12 from by omega) (by decide) (show (upd _ (σ.1 11).toNatClampNeg ((σ.2.2.2 2 s0.toNatClampNeg).toInt32) (σ.1 11).toNatClampNeg).toInt ≤ 160 from by rw [pk_us, hvi]; exact hv1) (show ((upd _ (σ.1 11).toNatClampNeg ((σ.2.2.2 2 s0.toNatClampNeg).toInt32) (σ.1 11).toNatClampNeg).toInt - (0 : Int32).toInt).toNat < 161 from by rw [pk_us, hvi]; have : (0 : Int32).toInt = 0 := rfl; omega) _ _ G ls (lv_sub hl [1, 2, 3, 0] rfl)
  · have c_17 : ¬ ((F_isDone (sa σ 10 ((σ.1 11) - 1).toNatClampNeg i0) i0) = 0) := c_17
    refine lv_aload_n hx hb dX5_begin_20 rfl (lv_at hl 0 rfl) ?_
    refine lv_dup hx hb dX5_begin_21 rfl ?_
    refine m_get_11 X G (by decide +kernel) dX5_begin_22 ?_
    refine lv_iconst (v := 1) hx hb dX5_begin_25 (by decide) ?_
    refine lv_isub hx hb dX5_begin_26 ?_
    refine m_put_11 X G (by decide +kernel) dX5_begin_27 (fun H locs G => ?_)
    refine lv_aload_n hx hb dX5_begin_30 rfl (lv_at hl 0 rfl) ?_
    refine m_get_9 X G (by decide +kernel) dX5_begin_31 ?_
    refine lv_aload_n hx hb dX5_begin_34 rfl (lv_at hl 0 rfl) ?_
    refine m_get_11 X G (by decide +kernel) dX5_begin_35 ?_
    refine lv_aload_n hx hb dX5_begin_38 rfl (lv_at hl 0 rfl) ?_
    refine m_get_2 X G (by decide +kernel) dX5_begin_39 ?_
    refine lv_iload_n hx hb dX5_begin_42 rfl (lv_at hl 1 rfl) ?_
    refine m_ld_2 X G (vin (rfl : s0.toInt = _) (by omega) (by omega)) dX5_begin_43 ?_
    refine lv_l2i hx hb dX5_begin_44 rfl ?_
    refine m_st_9 X G (vin (i_subE (rfl : (σ.1 11).toInt = _) (show (1 : Int32).toInt = 1 from rfl) (by omega) (by omega)) (by omega) (by omega)) dX5_begin_45 (fun H locs G => ?_)
    refine lv_aload_n hx hb dX5_begin_46 rfl (lv_at hl 0 rfl) ?_
    refine m_get_10 X G (by decide +kernel) dX5_begin_47 ?_
    refine lv_aload_n hx hb dX5_begin_50 rfl (lv_at hl 0 rfl) ?_
    refine m_get_11 X G (by decide +kernel) dX5_begin_51 ?_
    refine lv_iconst (v := 0) hx hb dX5_begin_54 (by decide) ?_
    refine m_st_10 X G (vin (i_subE (rfl : (σ.1 11).toInt = _) (show (1 : Int32).toInt = 1 from rfl) (by omega) (by omega)) (by omega) (by omega)) dX5_begin_55 (fun H locs G => ?_)
    refine lv_iconst (v := 0) hx hb dX5_begin_56 (by decide) ?_
    refine lv_istore_n (lv' := [(3, .int 0), (0, .ref h), (1, .int s0), (2, .int i0)]) hx hb dX5_begin_57 rfl hl (by decide) rfl (fun ls hl => ?_)
    exact c_M_begin_L58 l σ s0 i0 hi0 hl0 hl1 hs h0 h1 hv0 hv1 hmr X hA hr hlocks hml 161 0 (sa (sa (si (sa σ 10 ((σ.1 11) - 1).toNatClampNeg i0) 11 ((σ.1 11) - 1)) 9 ((σ.1 11) - 1).toNatClampNeg ((σ.2.2.2 2 s0.toNatClampNeg).toInt32)) 10 ((σ.1 11) - 1).toNatClampNeg 0) (by simp only [F_begin, eq_false c_17, ↓reduceIte, si_self, sm_self, si_snd, sm_fst, si20_16, not_false_eq_true, not_true_eq_false, eq_self] <;> rfl) (show 0 ≤ ((σ.1 11) - 1).toInt from by rw [i_subE rfl (show (1 : Int32).toInt = 1 from rfl) (by omega) (by omega)]; omega) (show ((σ.1 11) - 1).toInt < 12 from by rw [i_subE rfl (show (1 : Int32).toInt = 1 from rfl) (by omega) (by omega)]; omega) (by decide) (show (upd _ ((σ.1 11) - 1).toNatClampNeg ((σ.2.2.2 2 s0.toNatClampNeg).toInt32) ((σ.1 11) - 1).toNatClampNeg).toInt ≤ 160 from by rw [pk_us, hvi]; exact hv1) (show ((upd _ ((σ.1 11) - 1).toNatClampNeg ((σ.2.2.2 2 s0.toNatClampNeg).toInt32) ((σ.1 11) - 1).toNatClampNeg).toInt - (0 : Int32).toInt).toNat < 161 from by rw [pk_us, hvi]; have : (0 : Int32).toInt = 0 := rfl; omega) _ _ G ls (lv_sub hl [1, 2, 3, 0] rfl)
