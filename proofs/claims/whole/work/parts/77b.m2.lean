theorem si_eta {σ : MS} {k : Nat} : si σ k (σ.1 k) = σ := by
  obtain ⟨a, b⟩ := σ
  simp only [si, Prod.mk.injEq, and_true]
  funext j; by_cases h : j = k <;> simp [upd, h]
theorem si_si {σ : MS} {k : Nat} {v w : Int32} : si (si σ k v) k w = si σ k w := by
  obtain ⟨a, b⟩ := σ
  simp only [si, Prod.mk.injEq, and_true]
  funext j; by_cases h : j = k <;> simp [upd, h]
theorem have_ok {σ u : MS} {n r : Int32} (h : F_have σ n = (r, u)) (hr : ¬ r = 0) : σ = u ∧ n.toInt ≤ (σ.1 5).toInt := by
  by_cases c : n ≤ σ.1 5
  · simp only [F_have, c, ↓reduceIte, Prod.mk.injEq] at h; exact ⟨h.2, i_le c⟩
  · simp only [F_have, c, ↓reduceIte, Prod.mk.injEq] at h; exact absurd h.1.symm hr
theorem room_ok {σ u : MS} {r : Int32} (h : F_room σ = (r, u)) (hr : ¬ r = 0) : σ = u ∧ (σ.1 5).toInt < 40 := by
  by_cases c : σ.1 5 < 40
  · simp only [F_room, c, ↓reduceIte, Prod.mk.injEq] at h; exact ⟨h.2, i_lt c⟩
  · simp only [F_room, c, ↓reduceIte, Prod.mk.injEq] at h; exact absurd h.1.symm hr
theorem raised_stL {v0 : Int64} {k0 : Int32} : ∀ (fu : Nat) (w j : _) (τ : MS), ∃ f, si τ 16 f = (F_raised_L6 v0 k0 fu w j τ).2 := by
  intro fu
  induction fu with
  | zero => intro w j τ; exact ⟨_, si_eta⟩
  | succ fu ih =>
    intro w j τ
    simp only [F_raised_L6]
    split
    · exact ⟨_, si_eta⟩
    · split
      · split
        · obtain ⟨f, h⟩ := ih w (j + 1) (si τ 16 5); exact ⟨f, by rw [← h, si_si]⟩
        · split
          · exact ih _ _ _
          · obtain ⟨f, h⟩ := ih w (j + 1) (si τ 16 5); exact ⟨f, by rw [← h, si_si]⟩
      · exact ⟨_, si_eta⟩
theorem raised_st {σ u : MS} {v w : Int64} {k : Int32} (h : F_raised σ v k = (w, u)) : ∃ f, si σ 16 f = u := by
  obtain ⟨f, hf⟩ := raised_stL (v0 := v) (k0 := k) (k.toInt.toNat + 1) v 0 σ
  exact ⟨f, by rw [hf]; show (F_raised σ v k).2 = u; rw [h]⟩
theorem l_nz {x : Int64} (h : ¬ x ≤ 0) : ¬ x = 0 := fun e => h (by rw [e]; exact Int64.le_refl _)
theorem l_mul10 {w : Int64} (h1 : ¬ 99999999999999999 < w) (h2 : -99999999999999999 ≤ w) : (w * 10).toInt = w.toInt * 10 := by
  rw [Int64.lt_iff_toInt_lt] at h1
  rw [Int64.le_iff_toInt_le] at h2
  have e1 : (99999999999999999 : Int64).toInt = 99999999999999999 := rfl
  have e2 : (-99999999999999999 : Int64).toInt = -99999999999999999 := rfl
  have e3 : (10 : Int64).toInt = 10 := rfl
  rw [e1] at h1; rw [e2] at h2
  rw [Int64.toInt_mul, e3, Int.bmod_def]
  omega
theorem raised_nzL {v0 : Int64} {k0 : Int32} : ∀ (fu : Nat) (w : Int64) (j : Int32) (τ : MS), fu ≠ 0 → ¬ w = 0 → (k0.toInt - j.toInt).toNat < fu → ¬ (F_raised_L6 v0 k0 fu w j τ).1 = 0 := by
  intro fu
  induction fu with
  | zero => intro w j τ h; exact absurd rfl h
  | succ fu ih =>
    intro w j τ _ hw hm
    simp only [F_raised_L6]
    split
    · exact hw
    · rename_i c1
      have hm2 := mu_inc hm c1
      have hf : fu ≠ 0 := by omega
      split
      · split
        · exact ih _ _ _ hf hw hm2
        · rename_i c3
          split
          · rename_i c4
            refine ih _ _ _ hf (fun e => hw ?_) hm2
            have e1 := l_mul10 c3 c4
            rw [e] at e1
            have e2 : (0 : Int64).toInt = 0 := rfl
            exact Int64.toInt_inj.mp (by rw [e2] at e1 ⊢; omega)
          · exact ih _ _ _ hf hw hm2
      · exact hw
theorem raised_nz {σ u : MS} {v w : Int64} {k : Int32} (h : F_raised σ v k = (w, u)) (hv : ¬ v = 0) : ¬ w = 0 := by
  have h1 := raised_nzL (v0 := v) (k0 := k) (k.toInt.toNat + 1) v 0 σ (Nat.succ_ne_zero _) hv (mu_0 _)
  have h2 : (F_raised_L6 v k (k.toInt.toNat + 1) v 0 σ).1 = w := by show (F_raised σ v k).1 = w; rw [h]
  rw [h2] at h1; exact h1
set_option maxHeartbeats 4000000 in
set_option maxRecDepth 100000 in
theorem c_M_numbers_L12 {p : Program} (l : Launch) {e : Env} {s : State} {m : MethodId} {below : List Frame} {meth : Method} {c : Code} {dC : Nat → ClassId} {dI : Nat → Nat → Nat} {cI cJ : ClassId} {h : Nat} {ad : Nat → Nat} {sz : Nat} (σ : MS) (n0 : Int32) (hn2 : n0.toInt ≤ 2) (hd2 : (σ.1 5).toInt ≤ 40) (X : mX p s m ([.ref h, .int n0] : List Value).toArray c cX5_numbers wsX5_numbers dC dI cI cJ) (hA : ∀ q : Nat, s.heap.size ≤ q → mA h ad cI cJ σ sz q) (hr : meth.sig.returnType = (some .boolean)) (hlocks : meth.locks = false) (hml : c.maxLocals = 3) :
    ∀ (fu : Nat) (k1 : Int32) (τ : MS), F_numbers σ n0 = F_numbers_L12 n0 fu k1 τ → (1 ≤ k1.toInt) → ((n0.toInt - k1.toInt + 1).toNat < fu) → (n0.toInt ≤ (τ.1 5).toInt) → ((τ.1 5).toInt ≤ 40) → ∀ (H : Heap) (locs : List Loc), mH dC dI h ad cI cJ τ (mA h ad cI cJ σ sz) s.heap H locs → ∀ ls : Array Slot, lv_has ls 3 [(0, .ref h), (1, .int n0), (2, .int k1)] → W p l e ({ frames := 2, cells := 0, slots := 0, locals := 42 } : Room) s m ([.ref h, .int n0] : List Value).toArray below meth c H locs 0 0 (MQ below (va_Qi (fun r u => F_numbers σ n0 = (r, u)) (mAt dC dI cI cJ h ad (mA h ad cI cJ σ sz)) (mA h ad cI cJ σ sz)) ([.ref h, .int n0] : List Value).toArray s 0 0 (mA h ad cI cJ σ sz)) (F0 m 12 ls []) := by
  have hx := X.1
  have hb := X.2.1
  have hts := X.2.2.1
  have hown := X.2.2.2.2.1
  intro fu
  induction fu with
  | zero =>
    intro k1 τ hI hk hm hd hd3
    exact absurd hm (Nat.not_lt_zero _)
  | succ fu ih =>
    intro k1 τ hI hk hm hd hd3 H locs G ls hl
    refine lv_iload_n hx hb dX5_numbers_12 rfl (lv_at hl 2 rfl) ?_
    refine lv_iload_n hx hb dX5_numbers_13 rfl (lv_at hl 1 rfl) ?_
    refine lv_icmp_gt (tgt := 43) hx hb dX5_numbers_14 (by decide) (fun c_14 => ?_) (fun c_14 => ?_)
    · have c_14 : n0 < k1 := c_14
      refine lv_iconst (v := 1) hx hb dX5_numbers_43 (by decide) ?_
      exact m_zret X G hr hlocks rfl (by rw [hI]; simp only [F_numbers_L12, eq_true c_14, ↓reduceIte, si_self, sm_self, si_snd, sm_fst, si20_16, not_false_eq_true, not_true_eq_false, eq_self] <;> rfl) dX5_numbers_44
    · have c_14 : ¬ (n0 < k1) := c_14
      have h14 := i_nlt c_14
      refine lv_aload_n hx hb dX5_numbers_17 rfl (lv_at hl 0 rfl) ?_
      refine m_get_3 X G (by decide +kernel) dX5_numbers_18 ?_
      refine lv_aload_n hx hb dX5_numbers_21 rfl (lv_at hl 0 rfl) ?_
      refine m_get_5 X G (by decide +kernel) dX5_numbers_22 ?_
      refine lv_iload_n hx hb dX5_numbers_25 rfl (lv_at hl 2 rfl) ?_
      refine lv_isub hx hb dX5_numbers_26 ?_
      refine m_ld_3 X G (vin (i_subE (rfl : (τ.1 5).toInt = _) (rfl : k1.toInt = _) (by omega) (by omega)) (by omega) (by omega)) dX5_numbers_27 ?_
      refine lv_if_ge (tgt := 37) hx hb dX5_numbers_28 (by decide) (fun c_28 => ?_) (fun c_28 => ?_)
      · have c_28 : 0 ≤ (τ.2.2.1 3 ((τ.1 5) - k1).toNatClampNeg) := c_28
        have hk2 : (k1 + 1).toInt = k1.toInt + 1 := i_addE rfl rfl (by omega) (by omega)
        refine lv_iinc (v := (k1 + 1)) (lv' := [(2, .int (k1 + 1)), (0, .ref h), (1, .int n0)]) hx hb dX5_numbers_37 hl (k := 2) rfl rfl (by decide) rfl (fun ls hl => ?_)
        refine lv_goto (tgt := 12) hx hb dX5_numbers_40 (by decide) ?_
        exact ih (k1 + 1) τ (by rw [hI]; simp only [F_numbers_L12, eq_false c_14, eq_true c_28, ↓reduceIte, si_self, sm_self, si_snd, sm_fst, si20_16, not_false_eq_true, not_true_eq_false, eq_self] <;> rfl) (by omega) (by omega) hd hd3 H locs G ls (lv_sub hl [1, 2, 0] rfl)
      · have c_28 : ¬ (0 ≤ (τ.2.2.1 3 ((τ.1 5) - k1).toNatClampNeg)) := c_28
        refine lv_aload_n hx hb dX5_numbers_31 rfl (lv_at hl 0 rfl) ?_
        refine lv_iconst (v := 3) hx hb dX5_numbers_32 (by decide) ?_
        refine m_calli (As := [.int 3]) (rest := []) X hml G hA (c_M_fail l dC dI cI cJ h ad _ τ 3) (cwV 1 hts gX5_numbers_X5_fail rfl rfl rfl (by decide +kernel) ⟨Nat.le_of_ble_eq_true rfl, Nat.le_of_ble_eq_true rfl⟩) rfl hl.1 rfl (Nat.le_of_ble_eq_true rfl) dX5_numbers_33 ⟨Nat.zero_le _, Nat.zero_le _⟩ (fun r_33 u_33 H locs hw_33 G => ?_)
        obtain ⟨rfl, rfl⟩ := hw_33
        exact m_zret X G hr hlocks rfl (by rw [hI]; simp only [F_numbers_L12, eq_false c_14, eq_false c_28, ↓reduceIte, si_self, sm_self, si_snd, sm_fst, si20_16, not_false_eq_true, not_true_eq_false, eq_self] <;> rfl) dX5_numbers_36
set_option maxHeartbeats 4000000 in
set_option maxRecDepth 100000 in
theorem c_M_numbers (l : Launch) (dC : Nat → ClassId) (dI : Nat → Nat → Nat) (cI cJ : ClassId) (h : Nat) (ad : Nat → Nat) (sz : Nat) (σ : MS) (n0 : Int32) (hn2 : n0.toInt ≤ 2) (hd2 : (σ.1 5).toInt ≤ 40) : Met l yX5_numbers wsX5_numbers ({ frames := 2, cells := 0, slots := 0, locals := 42 } : Room) (va_Pc [.ref h, .int n0] (mPre dC dI cI cJ h ad sz σ)) (va_Qi (fun r u => F_numbers σ n0 = (r, u)) (mAt dC dI cI cJ h ad (mA h ad cI cJ σ sz)) (mA h ad cI cJ σ sz)) 0 0 (mA h ad cI cJ σ sz) := by
  refine m_ofW (cc := cX5_numbers) (maxL := 3) (ret := (some .boolean)) (by decide) rfl (by decide +kernel) rfl (Nat.le_of_ble_eq_true rfl) ?_
  intro p e s m below meth c X G hA hr hlocks hml ls hl
  have hl : lv_has ls 3 [(0, .ref h), (1, .int n0)] := hl
  have hx := X.1
  have hb := X.2.1
  have hts := X.2.2.1
  have hown := X.2.2.2.2.1
  refine lv_aload_n hx hb dX5_numbers_0 rfl (lv_at hl 0 rfl) ?_
  refine lv_iload_n hx hb dX5_numbers_1 rfl (lv_at hl 1 rfl) ?_
  refine m_calli (As := [.int n0]) (rest := []) X hml G hA (c_M_have l dC dI cI cJ h ad _ σ n0) (cwV 1 hts gX5_numbers_X5_have rfl rfl rfl (by decide +kernel) ⟨Nat.le_of_ble_eq_true rfl, Nat.le_of_ble_eq_true rfl⟩) rfl hl.1 rfl (Nat.le_of_ble_eq_true rfl) dX5_numbers_2 ⟨Nat.zero_le _, Nat.zero_le _⟩ (fun r_2 u_2 H locs hw_2 G => ?_)
  refine lv_if_ne (tgt := 10) hx hb dX5_numbers_5 (by decide) (fun c_5 => ?_) (fun c_5 => ?_)
  · have c_5 : ¬ (r_2 = 0) := c_5
    obtain ⟨rfl, hn⟩ := have_ok hw_2 c_5
    refine lv_iconst (v := 1) hx hb dX5_numbers_10 (by decide) ?_
    refine lv_istore_n (lv' := [(2, .int 1), (0, .ref h), (1, .int n0)]) hx hb dX5_numbers_11 rfl hl (by decide) rfl (fun ls hl => ?_)
    exact c_M_numbers_L12 l σ n0 hn2 hd2 X hA hr hlocks hml 3 1 σ (by simp only [F_numbers, hw_2, eq_false c_5, ↓reduceIte, si_self, sm_self, si_snd, sm_fst, si20_16, not_false_eq_true, not_true_eq_false, eq_self] <;> rfl) (by decide) (by have : (1 : Int32).toInt = 1 := rfl; omega) hn hd2 _ _ G ls (lv_sub hl [1, 2, 0] rfl)
  · have c_5 : r_2 = 0 := c_5
    refine lv_iconst (v := 0) hx hb dX5_numbers_8 (by decide) ?_
    exact m_zret X G hr hlocks rfl (by simp only [F_numbers, hw_2, eq_true c_5, ↓reduceIte, si_self, sm_self, si_snd, sm_fst, si20_16, not_false_eq_true, not_true_eq_false, eq_self] <;> rfl) dX5_numbers_9
theorem numbers_okL {n0 : Int32} : ∀ (fu : Nat) (k : Int32) (τ : MS), ¬ (F_numbers_L12 n0 fu k τ).1 = 0 → τ = (F_numbers_L12 n0 fu k τ).2 := by
  intro fu
  induction fu with
  | zero => intro k τ h; rfl
  | succ fu ih =>
    intro k τ
    simp only [F_numbers_L12]
    split
    · intro _; rfl
    · split
      · exact ih _ _
      · intro h; exact absurd rfl h
theorem numbers_ok {σ u : MS} {n r : Int32} (h : F_numbers σ n = (r, u)) (hr : ¬ r = 0) : σ = u ∧ n.toInt ≤ (σ.1 5).toInt := by
  obtain ⟨a, b, hq⟩ : ∃ a b, F_have σ n = (a, b) := ⟨_, _, rfl⟩
  by_cases c : a = 0
  · simp only [F_numbers, hq, c, ↓reduceIte, Prod.mk.injEq] at h
    exact absurd h.1.symm hr
  · obtain ⟨rfl, hn⟩ := have_ok hq c
    simp only [F_numbers, hq, c, ↓reduceIte] at h
    refine ⟨?_, hn⟩
    have h1 := numbers_okL (n0 := n) 3 1 σ (by rw [h]; exact hr)
    rw [h] at h1; exact h1
set_option maxHeartbeats 4000000 in
set_option maxRecDepth 100000 in
theorem c_M_product (l : Launch) (dC : Nat → ClassId) (dI : Nat → Nat → Nat) (cI cJ : ClassId) (h : Nat) (ad : Nat → Nat) (sz : Nat) (σ : MS) (v0 : Int64) (w0 : Int64) : Met l yX5_product wsX5_product ({ frames := 0, cells := 0, slots := 0, locals := 0 } : Room) (va_Pc [.ref h, .long v0, .long w0] (mPre dC dI cI cJ h ad sz σ)) (va_Ql (fun r u => F_product σ v0 w0 = (r, u)) (mAt dC dI cI cJ h ad (mA h ad cI cJ σ sz)) (mA h ad cI cJ σ sz)) 0 0 (mA h ad cI cJ σ sz) := by
  refine m_ofW (cc := cX5_product) (maxL := 9) (ret := (some .long)) (by decide) rfl (by decide +kernel) rfl (Nat.le_of_ble_eq_true rfl) ?_
  intro p e s m below meth c X G hA hr hlocks hml ls hl
  have hl : lv_has ls 9 [(0, .ref h), (1, .long v0), (3, .long w0)] := hl
  have hx := X.1
  have hb := X.2.1
  have hts := X.2.2.1
  have hown := X.2.2.2.2.1
  refine lv_lload_n hx hb dX5_product_0 rfl (lv_at hl 1 rfl) ?_
  refine lv_lconst (v := 0) hx hb dX5_product_1 (by decide) ?_
  refine W.lcmp hx hb dX5_product_2 ?_
  refine lv_if_ge (tgt := 11) hx hb dX5_product_3 (by decide) (fun c_3 => ?_) (fun c_3 => ?_)
  · have c_3 := ((l_cmp_ge _ _).mp c_3)
    have c_3 : 0 ≤ v0 := c_3
    refine lv_lload_n hx hb dX5_product_11 rfl (lv_at hl 1 rfl) ?_
    refine lv_lstore (lv' := [(5, .long v0), (0, .ref h), (1, .long v0), (3, .long w0)]) hx hb dX5_product_12 hl (by decide) rfl (fun ls hl => ?_)
    refine lv_lload_n hx hb dX5_product_14 rfl (lv_at hl 3 rfl) ?_
    refine lv_lconst (v := 0) hx hb dX5_product_15 (by decide) ?_
    refine W.lcmp hx hb dX5_product_16 ?_
    refine lv_if_ge (tgt := 25) hx hb dX5_product_17 (by decide) (fun c_17 => ?_) (fun c_17 => ?_)
    · have c_17 := ((l_cmp_ge _ _).mp c_17)
      have c_17 : 0 ≤ w0 := c_17
      refine lv_lload_n hx hb dX5_product_25 rfl (lv_at hl 3 rfl) ?_
      refine lv_lstore (lv' := [(7, .long w0), (5, .long v0), (0, .ref h), (1, .long v0), (3, .long w0)]) hx hb dX5_product_26 hl (by decide) rfl (fun ls hl => ?_)
      refine lv_lload hx hb dX5_product_28 (lv_at hl 1 rfl) ?_
      refine lv_lconst (v := 0) hx hb dX5_product_30 (by decide) ?_
      refine W.lcmp hx hb dX5_product_31 ?_
      refine lv_if_le (tgt := 54) hx hb dX5_product_32 (by decide) (fun c_32 => ?_) (fun c_32 => ?_)
      · have c_32 := ((l_cmp_le _ _).mp c_32)
        have c_32 : v0 ≤ 0 := c_32
        refine lv_lload_n hx hb dX5_product_54 rfl (lv_at hl 3 rfl) ?_
        refine lv_lload_n hx hb dX5_product_55 rfl (lv_at hl 4 rfl) ?_
        refine lv_lmul hx hb dX5_product_56 ?_
        exact m_lret X G hr hlocks (by simp only [F_product, eq_true c_3, eq_true c_17, eq_true c_32, ↓reduceIte, si_self, sm_self, si_snd, sm_fst, si20_16, not_false_eq_true, not_true_eq_false, eq_self] <;> rfl) dX5_product_57
      · have c_32 := (mt (l_cmp_le _ _).mpr c_32)
        have c_32 : ¬ (v0 ≤ 0) := c_32
        refine lv_lload hx hb dX5_product_35 (lv_at hl 0 rfl) ?_
        refine lv_ldc2 (v := 999999999999999999) hx hb hown (hts (.constantLong RX5 61 (999999999999999999)) (by decide +kernel)) dX5_product_37 ?_
        refine lv_lload hx hb dX5_product_40 (lv_at hl 1 rfl) ?_
        refine lv_ldiv hx hb dX5_product_42 (l_nz c_32) ?_
        refine W.lcmp hx hb dX5_product_43 ?_
        refine lv_if_le (tgt := 54) hx hb dX5_product_44 (by decide) (fun c_44 => ?_) (fun c_44 => ?_)
        · have c_44 := ((l_cmp_le _ _).mp c_44)
          have c_44 : w0 ≤ (999999999999999999 / v0) := c_44
          refine lv_lload_n hx hb dX5_product_54 rfl (lv_at hl 3 rfl) ?_
          refine lv_lload_n hx hb dX5_product_55 rfl (lv_at hl 4 rfl) ?_
          refine lv_lmul hx hb dX5_product_56 ?_
          exact m_lret X G hr hlocks (by simp only [F_product, eq_true c_3, eq_true c_17, eq_false c_32, eq_true c_44, ↓reduceIte, si_self, sm_self, si_snd, sm_fst, si20_16, not_false_eq_true, not_true_eq_false, eq_self] <;> rfl) dX5_product_57
        · have c_44 := (mt (l_cmp_le _ _).mpr c_44)
          have c_44 : ¬ (w0 ≤ (999999999999999999 / v0)) := c_44
          refine lv_aload_n hx hb dX5_product_47 rfl (lv_at hl 2 rfl) ?_
          refine lv_iconst (v := 5) hx hb dX5_product_48 (by decide) ?_
          refine m_put_16 X G (by decide +kernel) dX5_product_49 (fun H locs G => ?_)
          refine lv_lconst (v := 0) hx hb dX5_product_52 (by decide) ?_
          exact m_lret X G hr hlocks (by simp only [F_product, eq_true c_3, eq_true c_17, eq_false c_32, eq_false c_44, ↓reduceIte, si_self, sm_self, si_snd, sm_fst, si20_16, not_false_eq_true, not_true_eq_false, eq_self] <;> rfl) dX5_product_53
    · have c_17 := (mt (l_cmp_ge _ _).mpr c_17)
      have c_17 : ¬ (0 ≤ w0) := c_17
      refine lv_lload_n hx hb dX5_product_20 rfl (lv_at hl 3 rfl) ?_
      refine lv_lneg hx hb dX5_product_21 ?_
      refine lv_goto (tgt := 26) hx hb dX5_product_22 (by decide) ?_
      refine lv_lstore (lv' := [(7, .long (-w0)), (5, .long v0), (0, .ref h), (1, .long v0), (3, .long w0)]) hx hb dX5_product_26 hl (by decide) rfl (fun ls hl => ?_)
      refine lv_lload hx hb dX5_product_28 (lv_at hl 1 rfl) ?_
      refine lv_lconst (v := 0) hx hb dX5_product_30 (by decide) ?_
      refine W.lcmp hx hb dX5_product_31 ?_
      refine lv_if_le (tgt := 54) hx hb dX5_product_32 (by decide) (fun c_32 => ?_) (fun c_32 => ?_)
      · have c_32 := ((l_cmp_le _ _).mp c_32)
        have c_32 : v0 ≤ 0 := c_32
        refine lv_lload_n hx hb dX5_product_54 rfl (lv_at hl 3 rfl) ?_
        refine lv_lload_n hx hb dX5_product_55 rfl (lv_at hl 4 rfl) ?_
        refine lv_lmul hx hb dX5_product_56 ?_
        exact m_lret X G hr hlocks (by simp only [F_product, eq_true c_3, eq_false c_17, eq_true c_32, ↓reduceIte, si_self, sm_self, si_snd, sm_fst, si20_16, not_false_eq_true, not_true_eq_false, eq_self] <;> rfl) dX5_product_57
      · have c_32 := (mt (l_cmp_le _ _).mpr c_32)
        have c_32 : ¬ (v0 ≤ 0) := c_32
        refine lv_lload hx hb dX5_product_35 (lv_at hl 0 rfl) ?_
        refine lv_ldc2 (v := 999999999999999999) hx hb hown (hts (.constantLong RX5 61 (999999999999999999)) (by decide +kernel)) dX5_product_37 ?_
        refine lv_lload hx hb dX5_product_40 (lv_at hl 1 rfl) ?_
        refine lv_ldiv hx hb dX5_product_42 (l_nz c_32) ?_
        refine W.lcmp hx hb dX5_product_43 ?_
        refine lv_if_le (tgt := 54) hx hb dX5_product_44 (by decide) (fun c_44 => ?_) (fun c_44 => ?_)
        · have c_44 := ((l_cmp_le _ _).mp c_44)
          have c_44 : (-w0) ≤ (999999999999999999 / v0) := c_44
          refine lv_lload_n hx hb dX5_product_54 rfl (lv_at hl 3 rfl) ?_
          refine lv_lload_n hx hb dX5_product_55 rfl (lv_at hl 4 rfl) ?_
          refine lv_lmul hx hb dX5_product_56 ?_
          exact m_lret X G hr hlocks (by simp only [F_product, eq_true c_3, eq_false c_17, eq_false c_32, eq_true c_44, ↓reduceIte, si_self, sm_self, si_snd, sm_fst, si20_16, not_false_eq_true, not_true_eq_false, eq_self] <;> rfl) dX5_product_57
        · have c_44 := (mt (l_cmp_le _ _).mpr c_44)
          have c_44 : ¬ ((-w0) ≤ (999999999999999999 / v0)) := c_44
          refine lv_aload_n hx hb dX5_product_47 rfl (lv_at hl 2 rfl) ?_
          refine lv_iconst (v := 5) hx hb dX5_product_48 (by decide) ?_
          refine m_put_16 X G (by decide +kernel) dX5_product_49 (fun H locs G => ?_)
          refine lv_lconst (v := 0) hx hb dX5_product_52 (by decide) ?_
          exact m_lret X G hr hlocks (by simp only [F_product, eq_true c_3, eq_false c_17, eq_false c_32, eq_false c_44, ↓reduceIte, si_self, sm_self, si_snd, sm_fst, si20_16, not_false_eq_true, not_true_eq_false, eq_self] <;> rfl) dX5_product_53
  · have c_3 := (mt (l_cmp_ge _ _).mpr c_3)
    have c_3 : ¬ (0 ≤ v0) := c_3
    refine lv_lload_n hx hb dX5_product_6 rfl (lv_at hl 1 rfl) ?_
    refine lv_lneg hx hb dX5_product_7 ?_
    refine lv_goto (tgt := 12) hx hb dX5_product_8 (by decide) ?_
    refine lv_lstore (lv' := [(5, .long (-v0)), (0, .ref h), (1, .long v0), (3, .long w0)]) hx hb dX5_product_12 hl (by decide) rfl (fun ls hl => ?_)
    refine lv_lload_n hx hb dX5_product_14 rfl (lv_at hl 3 rfl) ?_
    refine lv_lconst (v := 0) hx hb dX5_product_15 (by decide) ?_
    refine W.lcmp hx hb dX5_product_16 ?_
    refine lv_if_ge (tgt := 25) hx hb dX5_product_17 (by decide) (fun c_17 => ?_) (fun c_17 => ?_)
    · have c_17 := ((l_cmp_ge _ _).mp c_17)
      have c_17 : 0 ≤ w0 := c_17
      refine lv_lload_n hx hb dX5_product_25 rfl (lv_at hl 3 rfl) ?_
      refine lv_lstore (lv' := [(7, .long w0), (5, .long (-v0)), (0, .ref h), (1, .long v0), (3, .long w0)]) hx hb dX5_product_26 hl (by decide) rfl (fun ls hl => ?_)
      refine lv_lload hx hb dX5_product_28 (lv_at hl 1 rfl) ?_
      refine lv_lconst (v := 0) hx hb dX5_product_30 (by decide) ?_
      refine W.lcmp hx hb dX5_product_31 ?_
      refine lv_if_le (tgt := 54) hx hb dX5_product_32 (by decide) (fun c_32 => ?_) (fun c_32 => ?_)
      · have c_32 := ((l_cmp_le _ _).mp c_32)
        have c_32 : (-v0) ≤ 0 := c_32
        refine lv_lload_n hx hb dX5_product_54 rfl (lv_at hl 3 rfl) ?_
        refine lv_lload_n hx hb dX5_product_55 rfl (lv_at hl 4 rfl) ?_
        refine lv_lmul hx hb dX5_product_56 ?_
        exact m_lret X G hr hlocks (by simp only [F_product, eq_false c_3, eq_true c_17, eq_true c_32, ↓reduceIte, si_self, sm_self, si_snd, sm_fst, si20_16, not_false_eq_true, not_true_eq_false, eq_self] <;> rfl) dX5_product_57
      · have c_32 := (mt (l_cmp_le _ _).mpr c_32)
        have c_32 : ¬ ((-v0) ≤ 0) := c_32
        refine lv_lload hx hb dX5_product_35 (lv_at hl 0 rfl) ?_
        refine lv_ldc2 (v := 999999999999999999) hx hb hown (hts (.constantLong RX5 61 (999999999999999999)) (by decide +kernel)) dX5_product_37 ?_
        refine lv_lload hx hb dX5_product_40 (lv_at hl 1 rfl) ?_
        refine lv_ldiv hx hb dX5_product_42 (l_nz c_32) ?_
        refine W.lcmp hx hb dX5_product_43 ?_
        refine lv_if_le (tgt := 54) hx hb dX5_product_44 (by decide) (fun c_44 => ?_) (fun c_44 => ?_)
        · have c_44 := ((l_cmp_le _ _).mp c_44)
          have c_44 : w0 ≤ (999999999999999999 / (-v0)) := c_44
          refine lv_lload_n hx hb dX5_product_54 rfl (lv_at hl 3 rfl) ?_
          refine lv_lload_n hx hb dX5_product_55 rfl (lv_at hl 4 rfl) ?_
          refine lv_lmul hx hb dX5_product_56 ?_
          exact m_lret X G hr hlocks (by simp only [F_product, eq_false c_3, eq_true c_17, eq_false c_32, eq_true c_44, ↓reduceIte, si_self, sm_self, si_snd, sm_fst, si20_16, not_false_eq_true, not_true_eq_false, eq_self] <;> rfl) dX5_product_57
        · have c_44 := (mt (l_cmp_le _ _).mpr c_44)
          have c_44 : ¬ (w0 ≤ (999999999999999999 / (-v0))) := c_44
          refine lv_aload_n hx hb dX5_product_47 rfl (lv_at hl 2 rfl) ?_
          refine lv_iconst (v := 5) hx hb dX5_product_48 (by decide) ?_
          refine m_put_16 X G (by decide +kernel) dX5_product_49 (fun H locs G => ?_)
          refine lv_lconst (v := 0) hx hb dX5_product_52 (by decide) ?_
          exact m_lret X G hr hlocks (by simp only [F_product, eq_false c_3, eq_true c_17, eq_false c_32, eq_false c_44, ↓reduceIte, si_self, sm_self, si_snd, sm_fst, si20_16, not_false_eq_true, not_true_eq_false, eq_self] <;> rfl) dX5_product_53
    · have c_17 := (mt (l_cmp_ge _ _).mpr c_17)
      have c_17 : ¬ (0 ≤ w0) := c_17
      refine lv_lload_n hx hb dX5_product_20 rfl (lv_at hl 3 rfl) ?_
      refine lv_lneg hx hb dX5_product_21 ?_
      refine lv_goto (tgt := 26) hx hb dX5_product_22 (by decide) ?_
      refine lv_lstore (lv' := [(7, .long (-w0)), (5, .long (-v0)), (0, .ref h), (1, .long v0), (3, .long w0)]) hx hb dX5_product_26 hl (by decide) rfl (fun ls hl => ?_)
      refine lv_lload hx hb dX5_product_28 (lv_at hl 1 rfl) ?_
      refine lv_lconst (v := 0) hx hb dX5_product_30 (by decide) ?_
      refine W.lcmp hx hb dX5_product_31 ?_
      refine lv_if_le (tgt := 54) hx hb dX5_product_32 (by decide) (fun c_32 => ?_) (fun c_32 => ?_)
      · have c_32 := ((l_cmp_le _ _).mp c_32)
        have c_32 : (-v0) ≤ 0 := c_32
        refine lv_lload_n hx hb dX5_product_54 rfl (lv_at hl 3 rfl) ?_
        refine lv_lload_n hx hb dX5_product_55 rfl (lv_at hl 4 rfl) ?_
        refine lv_lmul hx hb dX5_product_56 ?_
        exact m_lret X G hr hlocks (by simp only [F_product, eq_false c_3, eq_false c_17, eq_true c_32, ↓reduceIte, si_self, sm_self, si_snd, sm_fst, si20_16, not_false_eq_true, not_true_eq_false, eq_self] <;> rfl) dX5_product_57
      · have c_32 := (mt (l_cmp_le _ _).mpr c_32)
        have c_32 : ¬ ((-v0) ≤ 0) := c_32
        refine lv_lload hx hb dX5_product_35 (lv_at hl 0 rfl) ?_
        refine lv_ldc2 (v := 999999999999999999) hx hb hown (hts (.constantLong RX5 61 (999999999999999999)) (by decide +kernel)) dX5_product_37 ?_
        refine lv_lload hx hb dX5_product_40 (lv_at hl 1 rfl) ?_
        refine lv_ldiv hx hb dX5_product_42 (l_nz c_32) ?_
        refine W.lcmp hx hb dX5_product_43 ?_
        refine lv_if_le (tgt := 54) hx hb dX5_product_44 (by decide) (fun c_44 => ?_) (fun c_44 => ?_)
        · have c_44 := ((l_cmp_le _ _).mp c_44)
          have c_44 : (-w0) ≤ (999999999999999999 / (-v0)) := c_44
          refine lv_lload_n hx hb dX5_product_54 rfl (lv_at hl 3 rfl) ?_
          refine lv_lload_n hx hb dX5_product_55 rfl (lv_at hl 4 rfl) ?_
          refine lv_lmul hx hb dX5_product_56 ?_
          exact m_lret X G hr hlocks (by simp only [F_product, eq_false c_3, eq_false c_17, eq_false c_32, eq_true c_44, ↓reduceIte, si_self, sm_self, si_snd, sm_fst, si20_16, not_false_eq_true, not_true_eq_false, eq_self] <;> rfl) dX5_product_57
        · have c_44 := (mt (l_cmp_le _ _).mpr c_44)
          have c_44 : ¬ ((-w0) ≤ (999999999999999999 / (-v0))) := c_44
          refine lv_aload_n hx hb dX5_product_47 rfl (lv_at hl 2 rfl) ?_
          refine lv_iconst (v := 5) hx hb dX5_product_48 (by decide) ?_
          refine m_put_16 X G (by decide +kernel) dX5_product_49 (fun H locs G => ?_)
          refine lv_lconst (v := 0) hx hb dX5_product_52 (by decide) ?_
          exact m_lret X G hr hlocks (by simp only [F_product, eq_false c_3, eq_false c_17, eq_false c_32, eq_false c_44, ↓reduceIte, si_self, sm_self, si_snd, sm_fst, si20_16, not_false_eq_true, not_true_eq_false, eq_self] <;> rfl) dX5_product_53
theorem product_st {σ u : MS} {v w r : Int64} (h : F_product σ v w = (r, u)) : ∃ f, si σ 16 f = u := by
  have h2 : (F_product σ v w).2 = u := by rw [h]
  rw [← h2]
  unfold F_product
  repeat' split
  all_goals first | exact ⟨_, rfl⟩ | exact ⟨_, si_eta⟩
set_option maxHeartbeats 4000000 in
set_option maxRecDepth 100000 in
theorem c_M_sum (l : Launch) (dC : Nat → ClassId) (dI : Nat → Nat → Nat) (cI cJ : ClassId) (h : Nat) (ad : Nat → Nat) (sz : Nat) (σ : MS) (b0 : Int32) (hd : (σ.1 5).toInt ≤ 40) : Met l yX5_sum wsX5_sum ({ frames := 3, cells := 0, slots := 0, locals := 64 } : Room) (va_Pc [.ref h, .int b0] (mPre dC dI cI cJ h ad sz σ)) (va_Qi (fun r u => F_sum σ b0 = (r, u)) (mAt dC dI cI cJ h ad (mA h ad cI cJ σ sz)) (mA h ad cI cJ σ sz)) 0 0 (mA h ad cI cJ σ sz) := by
  refine m_ofW (cc := cX5_sum) (maxL := 6) (ret := (some .boolean)) (by decide) rfl (by decide +kernel) rfl (Nat.le_of_ble_eq_true rfl) ?_
  intro p e s m below meth c X G hA hr hlocks hml ls hl
  have hl : lv_has ls 6 [(0, .ref h), (1, .int b0)] := hl
  have hx := X.1
  have hb := X.2.1
  have hts := X.2.2.1
  have hown := X.2.2.2.2.1
  refine lv_aload_n hx hb dX5_sum_0 rfl (lv_at hl 0 rfl) ?_
  refine lv_iconst (v := 2) hx hb dX5_sum_1 (by decide) ?_
  refine m_calli (As := [.int 2]) (rest := []) X hml G hA (c_M_numbers l dC dI cI cJ h ad _ σ 2 (by decide) hd) (cwV 1 hts gX5_sum_X5_numbers rfl rfl rfl (by decide +kernel) ⟨Nat.le_of_ble_eq_true rfl, Nat.le_of_ble_eq_true rfl⟩) rfl hl.1 rfl (Nat.le_of_ble_eq_true rfl) dX5_sum_2 ⟨Nat.zero_le _, Nat.zero_le _⟩ (fun r_2 u_2 H locs hw_2 G => ?_)
  refine lv_if_ne (tgt := 10) hx hb dX5_sum_5 (by decide) (fun c_5 => ?_) (fun c_5 => ?_)
  · have c_5 : ¬ (r_2 = 0) := c_5
    obtain ⟨rfl, hn⟩ := numbers_ok hw_2 c_5
    have hn : 2 ≤ (σ.1 5).toInt := hn
    refine lv_aload_n hx hb dX5_sum_10 rfl (lv_at hl 0 rfl) ?_
    refine lv_aload_n hx hb dX5_sum_11 rfl (lv_at hl 0 rfl) ?_
    refine m_get_3 X G (by decide +kernel) dX5_sum_12 ?_
    refine lv_aload_n hx hb dX5_sum_15 rfl (lv_at hl 0 rfl) ?_
    refine m_get_5 X G (by decide +kernel) dX5_sum_16 ?_
    refine lv_iconst (v := 1) hx hb dX5_sum_19 (by decide) ?_
    refine lv_isub hx hb dX5_sum_20 ?_
    refine m_ld_3 X G (vin (i_subE (rfl : (σ.1 5).toInt = _) (show (1 : Int32).toInt = 1 from rfl) (by omega) (by omega)) (by omega) (by omega)) dX5_sum_21 ?_
    refine lv_aload_n hx hb dX5_sum_22 rfl (lv_at hl 0 rfl) ?_
    refine m_get_3 X G (by decide +kernel) dX5_sum_23 ?_
    refine lv_aload_n hx hb dX5_sum_26 rfl (lv_at hl 0 rfl) ?_
    refine m_get_5 X G (by decide +kernel) dX5_sum_27 ?_
    refine lv_iconst (v := 2) hx hb dX5_sum_30 (by decide) ?_
    refine lv_isub hx hb dX5_sum_31 ?_
    refine m_ld_3 X G (vin (i_subE (rfl : (σ.1 5).toInt = _) (show (2 : Int32).toInt = 2 from rfl) (by omega) (by omega)) (by omega) (by omega)) dX5_sum_32 ?_
    refine W.callR (W.runS (As := [.int (σ.2.2.1 3 ((σ.1 5) - 1).toNatClampNeg), .int (σ.2.2.1 3 ((σ.1 5) - 2).toNatClampNeg)]) (rest := [.ref h]) ⟨hx, hb, hml, hown, hts⟩ (c_M_greater l (σ.2.2.1 3 ((σ.1 5) - 1).toNatClampNeg) (σ.2.2.1 3 ((σ.1 5) - 2).toNatClampNeg)) (va_cwS 2 hts gX5_sum_X5_greater rfl rfl rfl (by decide +kernel) ⟨Nat.le_of_ble_eq_true rfl, Nat.le_of_ble_eq_true rfl⟩) ⟨fun a U g mk q => q, fun U _ _ => ⟨rfl, trivial⟩⟩ rfl rfl hl.1 rfl (lv_room (Nat.le_of_ble_eq_true rfl)) dX5_sum_33 ⟨Nat.zero_le _, Nat.zero_le _⟩) ?_
    refine W.eq (g2 := F0 m 36 ls [.int (f_greater (σ.2.2.1 3 ((σ.1 5) - 1).toNatClampNeg) (σ.2.2.1 3 ((σ.1 5) - 2).toNatClampNeg)), .ref h]) rfl ?_
    refine m_put_20 X G (by decide +kernel) dX5_sum_36 (fun H locs G => ?_)
    refine lv_aload_n hx hb dX5_sum_39 rfl (lv_at hl 0 rfl) ?_
    refine lv_aload_n hx hb dX5_sum_40 rfl (lv_at hl 0 rfl) ?_
    refine m_get_2 X G (by decide +kernel) dX5_sum_41 ?_
    refine lv_aload_n hx hb dX5_sum_44 rfl (lv_at hl 0 rfl) ?_
    refine m_get_5 X G (by decide +kernel) dX5_sum_45 ?_
    refine lv_iconst (v := 2) hx hb dX5_sum_48 (by decide) ?_
    refine lv_isub hx hb dX5_sum_49 ?_
    refine m_ld_2 X G (vin (i_subE (rfl : (σ.1 5).toInt = _) (show (2 : Int32).toInt = 2 from rfl) (by omega) (by omega)) (by omega) (by omega)) dX5_sum_50 ?_
    refine lv_aload_n hx hb dX5_sum_51 rfl (lv_at hl 0 rfl) ?_
    refine m_get_20 X G (by decide +kernel) dX5_sum_52 ?_
    refine lv_aload_n hx hb dX5_sum_55 rfl (lv_at hl 0 rfl) ?_
    refine m_get_3 X G (by decide +kernel) dX5_sum_56 ?_
    refine lv_aload_n hx hb dX5_sum_59 rfl (lv_at hl 0 rfl) ?_
    refine m_get_5 X G (by decide +kernel) dX5_sum_60 ?_
    refine lv_iconst (v := 2) hx hb dX5_sum_63 (by decide) ?_
    refine lv_isub hx hb dX5_sum_64 ?_
    refine m_ld_3 X G (vin (i_subE (rfl : (σ.1 5).toInt = _) (show (2 : Int32).toInt = 2 from rfl) (by omega) (by omega)) (by omega) (by omega)) dX5_sum_65 ?_
    refine lv_isub hx hb dX5_sum_66 ?_
    refine m_calll (As := [.long (σ.2.2.2 2 ((σ.1 5) - 2).toNatClampNeg), .int ((f_greater (σ.2.2.1 3 ((σ.1 5) - 1).toNatClampNeg) (σ.2.2.1 3 ((σ.1 5) - 2).toNatClampNeg)) - (σ.2.2.1 3 ((σ.1 5) - 2).toNatClampNeg))]) (rest := []) X hml G hA (c_M_raised l dC dI cI cJ h ad _ (si σ 20 (f_greater (σ.2.2.1 3 ((σ.1 5) - 1).toNatClampNeg) (σ.2.2.1 3 ((σ.1 5) - 2).toNatClampNeg))) (σ.2.2.2 2 ((σ.1 5) - 2).toNatClampNeg) ((f_greater (σ.2.2.1 3 ((σ.1 5) - 1).toNatClampNeg) (σ.2.2.1 3 ((σ.1 5) - 2).toNatClampNeg)) - (σ.2.2.1 3 ((σ.1 5) - 2).toNatClampNeg))) (cwV 2 hts gX5_sum_X5_raised rfl rfl rfl (by decide +kernel) ⟨Nat.le_of_ble_eq_true rfl, Nat.le_of_ble_eq_true rfl⟩) rfl hl.1 rfl (Nat.le_of_ble_eq_true rfl) dX5_sum_67 ⟨Nat.zero_le _, Nat.zero_le _⟩ (fun r_67 u_67 H locs hw_67 G => ?_)
    obtain ⟨f_67, rfl⟩ := raised_st hw_67
    refine lv_lstore_n (lv' := [(2, .long r_67), (0, .ref h), (1, .int b0)]) hx hb dX5_sum_70 rfl hl (by decide) rfl (fun ls hl => ?_)
    refine lv_aload_n hx hb dX5_sum_71 rfl (lv_at hl 1 rfl) ?_
    refine lv_aload_n hx hb dX5_sum_72 rfl (lv_at hl 1 rfl) ?_
    refine m_get_2 X G (by decide +kernel) dX5_sum_73 ?_
    refine lv_aload_n hx hb dX5_sum_76 rfl (lv_at hl 1 rfl) ?_
    refine m_get_5 X G (by decide +kernel) dX5_sum_77 ?_
    refine lv_iconst (v := 1) hx hb dX5_sum_80 (by decide) ?_
    refine lv_isub hx hb dX5_sum_81 ?_
    refine m_ld_2 X G (vin (i_subE (rfl : (σ.1 5).toInt = _) (show (1 : Int32).toInt = 1 from rfl) (by omega) (by omega)) (by omega) (by omega)) dX5_sum_82 ?_
    refine lv_aload_n hx hb dX5_sum_83 rfl (lv_at hl 1 rfl) ?_
    refine m_get_20 X G (by decide +kernel) dX5_sum_84 ?_
    refine lv_aload_n hx hb dX5_sum_87 rfl (lv_at hl 1 rfl) ?_
    refine m_get_3 X G (by decide +kernel) dX5_sum_88 ?_
    refine lv_aload_n hx hb dX5_sum_91 rfl (lv_at hl 1 rfl) ?_
    refine m_get_5 X G (by decide +kernel) dX5_sum_92 ?_
    refine lv_iconst (v := 1) hx hb dX5_sum_95 (by decide) ?_
    refine lv_isub hx hb dX5_sum_96 ?_
    refine m_ld_3 X G (vin (i_subE (rfl : (σ.1 5).toInt = _) (show (1 : Int32).toInt = 1 from rfl) (by omega) (by omega)) (by omega) (by omega)) dX5_sum_97 ?_
    refine lv_isub hx hb dX5_sum_98 ?_
    refine m_calll (As := [.long (σ.2.2.2 2 ((σ.1 5) - 1).toNatClampNeg), .int ((f_greater (σ.2.2.1 3 ((σ.1 5) - 1).toNatClampNeg) (σ.2.2.1 3 ((σ.1 5) - 2).toNatClampNeg)) - (σ.2.2.1 3 ((σ.1 5) - 1).toNatClampNeg))]) (rest := []) X hml G hA (c_M_raised l dC dI cI cJ h ad _ (si (si σ 20 (f_greater (σ.2.2.1 3 ((σ.1 5) - 1).toNatClampNeg) (σ.2.2.1 3 ((σ.1 5) - 2).toNatClampNeg))) 16 f_67) (σ.2.2.2 2 ((σ.1 5) - 1).toNatClampNeg) ((f_greater (σ.2.2.1 3 ((σ.1 5) - 1).toNatClampNeg) (σ.2.2.1 3 ((σ.1 5) - 2).toNatClampNeg)) - (σ.2.2.1 3 ((σ.1 5) - 1).toNatClampNeg))) (cwV 2 hts gX5_sum_X5_raised rfl rfl rfl (by decide +kernel) ⟨Nat.le_of_ble_eq_true rfl, Nat.le_of_ble_eq_true rfl⟩) rfl hl.1 rfl (Nat.le_of_ble_eq_true rfl) dX5_sum_99 ⟨Nat.zero_le _, Nat.zero_le _⟩ (fun r_99 u_99 H locs hw_99 G => ?_)
    obtain ⟨f_99, rfl⟩ := raised_st hw_99
    refine lv_lstore (lv' := [(4, .long r_99), (2, .long r_67), (0, .ref h), (1, .int b0)]) hx hb dX5_sum_102 hl (by decide) rfl (fun ls hl => ?_)
    refine lv_aload_n hx hb dX5_sum_104 rfl (lv_at hl 2 rfl) ?_
    refine m_get_16 X G (by decide +kernel) dX5_sum_105 ?_
    refine lv_if_le (tgt := 113) hx hb dX5_sum_108 (by decide) (fun c_108 => ?_) (fun c_108 => ?_)
    · have c_108 : f_99 ≤ 0 := c_108
      refine lv_aload_n hx hb dX5_sum_113 rfl (lv_at hl 2 rfl) ?_
      refine lv_iload_n hx hb dX5_sum_114 rfl (lv_at hl 3 rfl) ?_
      refine lv_if_eq (tgt := 125) hx hb dX5_sum_115 (by decide) (fun c_115 => ?_) (fun c_115 => ?_)
      · have c_115 : b0 = 0 := c_115
        refine lv_lload_n hx hb dX5_sum_125 rfl (lv_at hl 1 rfl) ?_
        refine lv_lload hx hb dX5_sum_126 (lv_at hl 0 rfl) ?_
        refine lv_ladd hx hb dX5_sum_128 ?_
        refine m_put_19 X G (by decide +kernel) dX5_sum_129 (fun H locs G => ?_)
        refine lv_aload_n hx hb dX5_sum_132 rfl (lv_at hl 2 rfl) ?_
        refine m_get_19 X G (by decide +kernel) dX5_sum_133 ?_
        refine W.callR (W.runS (As := [.long (r_67 + r_99)]) (rest := []) ⟨hx, hb, hml, hown, hts⟩ (c_M_isBig l (r_67 + r_99)) (va_cwS 1 hts gX5_sum_X5_isBig rfl rfl rfl (by decide +kernel) ⟨Nat.le_of_ble_eq_true rfl, Nat.le_of_ble_eq_true rfl⟩) ⟨fun a U g mk q => q, fun U _ _ => ⟨rfl, trivial⟩⟩ rfl rfl hl.1 rfl (lv_room (Nat.le_of_ble_eq_true rfl)) dX5_sum_136 ⟨Nat.zero_le _, Nat.zero_le _⟩) ?_
        refine W.eq (g2 := F0 m 139 ls [.int (f_isBig (r_67 + r_99))]) rfl ?_
        refine lv_if_eq (tgt := 150) hx hb dX5_sum_139 (by decide) (fun c_139 => ?_) (fun c_139 => ?_)
        · have c_139 : (f_isBig (r_67 + r_99)) = 0 := c_139
          refine lv_iconst (v := 1) hx hb dX5_sum_150 (by decide) ?_
          refine lv_goto (tgt := 155) hx hb dX5_sum_151 (by decide) ?_
          exact m_zret X G hr hlocks rfl (by simp only [F_sum, hw_2, eq_false c_5, hw_67, hw_99, eq_true c_108, eq_true c_115, eq_true c_139, ↓reduceIte, si_self, sm_self, si_snd, sm_fst, si20_16, not_false_eq_true, not_true_eq_false, eq_self] <;> rfl) dX5_sum_155
        · have c_139 : ¬ ((f_isBig (r_67 + r_99)) = 0) := c_139
          refine lv_aload_n hx hb dX5_sum_142 rfl (lv_at hl 2 rfl) ?_
          refine lv_iconst (v := 5) hx hb dX5_sum_143 (by decide) ?_
          refine m_calli (As := [.int 5]) (rest := []) X hml G hA (c_M_fail l dC dI cI cJ h ad _ (sm (si (si (si σ 20 (f_greater (σ.2.2.1 3 ((σ.1 5) - 1).toNatClampNeg) (σ.2.2.1 3 ((σ.1 5) - 2).toNatClampNeg))) 16 f_67) 16 f_99) (r_67 + r_99)) 5) (cwV 1 hts gX5_sum_X5_fail rfl rfl rfl (by decide +kernel) ⟨Nat.le_of_ble_eq_true rfl, Nat.le_of_ble_eq_true rfl⟩) rfl hl.1 rfl (Nat.le_of_ble_eq_true rfl) dX5_sum_144 ⟨Nat.zero_le _, Nat.zero_le _⟩ (fun r_144 u_144 H locs hw_144 G => ?_)
          obtain ⟨rfl, rfl⟩ := hw_144
          refine lv_if_eq (tgt := 154) hx hb dX5_sum_147 (by decide) (fun c9 => ?_) (fun c9 => absurd (show (0 : Int32) = 0 from by decide) c9)
          refine lv_iconst (v := 0) hx hb dX5_sum_154 (by decide) ?_
          exact m_zret X G hr hlocks rfl (by simp only [F_sum, hw_2, eq_false c_5, hw_67, hw_99, eq_true c_108, eq_true c_115, eq_false c_139, ↓reduceIte, si_self, sm_self, si_snd, sm_fst, si20_16, not_false_eq_true, not_true_eq_false, eq_self] <;> rfl) dX5_sum_155
      · have c_115 : ¬ (b0 = 0) := c_115
        refine lv_lload_n hx hb dX5_sum_118 rfl (lv_at hl 1 rfl) ?_
        refine lv_lload hx hb dX5_sum_119 (lv_at hl 0 rfl) ?_
        refine lv_lsub hx hb dX5_sum_121 ?_
        refine lv_goto (tgt := 129) hx hb dX5_sum_122 (by decide) ?_
        refine m_put_19 X G (by decide +kernel) dX5_sum_129 (fun H locs G => ?_)
        refine lv_aload_n hx hb dX5_sum_132 rfl (lv_at hl 2 rfl) ?_
        refine m_get_19 X G (by decide +kernel) dX5_sum_133 ?_
        refine W.callR (W.runS (As := [.long (r_67 - r_99)]) (rest := []) ⟨hx, hb, hml, hown, hts⟩ (c_M_isBig l (r_67 - r_99)) (va_cwS 1 hts gX5_sum_X5_isBig rfl rfl rfl (by decide +kernel) ⟨Nat.le_of_ble_eq_true rfl, Nat.le_of_ble_eq_true rfl⟩) ⟨fun a U g mk q => q, fun U _ _ => ⟨rfl, trivial⟩⟩ rfl rfl hl.1 rfl (lv_room (Nat.le_of_ble_eq_true rfl)) dX5_sum_136 ⟨Nat.zero_le _, Nat.zero_le _⟩) ?_
        refine W.eq (g2 := F0 m 139 ls [.int (f_isBig (r_67 - r_99))]) rfl ?_
        refine lv_if_eq (tgt := 150) hx hb dX5_sum_139 (by decide) (fun c_139 => ?_) (fun c_139 => ?_)
        · have c_139 : (f_isBig (r_67 - r_99)) = 0 := c_139
          refine lv_iconst (v := 1) hx hb dX5_sum_150 (by decide) ?_
          refine lv_goto (tgt := 155) hx hb dX5_sum_151 (by decide) ?_
          exact m_zret X G hr hlocks rfl (by simp only [F_sum, hw_2, eq_false c_5, hw_67, hw_99, eq_true c_108, eq_false c_115, eq_true c_139, ↓reduceIte, si_self, sm_self, si_snd, sm_fst, si20_16, not_false_eq_true, not_true_eq_false, eq_self] <;> rfl) dX5_sum_155
        · have c_139 : ¬ ((f_isBig (r_67 - r_99)) = 0) := c_139
          refine lv_aload_n hx hb dX5_sum_142 rfl (lv_at hl 2 rfl) ?_
          refine lv_iconst (v := 5) hx hb dX5_sum_143 (by decide) ?_
          refine m_calli (As := [.int 5]) (rest := []) X hml G hA (c_M_fail l dC dI cI cJ h ad _ (sm (si (si (si σ 20 (f_greater (σ.2.2.1 3 ((σ.1 5) - 1).toNatClampNeg) (σ.2.2.1 3 ((σ.1 5) - 2).toNatClampNeg))) 16 f_67) 16 f_99) (r_67 - r_99)) 5) (cwV 1 hts gX5_sum_X5_fail rfl rfl rfl (by decide +kernel) ⟨Nat.le_of_ble_eq_true rfl, Nat.le_of_ble_eq_true rfl⟩) rfl hl.1 rfl (Nat.le_of_ble_eq_true rfl) dX5_sum_144 ⟨Nat.zero_le _, Nat.zero_le _⟩ (fun r_144 u_144 H locs hw_144 G => ?_)
          obtain ⟨rfl, rfl⟩ := hw_144
          refine lv_if_eq (tgt := 154) hx hb dX5_sum_147 (by decide) (fun c9 => ?_) (fun c9 => absurd (show (0 : Int32) = 0 from by decide) c9)
          refine lv_iconst (v := 0) hx hb dX5_sum_154 (by decide) ?_
          exact m_zret X G hr hlocks rfl (by simp only [F_sum, hw_2, eq_false c_5, hw_67, hw_99, eq_true c_108, eq_false c_115, eq_false c_139, ↓reduceIte, si_self, sm_self, si_snd, sm_fst, si20_16, not_false_eq_true, not_true_eq_false, eq_self] <;> rfl) dX5_sum_155
    · have c_108 : ¬ (f_99 ≤ 0) := c_108
      refine lv_iconst (v := 0) hx hb dX5_sum_111 (by decide) ?_
      exact m_zret X G hr hlocks rfl (by simp only [F_sum, hw_2, eq_false c_5, hw_67, hw_99, eq_false c_108, ↓reduceIte, si_self, sm_self, si_snd, sm_fst, si20_16, not_false_eq_true, not_true_eq_false, eq_self] <;> rfl) dX5_sum_112
  · have c_5 : r_2 = 0 := c_5
    refine lv_iconst (v := 0) hx hb dX5_sum_8 (by decide) ?_
    exact m_zret X G hr hlocks rfl (by simp only [F_sum, hw_2, eq_true c_5, ↓reduceIte, si_self, sm_self, si_snd, sm_fst, si20_16, not_false_eq_true, not_true_eq_false, eq_self] <;> rfl) dX5_sum_9
set_option maxHeartbeats 4000000 in
set_option maxRecDepth 100000 in
theorem c_M_times (l : Launch) (dC : Nat → ClassId) (dI : Nat → Nat → Nat) (cI cJ : ClassId) (h : Nat) (ad : Nat → Nat) (sz : Nat) (σ : MS) (hd : (σ.1 5).toInt ≤ 40) : Met l yX5_times wsX5_times ({ frames := 3, cells := 0, slots := 0, locals := 64 } : Room) (va_Pc [.ref h] (mPre dC dI cI cJ h ad sz σ)) (va_Qi (fun r u => F_times σ = (r, u)) (mAt dC dI cI cJ h ad (mA h ad cI cJ σ sz)) (mA h ad cI cJ σ sz)) 0 0 (mA h ad cI cJ σ sz) := by
  refine m_ofW (cc := cX5_times) (maxL := 3) (ret := (some .boolean)) (by decide) rfl (by decide +kernel) rfl (Nat.le_of_ble_eq_true rfl) ?_
  intro p e s m below meth c X G hA hr hlocks hml ls hl
  have hl : lv_has ls 3 [(0, .ref h)] := hl
  have hx := X.1
  have hb := X.2.1
  have hts := X.2.2.1
  have hown := X.2.2.2.2.1
  refine lv_aload_n hx hb dX5_times_0 rfl (lv_at hl 0 rfl) ?_
  refine lv_iconst (v := 2) hx hb dX5_times_1 (by decide) ?_
  refine m_calli (As := [.int 2]) (rest := []) X hml G hA (c_M_numbers l dC dI cI cJ h ad _ σ 2 (by decide) hd) (cwV 1 hts gX5_times_X5_numbers rfl rfl rfl (by decide +kernel) ⟨Nat.le_of_ble_eq_true rfl, Nat.le_of_ble_eq_true rfl⟩) rfl hl.1 rfl (Nat.le_of_ble_eq_true rfl) dX5_times_2 ⟨Nat.zero_le _, Nat.zero_le _⟩ (fun r_2 u_2 H locs hw_2 G => ?_)
  refine lv_if_ne (tgt := 10) hx hb dX5_times_5 (by decide) (fun c_5 => ?_) (fun c_5 => ?_)
  · have c_5 : ¬ (r_2 = 0) := c_5
    obtain ⟨rfl, hn⟩ := numbers_ok hw_2 c_5
    have hn : 2 ≤ (σ.1 5).toInt := hn
    refine lv_aload_n hx hb dX5_times_10 rfl (lv_at hl 0 rfl) ?_
    refine m_get_3 X G (by decide +kernel) dX5_times_11 ?_
    refine lv_aload_n hx hb dX5_times_14 rfl (lv_at hl 0 rfl) ?_
    refine m_get_5 X G (by decide +kernel) dX5_times_15 ?_
    refine lv_iconst (v := 1) hx hb dX5_times_18 (by decide) ?_
    refine lv_isub hx hb dX5_times_19 ?_
    refine m_ld_3 X G (vin (i_subE (rfl : (σ.1 5).toInt = _) (show (1 : Int32).toInt = 1 from rfl) (by omega) (by omega)) (by omega) (by omega)) dX5_times_20 ?_
    refine lv_istore_n (lv' := [(1, .int (σ.2.2.1 3 ((σ.1 5) - 1).toNatClampNeg)), (0, .ref h)]) hx hb dX5_times_21 rfl hl (by decide) rfl (fun ls hl => ?_)
    refine lv_aload_n hx hb dX5_times_22 rfl (lv_at hl 1 rfl) ?_
    refine m_get_3 X G (by decide +kernel) dX5_times_23 ?_
    refine lv_aload_n hx hb dX5_times_26 rfl (lv_at hl 1 rfl) ?_
    refine m_get_5 X G (by decide +kernel) dX5_times_27 ?_
    refine lv_iconst (v := 2) hx hb dX5_times_30 (by decide) ?_
    refine lv_isub hx hb dX5_times_31 ?_
    refine m_ld_3 X G (vin (i_subE (rfl : (σ.1 5).toInt = _) (show (2 : Int32).toInt = 2 from rfl) (by omega) (by omega)) (by omega) (by omega)) dX5_times_32 ?_
    refine lv_istore_n (lv' := [(2, .int (σ.2.2.1 3 ((σ.1 5) - 2).toNatClampNeg)), (1, .int (σ.2.2.1 3 ((σ.1 5) - 1).toNatClampNeg)), (0, .ref h)]) hx hb dX5_times_33 rfl hl (by decide) rfl (fun ls hl => ?_)
    refine lv_aload_n hx hb dX5_times_34 rfl (lv_at hl 2 rfl) ?_
    refine lv_aload_n hx hb dX5_times_35 rfl (lv_at hl 2 rfl) ?_
    refine m_get_6 X G (by decide +kernel) dX5_times_36 ?_
    refine lv_iload_n hx hb dX5_times_39 rfl (lv_at hl 1 rfl) ?_
    refine lv_iload_n hx hb dX5_times_40 rfl (lv_at hl 0 rfl) ?_
    refine W.callR (W.runS (As := [.int (σ.2.2.1 3 ((σ.1 5) - 1).toNatClampNeg), .int (σ.2.2.1 3 ((σ.1 5) - 2).toNatClampNeg)]) (rest := [.int (σ.1 6), .ref h]) ⟨hx, hb, hml, hown, hts⟩ (c_M_greater l (σ.2.2.1 3 ((σ.1 5) - 1).toNatClampNeg) (σ.2.2.1 3 ((σ.1 5) - 2).toNatClampNeg)) (va_cwS 2 hts gX5_times_X5_greater rfl rfl rfl (by decide +kernel) ⟨Nat.le_of_ble_eq_true rfl, Nat.le_of_ble_eq_true rfl⟩) ⟨fun a U g mk q => q, fun U _ _ => ⟨rfl, trivial⟩⟩ rfl rfl hl.1 rfl (lv_room (Nat.le_of_ble_eq_true rfl)) dX5_times_41 ⟨Nat.zero_le _, Nat.zero_le _⟩) ?_
    refine W.eq (g2 := F0 m 44 ls [.int (f_greater (σ.2.2.1 3 ((σ.1 5) - 1).toNatClampNeg) (σ.2.2.1 3 ((σ.1 5) - 2).toNatClampNeg)), .int (σ.1 6), .ref h]) rfl ?_
    refine W.callR (W.runS (As := [.int (σ.1 6), .int (f_greater (σ.2.2.1 3 ((σ.1 5) - 1).toNatClampNeg) (σ.2.2.1 3 ((σ.1 5) - 2).toNatClampNeg))]) (rest := [.ref h]) ⟨hx, hb, hml, hown, hts⟩ (c_M_greater l (σ.1 6) (f_greater (σ.2.2.1 3 ((σ.1 5) - 1).toNatClampNeg) (σ.2.2.1 3 ((σ.1 5) - 2).toNatClampNeg))) (va_cwS 2 hts gX5_times_X5_greater rfl rfl rfl (by decide +kernel) ⟨Nat.le_of_ble_eq_true rfl, Nat.le_of_ble_eq_true rfl⟩) ⟨fun a U g mk q => q, fun U _ _ => ⟨rfl, trivial⟩⟩ rfl rfl hl.1 rfl (lv_room (Nat.le_of_ble_eq_true rfl)) dX5_times_44 ⟨Nat.zero_le _, Nat.zero_le _⟩) ?_
    refine W.eq (g2 := F0 m 47 ls [.int (f_greater (σ.1 6) (f_greater (σ.2.2.1 3 ((σ.1 5) - 1).toNatClampNeg) (σ.2.2.1 3 ((σ.1 5) - 2).toNatClampNeg))), .ref h]) rfl ?_
    refine m_put_20 X G (by decide +kernel) dX5_times_47 (fun H locs G => ?_)
    refine lv_iload_n hx hb dX5_times_50 rfl (lv_at hl 1 rfl) ?_
    refine lv_iload_n hx hb dX5_times_51 rfl (lv_at hl 0 rfl) ?_
    refine lv_iadd hx hb dX5_times_52 ?_
    refine lv_aload_n hx hb dX5_times_53 rfl (lv_at hl 2 rfl) ?_
    refine m_get_20 X G (by decide +kernel) dX5_times_54 ?_
    refine lv_icmp_ge (tgt := 67) hx hb dX5_times_57 (by decide) (fun c_57 => ?_) (fun c_57 => ?_)
    · have c_57 : (f_greater (σ.1 6) (f_greater (σ.2.2.1 3 ((σ.1 5) - 1).toNatClampNeg) (σ.2.2.1 3 ((σ.1 5) - 2).toNatClampNeg))) ≤ ((σ.2.2.1 3 ((σ.1 5) - 1).toNatClampNeg) + (σ.2.2.1 3 ((σ.1 5) - 2).toNatClampNeg)) := c_57
      refine lv_aload_n hx hb dX5_times_67 rfl (lv_at hl 2 rfl) ?_
      refine lv_aload_n hx hb dX5_times_68 rfl (lv_at hl 2 rfl) ?_
      refine lv_aload_n hx hb dX5_times_69 rfl (lv_at hl 2 rfl) ?_
      refine m_get_2 X G (by decide +kernel) dX5_times_70 ?_
      refine lv_aload_n hx hb dX5_times_73 rfl (lv_at hl 2 rfl) ?_
      refine m_get_5 X G (by decide +kernel) dX5_times_74 ?_
      refine lv_iconst (v := 2) hx hb dX5_times_77 (by decide) ?_
      refine lv_isub hx hb dX5_times_78 ?_
      refine m_ld_2 X G (vin (i_subE (rfl : (σ.1 5).toInt = _) (show (2 : Int32).toInt = 2 from rfl) (by omega) (by omega)) (by omega) (by omega)) dX5_times_79 ?_
      refine lv_aload_n hx hb dX5_times_80 rfl (lv_at hl 2 rfl) ?_
      refine m_get_2 X G (by decide +kernel) dX5_times_81 ?_
      refine lv_aload_n hx hb dX5_times_84 rfl (lv_at hl 2 rfl) ?_
      refine m_get_5 X G (by decide +kernel) dX5_times_85 ?_
      refine lv_iconst (v := 1) hx hb dX5_times_88 (by decide) ?_
      refine lv_isub hx hb dX5_times_89 ?_
      refine m_ld_2 X G (vin (i_subE (rfl : (σ.1 5).toInt = _) (show (1 : Int32).toInt = 1 from rfl) (by omega) (by omega)) (by omega) (by omega)) dX5_times_90 ?_
      refine m_calll (As := [.long (σ.2.2.2 2 ((σ.1 5) - 2).toNatClampNeg), .long (σ.2.2.2 2 ((σ.1 5) - 1).toNatClampNeg)]) (rest := [.ref h]) X hml G hA (c_M_product l dC dI cI cJ h ad _ (si σ 20 (f_greater (σ.1 6) (f_greater (σ.2.2.1 3 ((σ.1 5) - 1).toNatClampNeg) (σ.2.2.1 3 ((σ.1 5) - 2).toNatClampNeg)))) (σ.2.2.2 2 ((σ.1 5) - 2).toNatClampNeg) (σ.2.2.2 2 ((σ.1 5) - 1).toNatClampNeg)) (cwV 2 hts gX5_times_X5_product rfl rfl rfl (by decide +kernel) ⟨Nat.le_of_ble_eq_true rfl, Nat.le_of_ble_eq_true rfl⟩) rfl hl.1 rfl (Nat.le_of_ble_eq_true rfl) dX5_times_91 ⟨Nat.zero_le _, Nat.zero_le _⟩ (fun r_91 u_91 H locs hw_91 G => ?_)
      obtain ⟨f_91, rfl⟩ := product_st hw_91
      refine lv_iload_n hx hb dX5_times_94 rfl (lv_at hl 1 rfl) ?_
      refine lv_iload_n hx hb dX5_times_95 rfl (lv_at hl 0 rfl) ?_
      refine lv_iadd hx hb dX5_times_96 ?_
      refine lv_aload_n hx hb dX5_times_97 rfl (lv_at hl 2 rfl) ?_
      refine m_get_20 X G (by decide +kernel) dX5_times_98 ?_
      refine lv_isub hx hb dX5_times_101 ?_
      refine W.callRL (W.runS (As := [.long r_91, .int (((σ.2.2.1 3 ((σ.1 5) - 1).toNatClampNeg) + (σ.2.2.1 3 ((σ.1 5) - 2).toNatClampNeg)) - (f_greater (σ.1 6) (f_greater (σ.2.2.1 3 ((σ.1 5) - 1).toNatClampNeg) (σ.2.2.1 3 ((σ.1 5) - 2).toNatClampNeg))))]) (rest := [.ref h]) ⟨hx, hb, hml, hown, hts⟩ (c_M_cut l r_91 (((σ.2.2.1 3 ((σ.1 5) - 1).toNatClampNeg) + (σ.2.2.1 3 ((σ.1 5) - 2).toNatClampNeg)) - (f_greater (σ.1 6) (f_greater (σ.2.2.1 3 ((σ.1 5) - 1).toNatClampNeg) (σ.2.2.1 3 ((σ.1 5) - 2).toNatClampNeg))))) (va_cwS 2 hts gX5_times_X5_cut rfl rfl rfl (by decide +kernel) ⟨Nat.le_of_ble_eq_true rfl, Nat.le_of_ble_eq_true rfl⟩) ⟨fun a U g mk q => q, fun U _ _ => ⟨rfl, trivial⟩⟩ rfl rfl hl.1 rfl (lv_room (Nat.le_of_ble_eq_true rfl)) dX5_times_102 ⟨Nat.zero_le _, Nat.zero_le _⟩) ?_
      refine W.eq (g2 := F0 m 105 ls [.long (f_cut r_91 (((σ.2.2.1 3 ((σ.1 5) - 1).toNatClampNeg) + (σ.2.2.1 3 ((σ.1 5) - 2).toNatClampNeg)) - (f_greater (σ.1 6) (f_greater (σ.2.2.1 3 ((σ.1 5) - 1).toNatClampNeg) (σ.2.2.1 3 ((σ.1 5) - 2).toNatClampNeg))))), .ref h]) rfl ?_
      refine m_put_19 X G (by decide +kernel) dX5_times_105 (fun H locs G => ?_)
      refine lv_aload_n hx hb dX5_times_108 rfl (lv_at hl 2 rfl) ?_
      refine m_get_16 X G (by decide +kernel) dX5_times_109 ?_
      refine lv_if_ne (tgt := 119) hx hb dX5_times_112 (by decide) (fun c_112 => ?_) (fun c_112 => ?_)
      · have c_112 : ¬ (f_91 = 0) := c_112
        refine lv_iconst (v := 0) hx hb dX5_times_119 (by decide) ?_
        exact m_zret X G hr hlocks rfl (by simp only [F_times, hw_2, eq_false c_5, eq_true c_57, hw_91, eq_false c_112, ↓reduceIte, si_self, sm_self, si_snd, sm_fst, si20_16, not_false_eq_true, not_true_eq_false, eq_self] <;> rfl) dX5_times_120
      · have c_112 : f_91 = 0 := c_112
        refine lv_iconst (v := 1) hx hb dX5_times_115 (by decide) ?_
        refine lv_goto (tgt := 120) hx hb dX5_times_116 (by decide) ?_
        exact m_zret X G hr hlocks rfl (by simp only [F_times, hw_2, eq_false c_5, eq_true c_57, hw_91, eq_true c_112, ↓reduceIte, si_self, sm_self, si_snd, sm_fst, si20_16, not_false_eq_true, not_true_eq_false, eq_self] <;> rfl) dX5_times_120
    · have c_57 : ¬ ((f_greater (σ.1 6) (f_greater (σ.2.2.1 3 ((σ.1 5) - 1).toNatClampNeg) (σ.2.2.1 3 ((σ.1 5) - 2).toNatClampNeg))) ≤ ((σ.2.2.1 3 ((σ.1 5) - 1).toNatClampNeg) + (σ.2.2.1 3 ((σ.1 5) - 2).toNatClampNeg))) := c_57
      refine lv_aload_n hx hb dX5_times_60 rfl (lv_at hl 2 rfl) ?_
      refine lv_iload_n hx hb dX5_times_61 rfl (lv_at hl 1 rfl) ?_
      refine lv_iload_n hx hb dX5_times_62 rfl (lv_at hl 0 rfl) ?_
      refine lv_iadd hx hb dX5_times_63 ?_
      refine m_put_20 X G (by decide +kernel) dX5_times_64 (fun H locs G => ?_)
      refine lv_aload_n hx hb dX5_times_67 rfl (lv_at hl 2 rfl) ?_
      refine lv_aload_n hx hb dX5_times_68 rfl (lv_at hl 2 rfl) ?_
      refine lv_aload_n hx hb dX5_times_69 rfl (lv_at hl 2 rfl) ?_
      refine m_get_2 X G (by decide +kernel) dX5_times_70 ?_
      refine lv_aload_n hx hb dX5_times_73 rfl (lv_at hl 2 rfl) ?_
      refine m_get_5 X G (by decide +kernel) dX5_times_74 ?_
      refine lv_iconst (v := 2) hx hb dX5_times_77 (by decide) ?_
      refine lv_isub hx hb dX5_times_78 ?_
      refine m_ld_2 X G (vin (i_subE (rfl : (σ.1 5).toInt = _) (show (2 : Int32).toInt = 2 from rfl) (by omega) (by omega)) (by omega) (by omega)) dX5_times_79 ?_
      refine lv_aload_n hx hb dX5_times_80 rfl (lv_at hl 2 rfl) ?_
      refine m_get_2 X G (by decide +kernel) dX5_times_81 ?_
      refine lv_aload_n hx hb dX5_times_84 rfl (lv_at hl 2 rfl) ?_
      refine m_get_5 X G (by decide +kernel) dX5_times_85 ?_
      refine lv_iconst (v := 1) hx hb dX5_times_88 (by decide) ?_
      refine lv_isub hx hb dX5_times_89 ?_
      refine m_ld_2 X G (vin (i_subE (rfl : (σ.1 5).toInt = _) (show (1 : Int32).toInt = 1 from rfl) (by omega) (by omega)) (by omega) (by omega)) dX5_times_90 ?_
      refine m_calll (As := [.long (σ.2.2.2 2 ((σ.1 5) - 2).toNatClampNeg), .long (σ.2.2.2 2 ((σ.1 5) - 1).toNatClampNeg)]) (rest := [.ref h]) X hml G hA (c_M_product l dC dI cI cJ h ad _ (si (si σ 20 (f_greater (σ.1 6) (f_greater (σ.2.2.1 3 ((σ.1 5) - 1).toNatClampNeg) (σ.2.2.1 3 ((σ.1 5) - 2).toNatClampNeg)))) 20 ((σ.2.2.1 3 ((σ.1 5) - 1).toNatClampNeg) + (σ.2.2.1 3 ((σ.1 5) - 2).toNatClampNeg))) (σ.2.2.2 2 ((σ.1 5) - 2).toNatClampNeg) (σ.2.2.2 2 ((σ.1 5) - 1).toNatClampNeg)) (cwV 2 hts gX5_times_X5_product rfl rfl rfl (by decide +kernel) ⟨Nat.le_of_ble_eq_true rfl, Nat.le_of_ble_eq_true rfl⟩) rfl hl.1 rfl (Nat.le_of_ble_eq_true rfl) dX5_times_91 ⟨Nat.zero_le _, Nat.zero_le _⟩ (fun r_91 u_91 H locs hw_91 G => ?_)
      obtain ⟨f_91, rfl⟩ := product_st hw_91
      refine lv_iload_n hx hb dX5_times_94 rfl (lv_at hl 1 rfl) ?_
      refine lv_iload_n hx hb dX5_times_95 rfl (lv_at hl 0 rfl) ?_
      refine lv_iadd hx hb dX5_times_96 ?_
      refine lv_aload_n hx hb dX5_times_97 rfl (lv_at hl 2 rfl) ?_
      refine m_get_20 X G (by decide +kernel) dX5_times_98 ?_
      refine lv_isub hx hb dX5_times_101 ?_
      refine W.callRL (W.runS (As := [.long r_91, .int (((σ.2.2.1 3 ((σ.1 5) - 1).toNatClampNeg) + (σ.2.2.1 3 ((σ.1 5) - 2).toNatClampNeg)) - ((σ.2.2.1 3 ((σ.1 5) - 1).toNatClampNeg) + (σ.2.2.1 3 ((σ.1 5) - 2).toNatClampNeg)))]) (rest := [.ref h]) ⟨hx, hb, hml, hown, hts⟩ (c_M_cut l r_91 (((σ.2.2.1 3 ((σ.1 5) - 1).toNatClampNeg) + (σ.2.2.1 3 ((σ.1 5) - 2).toNatClampNeg)) - ((σ.2.2.1 3 ((σ.1 5) - 1).toNatClampNeg) + (σ.2.2.1 3 ((σ.1 5) - 2).toNatClampNeg)))) (va_cwS 2 hts gX5_times_X5_cut rfl rfl rfl (by decide +kernel) ⟨Nat.le_of_ble_eq_true rfl, Nat.le_of_ble_eq_true rfl⟩) ⟨fun a U g mk q => q, fun U _ _ => ⟨rfl, trivial⟩⟩ rfl rfl hl.1 rfl (lv_room (Nat.le_of_ble_eq_true rfl)) dX5_times_102 ⟨Nat.zero_le _, Nat.zero_le _⟩) ?_
      refine W.eq (g2 := F0 m 105 ls [.long (f_cut r_91 (((σ.2.2.1 3 ((σ.1 5) - 1).toNatClampNeg) + (σ.2.2.1 3 ((σ.1 5) - 2).toNatClampNeg)) - ((σ.2.2.1 3 ((σ.1 5) - 1).toNatClampNeg) + (σ.2.2.1 3 ((σ.1 5) - 2).toNatClampNeg)))), .ref h]) rfl ?_
      refine m_put_19 X G (by decide +kernel) dX5_times_105 (fun H locs G => ?_)
      refine lv_aload_n hx hb dX5_times_108 rfl (lv_at hl 2 rfl) ?_
      refine m_get_16 X G (by decide +kernel) dX5_times_109 ?_
      refine lv_if_ne (tgt := 119) hx hb dX5_times_112 (by decide) (fun c_112 => ?_) (fun c_112 => ?_)
      · have c_112 : ¬ (f_91 = 0) := c_112
        refine lv_iconst (v := 0) hx hb dX5_times_119 (by decide) ?_
        exact m_zret X G hr hlocks rfl (by simp only [F_times, hw_2, eq_false c_5, eq_false c_57, hw_91, eq_false c_112, ↓reduceIte, si_self, sm_self, si_snd, sm_fst, si20_16, not_false_eq_true, not_true_eq_false, eq_self] <;> rfl) dX5_times_120
      · have c_112 : f_91 = 0 := c_112
        refine lv_iconst (v := 1) hx hb dX5_times_115 (by decide) ?_
        refine lv_goto (tgt := 120) hx hb dX5_times_116 (by decide) ?_
        exact m_zret X G hr hlocks rfl (by simp only [F_times, hw_2, eq_false c_5, eq_false c_57, hw_91, eq_true c_112, ↓reduceIte, si_self, sm_self, si_snd, sm_fst, si20_16, not_false_eq_true, not_true_eq_false, eq_self] <;> rfl) dX5_times_120
  · have c_5 : r_2 = 0 := c_5
    refine lv_iconst (v := 0) hx hb dX5_times_8 (by decide) ?_
    exact m_zret X G hr hlocks rfl (by simp only [F_times, hw_2, eq_true c_5, ↓reduceIte, si_self, sm_self, si_snd, sm_fst, si20_16, not_false_eq_true, not_true_eq_false, eq_self] <;> rfl) dX5_times_9
set_option maxHeartbeats 4000000 in
set_option maxRecDepth 100000 in
theorem c_M_quotient (l : Launch) (dC : Nat → ClassId) (dI : Nat → Nat → Nat) (cI cJ : ClassId) (h : Nat) (ad : Nat → Nat) (sz : Nat) (σ : MS) (hd : (σ.1 5).toInt ≤ 40) : Met l yX5_quotient wsX5_quotient ({ frames := 3, cells := 0, slots := 0, locals := 64 } : Room) (va_Pc [.ref h] (mPre dC dI cI cJ h ad sz σ)) (va_Qi (fun r u => F_quotient σ = (r, u)) (mAt dC dI cI cJ h ad (mA h ad cI cJ σ sz)) (mA h ad cI cJ σ sz)) 0 0 (mA h ad cI cJ σ sz) := by
  refine m_ofW (cc := cX5_quotient) (maxL := 6) (ret := (some .boolean)) (by decide) rfl (by decide +kernel) rfl (Nat.le_of_ble_eq_true rfl) ?_
  intro p e s m below meth c X G hA hr hlocks hml ls hl
  have hl : lv_has ls 6 [(0, .ref h)] := hl
  have hx := X.1
  have hb := X.2.1
  have hts := X.2.2.1
  have hown := X.2.2.2.2.1
  refine lv_aload_n hx hb dX5_quotient_0 rfl (lv_at hl 0 rfl) ?_
  refine lv_iconst (v := 2) hx hb dX5_quotient_1 (by decide) ?_
  refine m_calli (As := [.int 2]) (rest := []) X hml G hA (c_M_numbers l dC dI cI cJ h ad _ σ 2 (by decide) hd) (cwV 1 hts gX5_quotient_X5_numbers rfl rfl rfl (by decide +kernel) ⟨Nat.le_of_ble_eq_true rfl, Nat.le_of_ble_eq_true rfl⟩) rfl hl.1 rfl (Nat.le_of_ble_eq_true rfl) dX5_quotient_2 ⟨Nat.zero_le _, Nat.zero_le _⟩ (fun r_2 u_2 H locs hw_2 G => ?_)
  refine lv_if_ne (tgt := 10) hx hb dX5_quotient_5 (by decide) (fun c_5 => ?_) (fun c_5 => ?_)
  · have c_5 : ¬ (r_2 = 0) := c_5
    obtain ⟨rfl, hn⟩ := numbers_ok hw_2 c_5
    have hn : 2 ≤ (σ.1 5).toInt := hn
    refine lv_aload_n hx hb dX5_quotient_10 rfl (lv_at hl 0 rfl) ?_
    refine m_get_2 X G (by decide +kernel) dX5_quotient_11 ?_
    refine lv_aload_n hx hb dX5_quotient_14 rfl (lv_at hl 0 rfl) ?_
    refine m_get_5 X G (by decide +kernel) dX5_quotient_15 ?_
    refine lv_iconst (v := 2) hx hb dX5_quotient_18 (by decide) ?_
    refine lv_isub hx hb dX5_quotient_19 ?_
    refine m_ld_2 X G (vin (i_subE (rfl : (σ.1 5).toInt = _) (show (2 : Int32).toInt = 2 from rfl) (by omega) (by omega)) (by omega) (by omega)) dX5_quotient_20 ?_
    refine lv_lstore_n (lv' := [(1, .long (σ.2.2.2 2 ((σ.1 5) - 2).toNatClampNeg)), (0, .ref h)]) hx hb dX5_quotient_21 rfl hl (by decide) rfl (fun ls hl => ?_)
    refine lv_aload_n hx hb dX5_quotient_22 rfl (lv_at hl 1 rfl) ?_
    refine m_get_2 X G (by decide +kernel) dX5_quotient_23 ?_
    refine lv_aload_n hx hb dX5_quotient_26 rfl (lv_at hl 1 rfl) ?_
    refine m_get_5 X G (by decide +kernel) dX5_quotient_27 ?_
    refine lv_iconst (v := 1) hx hb dX5_quotient_30 (by decide) ?_
    refine lv_isub hx hb dX5_quotient_31 ?_
    refine m_ld_2 X G (vin (i_subE (rfl : (σ.1 5).toInt = _) (show (1 : Int32).toInt = 1 from rfl) (by omega) (by omega)) (by omega) (by omega)) dX5_quotient_32 ?_
    refine lv_lstore_n (lv' := [(3, .long (σ.2.2.2 2 ((σ.1 5) - 1).toNatClampNeg)), (1, .long (σ.2.2.2 2 ((σ.1 5) - 2).toNatClampNeg)), (0, .ref h)]) hx hb dX5_quotient_33 rfl hl (by decide) rfl (fun ls hl => ?_)
    refine lv_lload_n hx hb dX5_quotient_34 rfl (lv_at hl 0 rfl) ?_
    refine lv_lconst (v := 0) hx hb dX5_quotient_35 (by decide) ?_
    refine W.lcmp hx hb dX5_quotient_36 ?_
    refine lv_if_ne (tgt := 46) hx hb dX5_quotient_37 (by decide) (fun c_37 => ?_) (fun c_37 => ?_)
    · have c_37 := (mt (l_cmp_eq _ _).mpr c_37)
      have c_37 : ¬ ((σ.2.2.2 2 ((σ.1 5) - 1).toNatClampNeg) = 0) := c_37
      refine lv_aload_n hx hb dX5_quotient_46 rfl (lv_at hl 2 rfl) ?_
      refine m_get_6 X G (by decide +kernel) dX5_quotient_47 ?_
      refine lv_aload_n hx hb dX5_quotient_50 rfl (lv_at hl 2 rfl) ?_
      refine m_get_3 X G (by decide +kernel) dX5_quotient_51 ?_
      refine lv_aload_n hx hb dX5_quotient_54 rfl (lv_at hl 2 rfl) ?_
      refine m_get_5 X G (by decide +kernel) dX5_quotient_55 ?_
      refine lv_iconst (v := 1) hx hb dX5_quotient_58 (by decide) ?_
      refine lv_isub hx hb dX5_quotient_59 ?_
      refine m_ld_3 X G (vin (i_subE (rfl : (σ.1 5).toInt = _) (show (1 : Int32).toInt = 1 from rfl) (by omega) (by omega)) (by omega) (by omega)) dX5_quotient_60 ?_
      refine lv_iadd hx hb dX5_quotient_61 ?_
      refine lv_aload_n hx hb dX5_quotient_62 rfl (lv_at hl 2 rfl) ?_
      refine m_get_3 X G (by decide +kernel) dX5_quotient_63 ?_
      refine lv_aload_n hx hb dX5_quotient_66 rfl (lv_at hl 2 rfl) ?_
      refine m_get_5 X G (by decide +kernel) dX5_quotient_67 ?_
      refine lv_iconst (v := 2) hx hb dX5_quotient_70 (by decide) ?_
      refine lv_isub hx hb dX5_quotient_71 ?_
      refine m_ld_3 X G (vin (i_subE (rfl : (σ.1 5).toInt = _) (show (2 : Int32).toInt = 2 from rfl) (by omega) (by omega)) (by omega) (by omega)) dX5_quotient_72 ?_
      refine lv_isub hx hb dX5_quotient_73 ?_
      refine lv_istore (lv' := [(5, .int (((σ.1 6) + (σ.2.2.1 3 ((σ.1 5) - 1).toNatClampNeg)) - (σ.2.2.1 3 ((σ.1 5) - 2).toNatClampNeg))), (3, .long (σ.2.2.2 2 ((σ.1 5) - 1).toNatClampNeg)), (1, .long (σ.2.2.2 2 ((σ.1 5) - 2).toNatClampNeg)), (0, .ref h)]) hx hb dX5_quotient_74 hl (by decide) rfl (fun ls hl => ?_)
      refine lv_aload_n hx hb dX5_quotient_76 rfl (lv_at hl 3 rfl) ?_
      refine lv_lload_n hx hb dX5_quotient_77 rfl (lv_at hl 2 rfl) ?_
      refine lv_iload hx hb dX5_quotient_78 (lv_at hl 0 rfl) ?_
      refine m_calll (As := [.long (σ.2.2.2 2 ((σ.1 5) - 2).toNatClampNeg), .int (((σ.1 6) + (σ.2.2.1 3 ((σ.1 5) - 1).toNatClampNeg)) - (σ.2.2.1 3 ((σ.1 5) - 2).toNatClampNeg))]) (rest := []) X hml G hA (c_M_raised l dC dI cI cJ h ad _ σ (σ.2.2.2 2 ((σ.1 5) - 2).toNatClampNeg) (((σ.1 6) + (σ.2.2.1 3 ((σ.1 5) - 1).toNatClampNeg)) - (σ.2.2.1 3 ((σ.1 5) - 2).toNatClampNeg))) (cwV 2 hts gX5_quotient_X5_raised rfl rfl rfl (by decide +kernel) ⟨Nat.le_of_ble_eq_true rfl, Nat.le_of_ble_eq_true rfl⟩) rfl hl.1 rfl (Nat.le_of_ble_eq_true rfl) dX5_quotient_80 ⟨Nat.zero_le _, Nat.zero_le _⟩ (fun r_80 u_80 H locs hw_80 G => ?_)
      obtain ⟨f_80, rfl⟩ := raised_st hw_80
      refine lv_lstore_n (lv' := [(1, .long r_80), (5, .int (((σ.1 6) + (σ.2.2.1 3 ((σ.1 5) - 1).toNatClampNeg)) - (σ.2.2.1 3 ((σ.1 5) - 2).toNatClampNeg))), (3, .long (σ.2.2.2 2 ((σ.1 5) - 1).toNatClampNeg)), (0, .ref h)]) hx hb dX5_quotient_83 rfl hl (by decide) rfl (fun ls hl => ?_)
      refine lv_aload_n hx hb dX5_quotient_84 rfl (lv_at hl 3 rfl) ?_
      refine lv_lload_n hx hb dX5_quotient_85 rfl (lv_at hl 2 rfl) ?_
      refine lv_iload hx hb dX5_quotient_86 (lv_at hl 1 rfl) ?_
      refine lv_ineg hx hb dX5_quotient_88 ?_
      refine m_calll (As := [.long (σ.2.2.2 2 ((σ.1 5) - 1).toNatClampNeg), .int (-(((σ.1 6) + (σ.2.2.1 3 ((σ.1 5) - 1).toNatClampNeg)) - (σ.2.2.1 3 ((σ.1 5) - 2).toNatClampNeg)))]) (rest := []) X hml G hA (c_M_raised l dC dI cI cJ h ad _ (si σ 16 f_80) (σ.2.2.2 2 ((σ.1 5) - 1).toNatClampNeg) (-(((σ.1 6) + (σ.2.2.1 3 ((σ.1 5) - 1).toNatClampNeg)) - (σ.2.2.1 3 ((σ.1 5) - 2).toNatClampNeg)))) (cwV 2 hts gX5_quotient_X5_raised rfl rfl rfl (by decide +kernel) ⟨Nat.le_of_ble_eq_true rfl, Nat.le_of_ble_eq_true rfl⟩) rfl hl.1 rfl (Nat.le_of_ble_eq_true rfl) dX5_quotient_89 ⟨Nat.zero_le _, Nat.zero_le _⟩ (fun r_89 u_89 H locs hw_89 G => ?_)
      obtain ⟨f_89, rfl⟩ := raised_st hw_89
      refine lv_lstore_n (lv' := [(3, .long r_89), (1, .long r_80), (5, .int (((σ.1 6) + (σ.2.2.1 3 ((σ.1 5) - 1).toNatClampNeg)) - (σ.2.2.1 3 ((σ.1 5) - 2).toNatClampNeg))), (0, .ref h)]) hx hb dX5_quotient_92 rfl hl (by decide) rfl (fun ls hl => ?_)
      refine lv_aload_n hx hb dX5_quotient_93 rfl (lv_at hl 3 rfl) ?_
      refine m_get_16 X G (by decide +kernel) dX5_quotient_94 ?_
      refine lv_if_le (tgt := 102) hx hb dX5_quotient_97 (by decide) (fun c_97 => ?_) (fun c_97 => ?_)
      · have c_97 : f_89 ≤ 0 := c_97
        refine lv_aload_n hx hb dX5_quotient_102 rfl (lv_at hl 3 rfl) ?_
        refine lv_lload_n hx hb dX5_quotient_103 rfl (lv_at hl 1 rfl) ?_
        refine lv_lload_n hx hb dX5_quotient_104 rfl (lv_at hl 0 rfl) ?_
        refine lv_ldiv hx hb dX5_quotient_105 (raised_nz hw_89 c_37) ?_
        refine m_put_19 X G (by decide +kernel) dX5_quotient_106 (fun H locs G => ?_)
        refine lv_aload_n hx hb dX5_quotient_109 rfl (lv_at hl 3 rfl) ?_
        refine lv_aload_n hx hb dX5_quotient_110 rfl (lv_at hl 3 rfl) ?_
        refine m_get_6 X G (by decide +kernel) dX5_quotient_111 ?_
        refine m_put_20 X G (by decide +kernel) dX5_quotient_114 (fun H locs G => ?_)
        refine lv_iconst (v := 1) hx hb dX5_quotient_117 (by decide) ?_
        exact m_zret X G hr hlocks rfl (by simp only [F_quotient, hw_2, eq_false c_5, eq_false c_37, hw_80, hw_89, eq_true c_97, ↓reduceIte, si_self, sm_self, si_snd, sm_fst, si20_16, not_false_eq_true, not_true_eq_false, eq_self] <;> rfl) dX5_quotient_118
      · have c_97 : ¬ (f_89 ≤ 0) := c_97
        refine lv_iconst (v := 0) hx hb dX5_quotient_100 (by decide) ?_
        exact m_zret X G hr hlocks rfl (by simp only [F_quotient, hw_2, eq_false c_5, eq_false c_37, hw_80, hw_89, eq_false c_97, ↓reduceIte, si_self, sm_self, si_snd, sm_fst, si20_16, not_false_eq_true, not_true_eq_false, eq_self] <;> rfl) dX5_quotient_101
    · have c_37 := ((l_cmp_eq _ _).mp c_37)
      have c_37 : (σ.2.2.2 2 ((σ.1 5) - 1).toNatClampNeg) = 0 := c_37
      refine lv_aload_n hx hb dX5_quotient_40 rfl (lv_at hl 2 rfl) ?_
      refine lv_iconst (v := 4) hx hb dX5_quotient_41 (by decide) ?_
      refine m_calli (As := [.int 4]) (rest := []) X hml G hA (c_M_fail l dC dI cI cJ h ad _ σ 4) (cwV 1 hts gX5_quotient_X5_fail rfl rfl rfl (by decide +kernel) ⟨Nat.le_of_ble_eq_true rfl, Nat.le_of_ble_eq_true rfl⟩) rfl hl.1 rfl (Nat.le_of_ble_eq_true rfl) dX5_quotient_42 ⟨Nat.zero_le _, Nat.zero_le _⟩ (fun r_42 u_42 H locs hw_42 G => ?_)
      obtain ⟨rfl, rfl⟩ := hw_42
      exact m_zret X G hr hlocks rfl (by simp only [F_quotient, hw_2, eq_false c_5, eq_true c_37, ↓reduceIte, si_self, sm_self, si_snd, sm_fst, si20_16, not_false_eq_true, not_true_eq_false, eq_self] <;> rfl) dX5_quotient_45
  · have c_5 : r_2 = 0 := c_5
    refine lv_iconst (v := 0) hx hb dX5_quotient_8 (by decide) ?_
    exact m_zret X G hr hlocks rfl (by simp only [F_quotient, hw_2, eq_true c_5, ↓reduceIte, si_self, sm_self, si_snd, sm_fst, si20_16, not_false_eq_true, not_true_eq_false, eq_self] <;> rfl) dX5_quotient_9
theorem sf_refl (σ : MS) : sf σ σ := ⟨fun _ _ _ => rfl, rfl⟩
theorem sf_si16 {σ u : MS} {v : Int32} (h : sf σ u) : sf σ (si u 16 v) := ⟨fun k h1 h2 => by simp only [si, upd, h1, ↓reduceIte]; exact h.1 k h1 h2, h.2⟩
theorem sf_si20 {σ u : MS} {v : Int32} (h : sf σ u) : sf σ (si u 20 v) := ⟨fun k h1 h2 => by simp only [si, upd, h2, ↓reduceIte]; exact h.1 k h1 h2, h.2⟩
theorem sf_sm {σ u : MS} {v : Int64} (h : sf σ u) : sf σ (sm u v) := ⟨h.1, h.2⟩
theorem sf_numbersL {σ : MS} {n0 : Int32} : ∀ (fu : Nat) (k : Int32) (τ : MS), sf σ τ → sf σ (F_numbers_L12 n0 fu k τ).2 := by
  intro fu
  induction fu with
  | zero => intro k τ h; exact h
  | succ fu ih =>
    intro k τ h
    simp only [F_numbers_L12]
    split
    · exact h
    · split
      · exact ih _ _ h
      · exact sf_si16 h
theorem sf_numbers {σ u : MS} {n : Int32} (h : sf σ u) : sf σ (F_numbers u n).2 := by
  simp only [F_numbers]
  split
  · simp only [F_have]; split
    · exact h
    · exact sf_si16 h
  · exact sf_numbersL _ _ _ h
theorem sf_ex {σ u : MS} (h : sf σ u) : ∃ f m n, si (sm (si σ 16 f) m) 20 n = u := by
  obtain ⟨h1, h2⟩ := h
  refine ⟨u.1 16, u.2.1, u.1 20, ?_⟩
  obtain ⟨a, b, c⟩ := u
  obtain ⟨a0, b0, c0⟩ := σ
  simp only at h1 h2
  simp only [si, sm, Prod.mk.injEq, true_and]
  refine ⟨?_, h2.symm⟩
  funext k
  by_cases e1 : k = 20
  · simp [upd, e1]
  · by_cases e2 : k = 16
    · simp [upd, e2]
    · simp only [upd, e1, e2, ↓reduceIte]; exact (h1 k e2 e1).symm
theorem sf_sum {σ : MS} {b : Int32} : sf σ (F_sum σ b).2 := by
  unfold F_sum
  dsimp only
  repeat' split
  all_goals
    dsimp only
    repeat first | exact sf_refl _ | exact sf_numbers (sf_refl _) | apply sf_si16 | apply sf_si20 | apply sf_sm
theorem sum_st {σ u : MS} {r : Int32} {b : Int32} (h : F_sum σ b = (r, u)) : ∃ f m n, si (sm (si σ 16 f) m) 20 n = u := by
  refine sf_ex ?_
  have h1 := sf_sum (σ := σ) (b := b)
  rw [h] at h1; exact h1
theorem sum_ok {σ u : MS} {r : Int32} {b : Int32} (h : F_sum σ b = (r, u)) (hr : ¬ r = 0) : 2 ≤ (σ.1 5).toInt := by
  obtain ⟨a, b, hq⟩ : ∃ a b, F_numbers σ 2 = (a, b) := ⟨_, _, rfl⟩
  by_cases c : a = 0
  · simp only [F_sum, hq, c, ↓reduceIte, Prod.mk.injEq] at h
    exact absurd h.1.symm hr
  · exact (numbers_ok hq c).2
theorem sf_times {σ : MS} : sf σ (F_times σ).2 := by
  unfold F_times
  dsimp only
  repeat' split
  all_goals
    dsimp only
    repeat first | exact sf_refl _ | exact sf_numbers (sf_refl _) | apply sf_si16 | apply sf_si20 | apply sf_sm
theorem times_st {σ u : MS} {r : Int32} (h : F_times σ = (r, u)) : ∃ f m n, si (sm (si σ 16 f) m) 20 n = u := by
  refine sf_ex ?_
  have h1 := sf_times (σ := σ)
  rw [h] at h1; exact h1
theorem times_ok {σ u : MS} {r : Int32} (h : F_times σ = (r, u)) (hr : ¬ r = 0) : 2 ≤ (σ.1 5).toInt := by
  obtain ⟨a, b, hq⟩ : ∃ a b, F_numbers σ 2 = (a, b) := ⟨_, _, rfl⟩
  by_cases c : a = 0
  · simp only [F_times, hq, c, ↓reduceIte, Prod.mk.injEq] at h
    exact absurd h.1.symm hr
  · exact (numbers_ok hq c).2
theorem sf_quotient {σ : MS} : sf σ (F_quotient σ).2 := by
  unfold F_quotient
  dsimp only
  repeat' split
  all_goals
    dsimp only
    repeat first | exact sf_refl _ | exact sf_numbers (sf_refl _) | apply sf_si16 | apply sf_si20 | apply sf_sm
theorem quotient_st {σ u : MS} {r : Int32} (h : F_quotient σ = (r, u)) : ∃ f m n, si (sm (si σ 16 f) m) 20 n = u := by
  refine sf_ex ?_
  have h1 := sf_quotient (σ := σ)
  rw [h] at h1; exact h1
theorem quotient_ok {σ u : MS} {r : Int32} (h : F_quotient σ = (r, u)) (hr : ¬ r = 0) : 2 ≤ (σ.1 5).toInt := by
  obtain ⟨a, b, hq⟩ : ∃ a b, F_numbers σ 2 = (a, b) := ⟨_, _, rfl⟩
  by_cases c : a = 0
  · simp only [F_quotient, hq, c, ↓reduceIte, Prod.mk.injEq] at h
    exact absurd h.1.symm hr
  · exact (numbers_ok hq c).2
set_option maxHeartbeats 4000000 in
set_option maxRecDepth 100000 in
theorem c_M_rest (l : Launch) (dC : Nat → ClassId) (dI : Nat → Nat → Nat) (cI cJ : ClassId) (h : Nat) (ad : Nat → Nat) (sz : Nat) (σ : MS) (hd : (σ.1 5).toInt ≤ 40) : Met l yX5_rest wsX5_rest ({ frames := 4, cells := 0, slots := 0, locals := 89 } : Room) (va_Pc [.ref h] (mPre dC dI cI cJ h ad sz σ)) (va_Qi (fun r u => F_rest σ = (r, u)) (mAt dC dI cI cJ h ad (mA h ad cI cJ σ sz)) (mA h ad cI cJ σ sz)) 0 0 (mA h ad cI cJ σ sz) := by
  refine m_ofW (cc := cX5_rest) (maxL := 7) (ret := (some .boolean)) (by decide) rfl (by decide +kernel) rfl (Nat.le_of_ble_eq_true rfl) ?_
  intro p e s m below meth c X G hA hr hlocks hml ls hl
  have hl : lv_has ls 7 [(0, .ref h)] := hl
  have hx := X.1
  have hb := X.2.1
  have hts := X.2.2.1
  have hown := X.2.2.2.2.1
  refine lv_aload_n hx hb dX5_rest_0 rfl (lv_at hl 0 rfl) ?_
  refine m_calli (As := []) (rest := []) X hml G hA (c_M_quotient l dC dI cI cJ h ad _ σ hd) (cwV 0 hts gX5_rest_X5_quotient rfl rfl rfl (by decide +kernel) ⟨Nat.le_of_ble_eq_true rfl, Nat.le_of_ble_eq_true rfl⟩) rfl hl.1 rfl (Nat.le_of_ble_eq_true rfl) dX5_rest_1 ⟨Nat.zero_le _, Nat.zero_le _⟩ (fun r_1 u_1 H locs hw_1 G => ?_)
  obtain ⟨f_1, m_1, n_1, rfl⟩ := quotient_st hw_1
  refine lv_if_ne (tgt := 9) hx hb dX5_rest_4 (by decide) (fun c_4 => ?_) (fun c_4 => ?_)
  · have c_4 : ¬ (r_1 = 0) := c_4
    have hn := quotient_ok hw_1 c_4
    refine lv_aload_n hx hb dX5_rest_9 rfl (lv_at hl 0 rfl) ?_
    refine m_get_6 X G (by decide +kernel) dX5_rest_10 ?_
    refine lv_aload_n hx hb dX5_rest_13 rfl (lv_at hl 0 rfl) ?_
    refine m_get_3 X G (by decide +kernel) dX5_rest_14 ?_
    refine lv_aload_n hx hb dX5_rest_17 rfl (lv_at hl 0 rfl) ?_
    refine m_get_5 X G (by decide +kernel) dX5_rest_18 ?_
    refine lv_iconst (v := 1) hx hb dX5_rest_21 (by decide) ?_
    refine lv_isub hx hb dX5_rest_22 ?_
    refine m_ld_3 X G (vin (i_subE (rfl : (σ.1 5).toInt = _) (show (1 : Int32).toInt = 1 from rfl) (by omega) (by omega)) (by omega) (by omega)) dX5_rest_23 ?_
    refine lv_iadd hx hb dX5_rest_24 ?_
    refine lv_istore_n (lv' := [(1, .int ((σ.1 6) + (σ.2.2.1 3 ((σ.1 5) - 1).toNatClampNeg))), (0, .ref h)]) hx hb dX5_rest_25 rfl hl (by decide) rfl (fun ls hl => ?_)
    refine lv_aload_n hx hb dX5_rest_26 rfl (lv_at hl 1 rfl) ?_
    refine m_get_3 X G (by decide +kernel) dX5_rest_27 ?_
    refine lv_aload_n hx hb dX5_rest_30 rfl (lv_at hl 1 rfl) ?_
    refine m_get_5 X G (by decide +kernel) dX5_rest_31 ?_
    refine lv_iconst (v := 2) hx hb dX5_rest_34 (by decide) ?_
    refine lv_isub hx hb dX5_rest_35 ?_
    refine m_ld_3 X G (vin (i_subE (rfl : (σ.1 5).toInt = _) (show (2 : Int32).toInt = 2 from rfl) (by omega) (by omega)) (by omega) (by omega)) dX5_rest_36 ?_
    refine lv_istore_n (lv' := [(2, .int (σ.2.2.1 3 ((σ.1 5) - 2).toNatClampNeg)), (1, .int ((σ.1 6) + (σ.2.2.1 3 ((σ.1 5) - 1).toNatClampNeg))), (0, .ref h)]) hx hb dX5_rest_37 rfl hl (by decide) rfl (fun ls hl => ?_)
    refine lv_aload_n hx hb dX5_rest_38 rfl (lv_at hl 2 rfl) ?_
    refine lv_iload_n hx hb dX5_rest_39 rfl (lv_at hl 1 rfl) ?_
    refine lv_iload_n hx hb dX5_rest_40 rfl (lv_at hl 0 rfl) ?_
    refine W.callR (W.runS (As := [.int ((σ.1 6) + (σ.2.2.1 3 ((σ.1 5) - 1).toNatClampNeg)), .int (σ.2.2.1 3 ((σ.1 5) - 2).toNatClampNeg)]) (rest := [.ref h]) ⟨hx, hb, hml, hown, hts⟩ (c_M_greater l ((σ.1 6) + (σ.2.2.1 3 ((σ.1 5) - 1).toNatClampNeg)) (σ.2.2.1 3 ((σ.1 5) - 2).toNatClampNeg)) (va_cwS 2 hts gX5_rest_X5_greater rfl rfl rfl (by decide +kernel) ⟨Nat.le_of_ble_eq_true rfl, Nat.le_of_ble_eq_true rfl⟩) ⟨fun a U g mk q => q, fun U _ _ => ⟨rfl, trivial⟩⟩ rfl rfl hl.1 rfl (lv_room (Nat.le_of_ble_eq_true rfl)) dX5_rest_41 ⟨Nat.zero_le _, Nat.zero_le _⟩) ?_
    refine W.eq (g2 := F0 m 44 ls [.int (f_greater ((σ.1 6) + (σ.2.2.1 3 ((σ.1 5) - 1).toNatClampNeg)) (σ.2.2.1 3 ((σ.1 5) - 2).toNatClampNeg)), .ref h]) rfl ?_
    refine m_put_20 X G (by decide +kernel) dX5_rest_44 (fun H locs G => ?_)
    refine lv_aload_n hx hb dX5_rest_47 rfl (lv_at hl 2 rfl) ?_
    refine lv_aload_n hx hb dX5_rest_48 rfl (lv_at hl 2 rfl) ?_
    refine lv_aload_n hx hb dX5_rest_49 rfl (lv_at hl 2 rfl) ?_
    refine m_get_19 X G (by decide +kernel) dX5_rest_50 ?_
    refine lv_aload_n hx hb dX5_rest_53 rfl (lv_at hl 2 rfl) ?_
    refine m_get_2 X G (by decide +kernel) dX5_rest_54 ?_
    refine lv_aload_n hx hb dX5_rest_57 rfl (lv_at hl 2 rfl) ?_
    refine m_get_5 X G (by decide +kernel) dX5_rest_58 ?_
    refine lv_iconst (v := 1) hx hb dX5_rest_61 (by decide) ?_
    refine lv_isub hx hb dX5_rest_62 ?_
    refine m_ld_2 X G (vin (i_subE (rfl : (σ.1 5).toInt = _) (show (1 : Int32).toInt = 1 from rfl) (by omega) (by omega)) (by omega) (by omega)) dX5_rest_63 ?_
    refine m_calll (As := [.long m_1, .long (σ.2.2.2 2 ((σ.1 5) - 1).toNatClampNeg)]) (rest := [.ref h]) X hml G hA (c_M_product l dC dI cI cJ h ad _ (si (si (sm (si σ 16 f_1) m_1) 20 n_1) 20 (f_greater ((σ.1 6) + (σ.2.2.1 3 ((σ.1 5) - 1).toNatClampNeg)) (σ.2.2.1 3 ((σ.1 5) - 2).toNatClampNeg))) m_1 (σ.2.2.2 2 ((σ.1 5) - 1).toNatClampNeg)) (cwV 2 hts gX5_rest_X5_product rfl rfl rfl (by decide +kernel) ⟨Nat.le_of_ble_eq_true rfl, Nat.le_of_ble_eq_true rfl⟩) rfl hl.1 rfl (Nat.le_of_ble_eq_true rfl) dX5_rest_64 ⟨Nat.zero_le _, Nat.zero_le _⟩ (fun r_64 u_64 H locs hw_64 G => ?_)
    obtain ⟨f_64, rfl⟩ := product_st hw_64
    refine lv_aload_n hx hb dX5_rest_67 rfl (lv_at hl 2 rfl) ?_
    refine m_get_20 X G (by decide +kernel) dX5_rest_68 ?_
    refine lv_iload_n hx hb dX5_rest_71 rfl (lv_at hl 1 rfl) ?_
    refine lv_isub hx hb dX5_rest_72 ?_
    refine m_calll (As := [.long r_64, .int ((f_greater ((σ.1 6) + (σ.2.2.1 3 ((σ.1 5) - 1).toNatClampNeg)) (σ.2.2.1 3 ((σ.1 5) - 2).toNatClampNeg)) - ((σ.1 6) + (σ.2.2.1 3 ((σ.1 5) - 1).toNatClampNeg)))]) (rest := []) X hml G hA (c_M_raised l dC dI cI cJ h ad _ (si (si (si (sm (si σ 16 f_1) m_1) 20 n_1) 20 (f_greater ((σ.1 6) + (σ.2.2.1 3 ((σ.1 5) - 1).toNatClampNeg)) (σ.2.2.1 3 ((σ.1 5) - 2).toNatClampNeg))) 16 f_64) r_64 ((f_greater ((σ.1 6) + (σ.2.2.1 3 ((σ.1 5) - 1).toNatClampNeg)) (σ.2.2.1 3 ((σ.1 5) - 2).toNatClampNeg)) - ((σ.1 6) + (σ.2.2.1 3 ((σ.1 5) - 1).toNatClampNeg)))) (cwV 2 hts gX5_rest_X5_raised rfl rfl rfl (by decide +kernel) ⟨Nat.le_of_ble_eq_true rfl, Nat.le_of_ble_eq_true rfl⟩) rfl hl.1 rfl (Nat.le_of_ble_eq_true rfl) dX5_rest_73 ⟨Nat.zero_le _, Nat.zero_le _⟩ (fun r_73 u_73 H locs hw_73 G => ?_)
    obtain ⟨f_73, rfl⟩ := raised_st hw_73
    refine lv_lstore_n (lv' := [(3, .long r_73), (2, .int (σ.2.2.1 3 ((σ.1 5) - 2).toNatClampNeg)), (1, .int ((σ.1 6) + (σ.2.2.1 3 ((σ.1 5) - 1).toNatClampNeg))), (0, .ref h)]) hx hb dX5_rest_76 rfl hl (by decide) rfl (fun ls hl => ?_)
    refine lv_aload_n hx hb dX5_rest_77 rfl (lv_at hl 3 rfl) ?_
    refine lv_aload_n hx hb dX5_rest_78 rfl (lv_at hl 3 rfl) ?_
    refine m_get_2 X G (by decide +kernel) dX5_rest_79 ?_
    refine lv_aload_n hx hb dX5_rest_82 rfl (lv_at hl 3 rfl) ?_
    refine m_get_5 X G (by decide +kernel) dX5_rest_83 ?_
    refine lv_iconst (v := 2) hx hb dX5_rest_86 (by decide) ?_
    refine lv_isub hx hb dX5_rest_87 ?_
    refine m_ld_2 X G (vin (i_subE (rfl : (σ.1 5).toInt = _) (show (2 : Int32).toInt = 2 from rfl) (by omega) (by omega)) (by omega) (by omega)) dX5_rest_88 ?_
    refine lv_aload_n hx hb dX5_rest_89 rfl (lv_at hl 3 rfl) ?_
    refine m_get_20 X G (by decide +kernel) dX5_rest_90 ?_
    refine lv_iload_n hx hb dX5_rest_93 rfl (lv_at hl 1 rfl) ?_
    refine lv_isub hx hb dX5_rest_94 ?_
    refine m_calll (As := [.long (σ.2.2.2 2 ((σ.1 5) - 2).toNatClampNeg), .int ((f_greater ((σ.1 6) + (σ.2.2.1 3 ((σ.1 5) - 1).toNatClampNeg)) (σ.2.2.1 3 ((σ.1 5) - 2).toNatClampNeg)) - (σ.2.2.1 3 ((σ.1 5) - 2).toNatClampNeg))]) (rest := []) X hml G hA (c_M_raised l dC dI cI cJ h ad _ (si (si (si (si (sm (si σ 16 f_1) m_1) 20 n_1) 20 (f_greater ((σ.1 6) + (σ.2.2.1 3 ((σ.1 5) - 1).toNatClampNeg)) (σ.2.2.1 3 ((σ.1 5) - 2).toNatClampNeg))) 16 f_64) 16 f_73) (σ.2.2.2 2 ((σ.1 5) - 2).toNatClampNeg) ((f_greater ((σ.1 6) + (σ.2.2.1 3 ((σ.1 5) - 1).toNatClampNeg)) (σ.2.2.1 3 ((σ.1 5) - 2).toNatClampNeg)) - (σ.2.2.1 3 ((σ.1 5) - 2).toNatClampNeg))) (cwV 2 hts gX5_rest_X5_raised rfl rfl rfl (by decide +kernel) ⟨Nat.le_of_ble_eq_true rfl, Nat.le_of_ble_eq_true rfl⟩) rfl hl.1 rfl (Nat.le_of_ble_eq_true rfl) dX5_rest_95 ⟨Nat.zero_le _, Nat.zero_le _⟩ (fun r_95 u_95 H locs hw_95 G => ?_)
    obtain ⟨f_95, rfl⟩ := raised_st hw_95
    refine lv_lstore (lv' := [(5, .long r_95), (3, .long r_73), (2, .int (σ.2.2.1 3 ((σ.1 5) - 2).toNatClampNeg)), (1, .int ((σ.1 6) + (σ.2.2.1 3 ((σ.1 5) - 1).toNatClampNeg))), (0, .ref h)]) hx hb dX5_rest_98 hl (by decide) rfl (fun ls hl => ?_)
    refine lv_aload_n hx hb dX5_rest_100 rfl (lv_at hl 4 rfl) ?_
    refine lv_lload hx hb dX5_rest_101 (lv_at hl 0 rfl) ?_
    refine lv_lload_n hx hb dX5_rest_103 rfl (lv_at hl 1 rfl) ?_
    refine lv_lsub hx hb dX5_rest_104 ?_
    refine m_put_19 X G (by decide +kernel) dX5_rest_105 (fun H locs G => ?_)
    refine lv_aload_n hx hb dX5_rest_108 rfl (lv_at hl 4 rfl) ?_
    refine m_get_16 X G (by decide +kernel) dX5_rest_109 ?_
    refine lv_if_ne (tgt := 139) hx hb dX5_rest_112 (by decide) (fun c_112 => ?_) (fun c_112 => ?_)
    · have c_112 : ¬ (f_95 = 0) := c_112
      refine lv_aload_n hx hb dX5_rest_139 rfl (lv_at hl 4 rfl) ?_
      refine m_get_16 X G (by decide +kernel) dX5_rest_140 ?_
      refine lv_if_ne (tgt := 150) hx hb dX5_rest_143 (by decide) (fun c9 => ?_) (fun c9 => absurd c9 c_112)
      refine lv_iconst (v := 0) hx hb dX5_rest_150 (by decide) ?_
      exact m_zret X G hr hlocks rfl (by simp only [F_rest, hw_1, eq_false c_4, hw_64, hw_73, hw_95, eq_false c_112, ↓reduceIte, si_self, sm_self, si_snd, sm_fst, si20_16, not_false_eq_true, not_true_eq_false, eq_self] <;> rfl) dX5_rest_151
    · have c_112 : f_95 = 0 := c_112
      refine lv_aload_n hx hb dX5_rest_115 rfl (lv_at hl 4 rfl) ?_
      refine m_get_20 X G (by decide +kernel) dX5_rest_116 ?_
      refine lv_bipush (v := 9) hx hb dX5_rest_119 (by decide) ?_
      refine lv_icmp_gt (tgt := 134) hx hb dX5_rest_121 (by decide) (fun c_121 => ?_) (fun c_121 => ?_)
      · have c_121 : 9 < (f_greater ((σ.1 6) + (σ.2.2.1 3 ((σ.1 5) - 1).toNatClampNeg)) (σ.2.2.1 3 ((σ.1 5) - 2).toNatClampNeg)) := c_121
        refine lv_aload_n hx hb dX5_rest_134 rfl (lv_at hl 4 rfl) ?_
        refine lv_iconst (v := 5) hx hb dX5_rest_135 (by decide) ?_
        refine m_put_16 X G (by decide +kernel) dX5_rest_136 (fun H locs G => ?_)
        refine lv_aload_n hx hb dX5_rest_139 rfl (lv_at hl 4 rfl) ?_
        refine m_get_16 X G (by decide +kernel) dX5_rest_140 ?_
        refine lv_if_ne (tgt := 150) hx hb dX5_rest_143 (by decide) (fun c9 => ?_) (fun c9 => absurd c9 (show ¬ ((5 : Int32) = 0) from by decide))
        refine lv_iconst (v := 0) hx hb dX5_rest_150 (by decide) ?_
        exact m_zret X G hr hlocks rfl (by simp only [F_rest, hw_1, eq_false c_4, hw_64, hw_73, hw_95, eq_true c_112, eq_true c_121, ↓reduceIte, si_self, sm_self, si_snd, sm_fst, si20_16, not_false_eq_true, not_true_eq_false, eq_self] <;> rfl) dX5_rest_151
      · have c_121 : ¬ (9 < (f_greater ((σ.1 6) + (σ.2.2.1 3 ((σ.1 5) - 1).toNatClampNeg)) (σ.2.2.1 3 ((σ.1 5) - 2).toNatClampNeg))) := c_121
        refine lv_aload_n hx hb dX5_rest_124 rfl (lv_at hl 4 rfl) ?_
        refine m_get_19 X G (by decide +kernel) dX5_rest_125 ?_
        refine W.callR (W.runS (As := [.long (r_95 - r_73)]) (rest := []) ⟨hx, hb, hml, hown, hts⟩ (c_M_isBig l (r_95 - r_73)) (va_cwS 1 hts gX5_rest_X5_isBig rfl rfl rfl (by decide +kernel) ⟨Nat.le_of_ble_eq_true rfl, Nat.le_of_ble_eq_true rfl⟩) ⟨fun a U g mk q => q, fun U _ _ => ⟨rfl, trivial⟩⟩ rfl rfl hl.1 rfl (lv_room (Nat.le_of_ble_eq_true rfl)) dX5_rest_128 ⟨Nat.zero_le _, Nat.zero_le _⟩) ?_
        refine W.eq (g2 := F0 m 131 ls [.int (f_isBig (r_95 - r_73))]) rfl ?_
        refine lv_if_eq (tgt := 139) hx hb dX5_rest_131 (by decide) (fun c_131 => ?_) (fun c_131 => ?_)
        · have c_131 : (f_isBig (r_95 - r_73)) = 0 := c_131
          refine lv_aload_n hx hb dX5_rest_139 rfl (lv_at hl 4 rfl) ?_
          refine m_get_16 X G (by decide +kernel) dX5_rest_140 ?_
          refine lv_if_ne (tgt := 150) hx hb dX5_rest_143 (by decide) (fun c9 => absurd (show f_95 = 0 from by rw [c_112] <;> decide) c9) (fun c9 => ?_)
          refine lv_iconst (v := 1) hx hb dX5_rest_146 (by decide) ?_
          refine lv_goto (tgt := 151) hx hb dX5_rest_147 (by decide) ?_
          exact m_zret X G hr hlocks rfl (by simp only [F_rest, hw_1, eq_false c_4, hw_64, hw_73, hw_95, eq_true c_112, eq_false c_121, eq_true c_131, ↓reduceIte, si_self, sm_self, si_snd, sm_fst, si20_16, not_false_eq_true, not_true_eq_false, eq_self] <;> rfl) dX5_rest_151
        · have c_131 : ¬ ((f_isBig (r_95 - r_73)) = 0) := c_131
          refine lv_aload_n hx hb dX5_rest_134 rfl (lv_at hl 4 rfl) ?_
          refine lv_iconst (v := 5) hx hb dX5_rest_135 (by decide) ?_
          refine m_put_16 X G (by decide +kernel) dX5_rest_136 (fun H locs G => ?_)
          refine lv_aload_n hx hb dX5_rest_139 rfl (lv_at hl 4 rfl) ?_
          refine m_get_16 X G (by decide +kernel) dX5_rest_140 ?_
          refine lv_if_ne (tgt := 150) hx hb dX5_rest_143 (by decide) (fun c9 => ?_) (fun c9 => absurd c9 (show ¬ ((5 : Int32) = 0) from by decide))
          refine lv_iconst (v := 0) hx hb dX5_rest_150 (by decide) ?_
          exact m_zret X G hr hlocks rfl (by simp only [F_rest, hw_1, eq_false c_4, hw_64, hw_73, hw_95, eq_true c_112, eq_false c_121, eq_false c_131, ↓reduceIte, si_self, sm_self, si_snd, sm_fst, si20_16, not_false_eq_true, not_true_eq_false, eq_self] <;> rfl) dX5_rest_151
  · have c_4 : r_1 = 0 := c_4
    refine lv_iconst (v := 0) hx hb dX5_rest_7 (by decide) ?_
    exact m_zret X G hr hlocks rfl (by simp only [F_rest, hw_1, eq_true c_4, ↓reduceIte, si_self, sm_self, si_snd, sm_fst, si20_16, not_false_eq_true, not_true_eq_false, eq_self] <;> rfl) dX5_rest_8
theorem sf_rest {σ : MS} : sf σ (F_rest σ).2 := by
  unfold F_rest
  dsimp only
  repeat' split
  all_goals
    dsimp only
    repeat first | exact sf_refl _ | exact sf_numbers (sf_refl _) | apply sf_si16 | apply sf_si20 | apply sf_sm
theorem rest_st {σ u : MS} {r : Int32} (h : F_rest σ = (r, u)) : ∃ f m n, si (sm (si σ 16 f) m) 20 n = u := by
  refine sf_ex ?_
  have h1 := sf_rest (σ := σ)
  rw [h] at h1; exact h1
theorem rest_ok {σ u : MS} {r : Int32} (h : F_rest σ = (r, u)) (hr : ¬ r = 0) : 2 ≤ (σ.1 5).toInt := by
  obtain ⟨a, b, hq⟩ : ∃ a b, F_quotient σ = (a, b) := ⟨_, _, rfl⟩
  by_cases c : a = 0
  · simp only [F_rest, hq, c, ↓reduceIte, Prod.mk.injEq] at h
    exact absurd h.1.symm hr
  · exact quotient_ok hq c
set_option maxHeartbeats 4000000 in
set_option maxRecDepth 100000 in
theorem c_M_root_L107 {p : Program} (l : Launch) {e : Env} {s : State} {m : MethodId} {below : List Frame} {meth : Method} {c : Code} {dC : Nat → ClassId} {dI : Nat → Nat → Nat} {cI cJ : ClassId} {h : Nat} {ad : Nat → Nat} {sz : Nat} (σ : MS) (hd : (σ.1 5).toInt ≤ 40) (X : mX p s m ([.ref h] : List Value).toArray c cX5_root wsX5_root dC dI cI cJ) (hA : ∀ q : Nat, s.heap.size ≤ q → mA h ad cI cJ σ sz q) (hr : meth.sig.returnType = (some .boolean)) (hlocks : meth.locks = false) (hml : c.maxLocals = 10) :
    ∀ (fu : Nat) (y1 : Int64) (l1 : Int64) (h1 : Int64) (k1 : Int32) (τ : MS), F_root σ = F_root_L107 fu y1 l1 h1 k1 τ → (((40 : Int32).toInt - k1.toInt).toNat < fu) → ∀ (H : Heap) (locs : List Loc), mH dC dI h ad cI cJ τ (mA h ad cI cJ σ sz) s.heap H locs → ∀ ls : Array Slot, lv_has ls 10 [(0, .ref h), (1, .long y1), (3, .long l1), (5, .long h1), (7, .int k1)] → W p l e ({ frames := 3, cells := 0, slots := 0, locals := 64 } : Room) s m ([.ref h] : List Value).toArray below meth c H locs 0 0 (MQ below (va_Qi (fun r u => F_root σ = (r, u)) (mAt dC dI cI cJ h ad (mA h ad cI cJ σ sz)) (mA h ad cI cJ σ sz)) ([.ref h] : List Value).toArray s 0 0 (mA h ad cI cJ σ sz)) (F0 m 107 ls []) := by
  have hx := X.1
  have hb := X.2.1
  have hts := X.2.2.1
  have hown := X.2.2.2.2.1
  intro fu
  induction fu with
  | zero =>
    intro y1 l1 h1 k1 τ hI hm
    exact absurd hm (Nat.not_lt_zero _)
  | succ fu ih =>
    intro y1 l1 h1 k1 τ hI hm H locs G ls hl
    refine lv_iload hx hb dX5_root_107 (lv_at hl 4 rfl) ?_
    refine lv_bipush (v := 40) hx hb dX5_root_109 (by decide) ?_
    refine lv_icmp_ge (tgt := 161) hx hb dX5_root_111 (by decide) (fun c_111 => ?_) (fun c_111 => ?_)
    · have c_111 : 40 ≤ k1 := c_111
      refine lv_aload_n hx hb dX5_root_161 rfl (lv_at hl 0 rfl) ?_
      refine lv_lload_n hx hb dX5_root_162 rfl (lv_at hl 2 rfl) ?_
      refine m_put_19 X G (by decide +kernel) dX5_root_163 (fun H locs G => ?_)
      refine lv_iconst (v := 1) hx hb dX5_root_166 (by decide) ?_
      exact m_zret X G hr hlocks rfl (by rw [hI]; simp only [F_root_L107, eq_true c_111, ↓reduceIte, si_self, sm_self, si_snd, sm_fst, si20_16, not_false_eq_true, not_true_eq_false, eq_self] <;> rfl) dX5_root_167
    · have c_111 : ¬ (40 ≤ k1) := c_111
      refine lv_lload_n hx hb dX5_root_114 rfl (lv_at hl 2 rfl) ?_
      refine lv_lload hx hb dX5_root_115 (lv_at hl 3 rfl) ?_
      refine W.lcmp hx hb dX5_root_117 ?_
      refine lv_if_ge (tgt := 161) hx hb dX5_root_118 (by decide) (fun c_118 => ?_) (fun c_118 => ?_)
      · have c_118 := ((l_cmp_ge _ _).mp c_118)
        have c_118 : h1 ≤ l1 := c_118
        refine lv_aload_n hx hb dX5_root_161 rfl (lv_at hl 0 rfl) ?_
        refine lv_lload_n hx hb dX5_root_162 rfl (lv_at hl 2 rfl) ?_
        refine m_put_19 X G (by decide +kernel) dX5_root_163 (fun H locs G => ?_)
        refine lv_iconst (v := 1) hx hb dX5_root_166 (by decide) ?_
        exact m_zret X G hr hlocks rfl (by rw [hI]; simp only [F_root_L107, eq_false c_111, eq_true c_118, ↓reduceIte, si_self, sm_self, si_snd, sm_fst, si20_16, not_false_eq_true, not_true_eq_false, eq_self] <;> rfl) dX5_root_167
      · have c_118 := (mt (l_cmp_ge _ _).mpr c_118)
        have c_118 : ¬ (h1 ≤ l1) := c_118
        refine lv_lload_n hx hb dX5_root_121 rfl (lv_at hl 2 rfl) ?_
        refine lv_lload hx hb dX5_root_122 (lv_at hl 3 rfl) ?_
        refine lv_ladd hx hb dX5_root_124 ?_
        refine lv_lconst (v := 1) hx hb dX5_root_125 (by decide) ?_
        refine lv_ladd hx hb dX5_root_126 ?_
        refine lv_ldc2 (v := 2) hx hb hown (hts (.constantLong RX5 109 (2)) (by decide +kernel)) dX5_root_127 ?_
        refine lv_ldiv hx hb dX5_root_130 (by decide) ?_
        refine lv_lstore (lv' := [(8, .long (((l1 + h1) + 1) / 2)), (0, .ref h), (1, .long y1), (3, .long l1), (5, .long h1), (7, .int k1)]) hx hb dX5_root_131 hl (by decide) rfl (fun ls hl => ?_)
        refine lv_lload hx hb dX5_root_133 (lv_at hl 0 rfl) ?_
        refine lv_lload hx hb dX5_root_135 (lv_at hl 0 rfl) ?_
        refine lv_lmul hx hb dX5_root_137 ?_
        refine lv_lload_n hx hb dX5_root_138 rfl (lv_at hl 2 rfl) ?_
        refine W.lcmp hx hb dX5_root_139 ?_
        refine lv_if_gt (tgt := 149) hx hb dX5_root_140 (by decide) (fun c_140 => ?_) (fun c_140 => ?_)
        · have c_140 := ((l_cmp_gt _ _).mp c_140)
          have c_140 : y1 < ((((l1 + h1) + 1) / 2) * (((l1 + h1) + 1) / 2)) := c_140
          refine lv_lload hx hb dX5_root_149 (lv_at hl 0 rfl) ?_
          refine lv_lconst (v := 1) hx hb dX5_root_151 (by decide) ?_
          refine lv_lsub hx hb dX5_root_152 ?_
          refine lv_lstore (lv' := [(5, .long ((((l1 + h1) + 1) / 2) - 1)), (8, .long (((l1 + h1) + 1) / 2)), (0, .ref h), (1, .long y1), (3, .long l1), (7, .int k1)]) hx hb dX5_root_153 hl (by decide) rfl (fun ls hl => ?_)
          refine lv_iinc (v := (k1 + 1)) (lv' := [(7, .int (k1 + 1)), (5, .long ((((l1 + h1) + 1) / 2) - 1)), (8, .long (((l1 + h1) + 1) / 2)), (0, .ref h), (1, .long y1), (3, .long l1)]) hx hb dX5_root_155 hl (k := 5) rfl rfl (by decide) rfl (fun ls hl => ?_)
          refine lv_goto (tgt := 107) hx hb dX5_root_158 (by decide) ?_
          exact ih y1 l1 ((((l1 + h1) + 1) / 2) - 1) (k1 + 1) τ (by rw [hI]; simp only [F_root_L107, eq_false c_111, eq_false c_118, eq_true c_140, ↓reduceIte, si_self, sm_self, si_snd, sm_fst, si20_16, not_false_eq_true, not_true_eq_false, eq_self] <;> rfl) (mu_inc hm c_111) H locs G ls (lv_sub hl [3, 4, 5, 1, 0] rfl)
        · have c_140 := (mt (l_cmp_gt _ _).mpr c_140)
          have c_140 : ¬ (y1 < ((((l1 + h1) + 1) / 2) * (((l1 + h1) + 1) / 2))) := c_140
          refine lv_lload hx hb dX5_root_143 (lv_at hl 0 rfl) ?_
          refine lv_lstore_n (lv' := [(3, .long (((l1 + h1) + 1) / 2)), (8, .long (((l1 + h1) + 1) / 2)), (0, .ref h), (1, .long y1), (5, .long h1), (7, .int k1)]) hx hb dX5_root_145 rfl hl (by decide) rfl (fun ls hl => ?_)
          refine lv_goto (tgt := 155) hx hb dX5_root_146 (by decide) ?_
          refine lv_iinc (v := (k1 + 1)) (lv' := [(7, .int (k1 + 1)), (3, .long (((l1 + h1) + 1) / 2)), (8, .long (((l1 + h1) + 1) / 2)), (0, .ref h), (1, .long y1), (5, .long h1)]) hx hb dX5_root_155 hl (k := 5) rfl rfl (by decide) rfl (fun ls hl => ?_)
          refine lv_goto (tgt := 107) hx hb dX5_root_158 (by decide) ?_
          exact ih y1 (((l1 + h1) + 1) / 2) h1 (k1 + 1) τ (by rw [hI]; simp only [F_root_L107, eq_false c_111, eq_false c_118, eq_false c_140, ↓reduceIte, si_self, sm_self, si_snd, sm_fst, si20_16, not_false_eq_true, not_true_eq_false, eq_self] <;> rfl) (mu_inc hm c_111) H locs G ls (lv_sub hl [3, 4, 1, 5, 0] rfl)
set_option maxHeartbeats 4000000 in
set_option maxRecDepth 100000 in
theorem c_M_root (l : Launch) (dC : Nat → ClassId) (dI : Nat → Nat → Nat) (cI cJ : ClassId) (h : Nat) (ad : Nat → Nat) (sz : Nat) (σ : MS) (hd : (σ.1 5).toInt ≤ 40) : Met l yX5_root wsX5_root ({ frames := 3, cells := 0, slots := 0, locals := 64 } : Room) (va_Pc [.ref h] (mPre dC dI cI cJ h ad sz σ)) (va_Qi (fun r u => F_root σ = (r, u)) (mAt dC dI cI cJ h ad (mA h ad cI cJ σ sz)) (mA h ad cI cJ σ sz)) 0 0 (mA h ad cI cJ σ sz) := by
  refine m_ofW (cc := cX5_root) (maxL := 10) (ret := (some .boolean)) (by decide) rfl (by decide +kernel) rfl (Nat.le_of_ble_eq_true rfl) ?_
  intro p e s m below meth c X G hA hr hlocks hml ls hl
  have hl : lv_has ls 10 [(0, .ref h)] := hl
  have hx := X.1
  have hb := X.2.1
  have hts := X.2.2.1
  have hown := X.2.2.2.2.1
  refine lv_aload_n hx hb dX5_root_0 rfl (lv_at hl 0 rfl) ?_
  refine lv_iconst (v := 1) hx hb dX5_root_1 (by decide) ?_
  refine m_calli (As := [.int 1]) (rest := []) X hml G hA (c_M_numbers l dC dI cI cJ h ad _ σ 1 (by decide) hd) (cwV 1 hts gX5_root_X5_numbers rfl rfl rfl (by decide +kernel) ⟨Nat.le_of_ble_eq_true rfl, Nat.le_of_ble_eq_true rfl⟩) rfl hl.1 rfl (Nat.le_of_ble_eq_true rfl) dX5_root_2 ⟨Nat.zero_le _, Nat.zero_le _⟩ (fun r_2 u_2 H locs hw_2 G => ?_)
  refine lv_if_ne (tgt := 10) hx hb dX5_root_5 (by decide) (fun c_5 => ?_) (fun c_5 => ?_)
  · have c_5 : ¬ (r_2 = 0) := c_5
    obtain ⟨rfl, hn⟩ := numbers_ok hw_2 c_5
    have hn : 1 ≤ (σ.1 5).toInt := hn
    refine lv_aload_n hx hb dX5_root_10 rfl (lv_at hl 0 rfl) ?_
    refine m_get_2 X G (by decide +kernel) dX5_root_11 ?_
    refine lv_aload_n hx hb dX5_root_14 rfl (lv_at hl 0 rfl) ?_
    refine m_get_5 X G (by decide +kernel) dX5_root_15 ?_
    refine lv_iconst (v := 1) hx hb dX5_root_18 (by decide) ?_
    refine lv_isub hx hb dX5_root_19 ?_
    refine m_ld_2 X G (vin (i_subE (rfl : (σ.1 5).toInt = _) (show (1 : Int32).toInt = 1 from rfl) (by omega) (by omega)) (by omega) (by omega)) dX5_root_20 ?_
    refine lv_lconst (v := 0) hx hb dX5_root_21 (by decide) ?_
    refine W.lcmp hx hb dX5_root_22 ?_
    refine lv_if_ge (tgt := 32) hx hb dX5_root_23 (by decide) (fun c_23 => ?_) (fun c_23 => ?_)
    · have c_23 := ((l_cmp_ge _ _).mp c_23)
      have c_23 : 0 ≤ (σ.2.2.2 2 ((σ.1 5) - 1).toNatClampNeg) := c_23
      refine lv_aload_n hx hb dX5_root_32 rfl (lv_at hl 0 rfl) ?_
      refine lv_aload_n hx hb dX5_root_33 rfl (lv_at hl 0 rfl) ?_
      refine m_get_6 X G (by decide +kernel) dX5_root_34 ?_
      refine lv_aload_n hx hb dX5_root_37 rfl (lv_at hl 0 rfl) ?_
      refine m_get_3 X G (by decide +kernel) dX5_root_38 ?_
      refine lv_aload_n hx hb dX5_root_41 rfl (lv_at hl 0 rfl) ?_
      refine m_get_5 X G (by decide +kernel) dX5_root_42 ?_
      refine lv_iconst (v := 1) hx hb dX5_root_45 (by decide) ?_
      refine lv_isub hx hb dX5_root_46 ?_
      refine m_ld_3 X G (vin (i_subE (rfl : (σ.1 5).toInt = _) (show (1 : Int32).toInt = 1 from rfl) (by omega) (by omega)) (by omega) (by omega)) dX5_root_47 ?_
      refine W.callR (W.runS (As := [.int (σ.1 6), .int (σ.2.2.1 3 ((σ.1 5) - 1).toNatClampNeg)]) (rest := [.ref h]) ⟨hx, hb, hml, hown, hts⟩ (c_M_greater l (σ.1 6) (σ.2.2.1 3 ((σ.1 5) - 1).toNatClampNeg)) (va_cwS 2 hts gX5_root_X5_greater rfl rfl rfl (by decide +kernel) ⟨Nat.le_of_ble_eq_true rfl, Nat.le_of_ble_eq_true rfl⟩) ⟨fun a U g mk q => q, fun U _ _ => ⟨rfl, trivial⟩⟩ rfl rfl hl.1 rfl (lv_room (Nat.le_of_ble_eq_true rfl)) dX5_root_48 ⟨Nat.zero_le _, Nat.zero_le _⟩) ?_
      refine W.eq (g2 := F0 m 51 ls [.int (f_greater (σ.1 6) (σ.2.2.1 3 ((σ.1 5) - 1).toNatClampNeg)), .ref h]) rfl ?_
      refine m_put_20 X G (by decide +kernel) dX5_root_51 (fun H locs G => ?_)
      refine lv_aload_n hx hb dX5_root_54 rfl (lv_at hl 0 rfl) ?_
      refine lv_aload_n hx hb dX5_root_55 rfl (lv_at hl 0 rfl) ?_
      refine m_get_2 X G (by decide +kernel) dX5_root_56 ?_
      refine lv_aload_n hx hb dX5_root_59 rfl (lv_at hl 0 rfl) ?_
      refine m_get_5 X G (by decide +kernel) dX5_root_60 ?_
      refine lv_iconst (v := 1) hx hb dX5_root_63 (by decide) ?_
      refine lv_isub hx hb dX5_root_64 ?_
      refine m_ld_2 X G (vin (i_subE (rfl : (σ.1 5).toInt = _) (show (1 : Int32).toInt = 1 from rfl) (by omega) (by omega)) (by omega) (by omega)) dX5_root_65 ?_
      refine lv_iconst (v := 2) hx hb dX5_root_66 (by decide) ?_
      refine lv_aload_n hx hb dX5_root_67 rfl (lv_at hl 0 rfl) ?_
      refine m_get_20 X G (by decide +kernel) dX5_root_68 ?_
      refine lv_imul hx hb dX5_root_71 ?_
      refine lv_aload_n hx hb dX5_root_72 rfl (lv_at hl 0 rfl) ?_
      refine m_get_3 X G (by decide +kernel) dX5_root_73 ?_
      refine lv_aload_n hx hb dX5_root_76 rfl (lv_at hl 0 rfl) ?_
      refine m_get_5 X G (by decide +kernel) dX5_root_77 ?_
      refine lv_iconst (v := 1) hx hb dX5_root_80 (by decide) ?_
      refine lv_isub hx hb dX5_root_81 ?_
      refine m_ld_3 X G (vin (i_subE (rfl : (σ.1 5).toInt = _) (show (1 : Int32).toInt = 1 from rfl) (by omega) (by omega)) (by omega) (by omega)) dX5_root_82 ?_
      refine lv_isub hx hb dX5_root_83 ?_
      refine m_calll (As := [.long (σ.2.2.2 2 ((σ.1 5) - 1).toNatClampNeg), .int ((2 * (f_greater (σ.1 6) (σ.2.2.1 3 ((σ.1 5) - 1).toNatClampNeg))) - (σ.2.2.1 3 ((σ.1 5) - 1).toNatClampNeg))]) (rest := []) X hml G hA (c_M_raised l dC dI cI cJ h ad _ (si σ 20 (f_greater (σ.1 6) (σ.2.2.1 3 ((σ.1 5) - 1).toNatClampNeg))) (σ.2.2.2 2 ((σ.1 5) - 1).toNatClampNeg) ((2 * (f_greater (σ.1 6) (σ.2.2.1 3 ((σ.1 5) - 1).toNatClampNeg))) - (σ.2.2.1 3 ((σ.1 5) - 1).toNatClampNeg))) (cwV 2 hts gX5_root_X5_raised rfl rfl rfl (by decide +kernel) ⟨Nat.le_of_ble_eq_true rfl, Nat.le_of_ble_eq_true rfl⟩) rfl hl.1 rfl (Nat.le_of_ble_eq_true rfl) dX5_root_84 ⟨Nat.zero_le _, Nat.zero_le _⟩ (fun r_84 u_84 H locs hw_84 G => ?_)
      obtain ⟨f_84, rfl⟩ := raised_st hw_84
      refine lv_lstore_n (lv' := [(1, .long r_84), (0, .ref h)]) hx hb dX5_root_87 rfl hl (by decide) rfl (fun ls hl => ?_)
      refine lv_aload_n hx hb dX5_root_88 rfl (lv_at hl 1 rfl) ?_
      refine m_get_16 X G (by decide +kernel) dX5_root_89 ?_
      refine lv_if_le (tgt := 97) hx hb dX5_root_92 (by decide) (fun c_92 => ?_) (fun c_92 => ?_)
      · have c_92 : f_84 ≤ 0 := c_92
        refine lv_lconst (v := 0) hx hb dX5_root_97 (by decide) ?_
        refine lv_lstore_n (lv' := [(3, .long 0), (1, .long r_84), (0, .ref h)]) hx hb dX5_root_98 rfl hl (by decide) rfl (fun ls hl => ?_)
        refine lv_ldc2 (v := 1000000000) hx hb hown (hts (.constantLong RX5 107 (1000000000)) (by decide +kernel)) dX5_root_99 ?_
        refine lv_lstore (lv' := [(5, .long 1000000000), (3, .long 0), (1, .long r_84), (0, .ref h)]) hx hb dX5_root_102 hl (by decide) rfl (fun ls hl => ?_)
        refine lv_iconst (v := 0) hx hb dX5_root_104 (by decide) ?_
        refine lv_istore (lv' := [(7, .int 0), (5, .long 1000000000), (3, .long 0), (1, .long r_84), (0, .ref h)]) hx hb dX5_root_105 hl (by decide) rfl (fun ls hl => ?_)
        exact c_M_root_L107 l σ hd X hA hr hlocks hml 41 r_84 0 1000000000 0 (si (si σ 20 (f_greater (σ.1 6) (σ.2.2.1 3 ((σ.1 5) - 1).toNatClampNeg))) 16 f_84) (by simp only [F_root, hw_2, eq_false c_5, eq_true c_23, hw_84, eq_true c_92, ↓reduceIte, si_self, sm_self, si_snd, sm_fst, si20_16, not_false_eq_true, not_true_eq_false, eq_self] <;> rfl) (by decide) _ _ G ls (lv_sub hl [4, 3, 2, 1, 0] rfl)
      · have c_92 : ¬ (f_84 ≤ 0) := c_92
        refine lv_iconst (v := 0) hx hb dX5_root_95 (by decide) ?_
        exact m_zret X G hr hlocks rfl (by simp only [F_root, hw_2, eq_false c_5, eq_true c_23, hw_84, eq_false c_92, ↓reduceIte, si_self, sm_self, si_snd, sm_fst, si20_16, not_false_eq_true, not_true_eq_false, eq_self] <;> rfl) dX5_root_96
    · have c_23 := (mt (l_cmp_ge _ _).mpr c_23)
      have c_23 : ¬ (0 ≤ (σ.2.2.2 2 ((σ.1 5) - 1).toNatClampNeg)) := c_23
      refine lv_aload_n hx hb dX5_root_26 rfl (lv_at hl 0 rfl) ?_
      refine lv_iconst (v := 4) hx hb dX5_root_27 (by decide) ?_
      refine m_calli (As := [.int 4]) (rest := []) X hml G hA (c_M_fail l dC dI cI cJ h ad _ σ 4) (cwV 1 hts gX5_root_X5_fail rfl rfl rfl (by decide +kernel) ⟨Nat.le_of_ble_eq_true rfl, Nat.le_of_ble_eq_true rfl⟩) rfl hl.1 rfl (Nat.le_of_ble_eq_true rfl) dX5_root_28 ⟨Nat.zero_le _, Nat.zero_le _⟩ (fun r_28 u_28 H locs hw_28 G => ?_)
      obtain ⟨rfl, rfl⟩ := hw_28
      exact m_zret X G hr hlocks rfl (by simp only [F_root, hw_2, eq_false c_5, eq_false c_23, ↓reduceIte, si_self, sm_self, si_snd, sm_fst, si20_16, not_false_eq_true, not_true_eq_false, eq_self] <;> rfl) dX5_root_31
  · have c_5 : r_2 = 0 := c_5
    refine lv_iconst (v := 0) hx hb dX5_root_8 (by decide) ?_
    exact m_zret X G hr hlocks rfl (by simp only [F_root, hw_2, eq_true c_5, ↓reduceIte, si_self, sm_self, si_snd, sm_fst, si20_16, not_false_eq_true, not_true_eq_false, eq_self] <;> rfl) dX5_root_9
theorem sf_rootL {σ : MS} : ∀ (fu : Nat) (y l h : Int64) (k : Int32) (τ : MS), sf σ τ → sf σ (F_root_L107 fu y l h k τ).2 := by
  intro fu
  induction fu with
  | zero => intro y l h k τ h1; exact h1
  | succ fu ih =>
    intro y l h k τ h1
    simp only [F_root_L107]
    repeat' split
    all_goals first | exact sf_sm h1 | exact ih _ _ _ _ _ h1
theorem sf_root {σ : MS} : sf σ (F_root σ).2 := by
  unfold F_root
  dsimp only
  repeat' split
  all_goals
    try dsimp only
    first
      | (apply sf_rootL; repeat first | exact sf_refl _ | apply sf_si16 | apply sf_si20 | apply sf_sm)
      | (repeat first | exact sf_refl _ | exact sf_numbers (sf_refl _) | apply sf_si16 | apply sf_si20 | apply sf_sm)
theorem root_st {σ u : MS} {r : Int32} (h : F_root σ = (r, u)) : ∃ f m n, si (sm (si σ 16 f) m) 20 n = u := by
  refine sf_ex ?_
  have h1 := sf_root (σ := σ)
  rw [h] at h1; exact h1
theorem mroot_ok {σ u : MS} {r : Int32} (h : F_root σ = (r, u)) (hr : ¬ r = 0) : 1 ≤ (σ.1 5).toInt := by
  obtain ⟨a, b, hq⟩ : ∃ a b, F_numbers σ 1 = (a, b) := ⟨_, _, rfl⟩
  by_cases c : a = 0
  · simp only [F_root, hq, c, ↓reduceIte, Prod.mk.injEq] at h
    exact absurd h.1.symm hr
  · exact (numbers_ok hq c).2
set_option maxHeartbeats 4000000 in
set_option maxRecDepth 100000 in
theorem c_M_compared (l : Launch) (dC : Nat → ClassId) (dI : Nat → Nat → Nat) (cI cJ : ClassId) (h : Nat) (ad : Nat → Nat) (sz : Nat) (σ : MS) (hn : 2 ≤ (σ.1 5).toInt) (hd : (σ.1 5).toInt ≤ 40) : Met l yX5_compared wsX5_compared ({ frames := 1, cells := 0, slots := 0, locals := 26 } : Room) (va_Pc [.ref h] (mPre dC dI cI cJ h ad sz σ)) (va_Qi (fun r u => F_compared σ = (r, u)) (mAt dC dI cI cJ h ad (mA h ad cI cJ σ sz)) (mA h ad cI cJ σ sz)) 0 0 (mA h ad cI cJ σ sz) := by
  refine m_ofW (cc := cX5_compared) (maxL := 6) (ret := (some .boolean)) (by decide) rfl (by decide +kernel) rfl (Nat.le_of_ble_eq_true rfl) ?_
  intro p e s m below meth c X G hA hr hlocks hml ls hl
  have hl : lv_has ls 6 [(0, .ref h)] := hl
  have hx := X.1
  have hb := X.2.1
  have hts := X.2.2.1
  have hown := X.2.2.2.2.1
  refine lv_aload_n hx hb dX5_compared_0 rfl (lv_at hl 0 rfl) ?_
  refine m_get_3 X G (by decide +kernel) dX5_compared_1 ?_
  refine lv_aload_n hx hb dX5_compared_4 rfl (lv_at hl 0 rfl) ?_
  refine m_get_5 X G (by decide +kernel) dX5_compared_5 ?_
  refine lv_iconst (v := 1) hx hb dX5_compared_8 (by decide) ?_
  refine lv_isub hx hb dX5_compared_9 ?_
  refine m_ld_3 X G (vin (i_subE (rfl : (σ.1 5).toInt = _) (show (1 : Int32).toInt = 1 from rfl) (by omega) (by omega)) (by omega) (by omega)) dX5_compared_10 ?_
  refine lv_aload_n hx hb dX5_compared_11 rfl (lv_at hl 0 rfl) ?_
  refine m_get_3 X G (by decide +kernel) dX5_compared_12 ?_
  refine lv_aload_n hx hb dX5_compared_15 rfl (lv_at hl 0 rfl) ?_
  refine m_get_5 X G (by decide +kernel) dX5_compared_16 ?_
  refine lv_iconst (v := 2) hx hb dX5_compared_19 (by decide) ?_
  refine lv_isub hx hb dX5_compared_20 ?_
  refine m_ld_3 X G (vin (i_subE (rfl : (σ.1 5).toInt = _) (show (2 : Int32).toInt = 2 from rfl) (by omega) (by omega)) (by omega) (by omega)) dX5_compared_21 ?_
  refine W.callR (W.runS (As := [.int (σ.2.2.1 3 ((σ.1 5) - 1).toNatClampNeg), .int (σ.2.2.1 3 ((σ.1 5) - 2).toNatClampNeg)]) (rest := []) ⟨hx, hb, hml, hown, hts⟩ (c_M_greater l (σ.2.2.1 3 ((σ.1 5) - 1).toNatClampNeg) (σ.2.2.1 3 ((σ.1 5) - 2).toNatClampNeg)) (va_cwS 2 hts gX5_compared_X5_greater rfl rfl rfl (by decide +kernel) ⟨Nat.le_of_ble_eq_true rfl, Nat.le_of_ble_eq_true rfl⟩) ⟨fun a U g mk q => q, fun U _ _ => ⟨rfl, trivial⟩⟩ rfl rfl hl.1 rfl (lv_room (Nat.le_of_ble_eq_true rfl)) dX5_compared_22 ⟨Nat.zero_le _, Nat.zero_le _⟩) ?_
  refine W.eq (g2 := F0 m 25 ls [.int (f_greater (σ.2.2.1 3 ((σ.1 5) - 1).toNatClampNeg) (σ.2.2.1 3 ((σ.1 5) - 2).toNatClampNeg))]) rfl ?_
  refine lv_istore_n (lv' := [(1, .int (f_greater (σ.2.2.1 3 ((σ.1 5) - 1).toNatClampNeg) (σ.2.2.1 3 ((σ.1 5) - 2).toNatClampNeg))), (0, .ref h)]) hx hb dX5_compared_25 rfl hl (by decide) rfl (fun ls hl => ?_)
  refine lv_aload_n hx hb dX5_compared_26 rfl (lv_at hl 1 rfl) ?_
  refine lv_aload_n hx hb dX5_compared_27 rfl (lv_at hl 1 rfl) ?_
  refine m_get_2 X G (by decide +kernel) dX5_compared_28 ?_
  refine lv_aload_n hx hb dX5_compared_31 rfl (lv_at hl 1 rfl) ?_
  refine m_get_5 X G (by decide +kernel) dX5_compared_32 ?_
  refine lv_iconst (v := 2) hx hb dX5_compared_35 (by decide) ?_
  refine lv_isub hx hb dX5_compared_36 ?_
  refine m_ld_2 X G (vin (i_subE (rfl : (σ.1 5).toInt = _) (show (2 : Int32).toInt = 2 from rfl) (by omega) (by omega)) (by omega) (by omega)) dX5_compared_37 ?_
  refine lv_iload_n hx hb dX5_compared_38 rfl (lv_at hl 0 rfl) ?_
  refine lv_aload_n hx hb dX5_compared_39 rfl (lv_at hl 1 rfl) ?_
  refine m_get_3 X G (by decide +kernel) dX5_compared_40 ?_
  refine lv_aload_n hx hb dX5_compared_43 rfl (lv_at hl 1 rfl) ?_
  refine m_get_5 X G (by decide +kernel) dX5_compared_44 ?_
  refine lv_iconst (v := 2) hx hb dX5_compared_47 (by decide) ?_
  refine lv_isub hx hb dX5_compared_48 ?_
  refine m_ld_3 X G (vin (i_subE (rfl : (σ.1 5).toInt = _) (show (2 : Int32).toInt = 2 from rfl) (by omega) (by omega)) (by omega) (by omega)) dX5_compared_49 ?_
  refine lv_isub hx hb dX5_compared_50 ?_
  refine m_calll (As := [.long (σ.2.2.2 2 ((σ.1 5) - 2).toNatClampNeg), .int ((f_greater (σ.2.2.1 3 ((σ.1 5) - 1).toNatClampNeg) (σ.2.2.1 3 ((σ.1 5) - 2).toNatClampNeg)) - (σ.2.2.1 3 ((σ.1 5) - 2).toNatClampNeg))]) (rest := []) X hml G hA (c_M_raised l dC dI cI cJ h ad _ σ (σ.2.2.2 2 ((σ.1 5) - 2).toNatClampNeg) ((f_greater (σ.2.2.1 3 ((σ.1 5) - 1).toNatClampNeg) (σ.2.2.1 3 ((σ.1 5) - 2).toNatClampNeg)) - (σ.2.2.1 3 ((σ.1 5) - 2).toNatClampNeg))) (cwV 2 hts gX5_compared_X5_raised rfl rfl rfl (by decide +kernel) ⟨Nat.le_of_ble_eq_true rfl, Nat.le_of_ble_eq_true rfl⟩) rfl hl.1 rfl (Nat.le_of_ble_eq_true rfl) dX5_compared_51 ⟨Nat.zero_le _, Nat.zero_le _⟩ (fun r_51 u_51 H locs hw_51 G => ?_)
  obtain ⟨f_51, rfl⟩ := raised_st hw_51
  refine lv_lstore_n (lv' := [(2, .long r_51), (1, .int (f_greater (σ.2.2.1 3 ((σ.1 5) - 1).toNatClampNeg) (σ.2.2.1 3 ((σ.1 5) - 2).toNatClampNeg))), (0, .ref h)]) hx hb dX5_compared_54 rfl hl (by decide) rfl (fun ls hl => ?_)
  refine lv_aload_n hx hb dX5_compared_55 rfl (lv_at hl 2 rfl) ?_
  refine lv_aload_n hx hb dX5_compared_56 rfl (lv_at hl 2 rfl) ?_
  refine m_get_2 X G (by decide +kernel) dX5_compared_57 ?_
  refine lv_aload_n hx hb dX5_compared_60 rfl (lv_at hl 2 rfl) ?_
  refine m_get_5 X G (by decide +kernel) dX5_compared_61 ?_
  refine lv_iconst (v := 1) hx hb dX5_compared_64 (by decide) ?_
  refine lv_isub hx hb dX5_compared_65 ?_
  refine m_ld_2 X G (vin (i_subE (rfl : (σ.1 5).toInt = _) (show (1 : Int32).toInt = 1 from rfl) (by omega) (by omega)) (by omega) (by omega)) dX5_compared_66 ?_
  refine lv_iload_n hx hb dX5_compared_67 rfl (lv_at hl 1 rfl) ?_
  refine lv_aload_n hx hb dX5_compared_68 rfl (lv_at hl 2 rfl) ?_
  refine m_get_3 X G (by decide +kernel) dX5_compared_69 ?_
  refine lv_aload_n hx hb dX5_compared_72 rfl (lv_at hl 2 rfl) ?_
  refine m_get_5 X G (by decide +kernel) dX5_compared_73 ?_
  refine lv_iconst (v := 1) hx hb dX5_compared_76 (by decide) ?_
  refine lv_isub hx hb dX5_compared_77 ?_
  refine m_ld_3 X G (vin (i_subE (rfl : (σ.1 5).toInt = _) (show (1 : Int32).toInt = 1 from rfl) (by omega) (by omega)) (by omega) (by omega)) dX5_compared_78 ?_
  refine lv_isub hx hb dX5_compared_79 ?_
  refine m_calll (As := [.long (σ.2.2.2 2 ((σ.1 5) - 1).toNatClampNeg), .int ((f_greater (σ.2.2.1 3 ((σ.1 5) - 1).toNatClampNeg) (σ.2.2.1 3 ((σ.1 5) - 2).toNatClampNeg)) - (σ.2.2.1 3 ((σ.1 5) - 1).toNatClampNeg))]) (rest := []) X hml G hA (c_M_raised l dC dI cI cJ h ad _ (si σ 16 f_51) (σ.2.2.2 2 ((σ.1 5) - 1).toNatClampNeg) ((f_greater (σ.2.2.1 3 ((σ.1 5) - 1).toNatClampNeg) (σ.2.2.1 3 ((σ.1 5) - 2).toNatClampNeg)) - (σ.2.2.1 3 ((σ.1 5) - 1).toNatClampNeg))) (cwV 2 hts gX5_compared_X5_raised rfl rfl rfl (by decide +kernel) ⟨Nat.le_of_ble_eq_true rfl, Nat.le_of_ble_eq_true rfl⟩) rfl hl.1 rfl (Nat.le_of_ble_eq_true rfl) dX5_compared_80 ⟨Nat.zero_le _, Nat.zero_le _⟩ (fun r_80 u_80 H locs hw_80 G => ?_)
  obtain ⟨f_80, rfl⟩ := raised_st hw_80
  refine lv_lstore (lv' := [(4, .long r_80), (2, .long r_51), (1, .int (f_greater (σ.2.2.1 3 ((σ.1 5) - 1).toNatClampNeg) (σ.2.2.1 3 ((σ.1 5) - 2).toNatClampNeg))), (0, .ref h)]) hx hb dX5_compared_83 hl (by decide) rfl (fun ls hl => ?_)
  refine lv_aload_n hx hb dX5_compared_85 rfl (lv_at hl 3 rfl) ?_
  refine lv_lload_n hx hb dX5_compared_86 rfl (lv_at hl 1 rfl) ?_
  refine lv_lload hx hb dX5_compared_87 (lv_at hl 0 rfl) ?_
  refine W.lcmp hx hb dX5_compared_89 ?_
  refine lv_if_le (tgt := 97) hx hb dX5_compared_90 (by decide) (fun c_90 => ?_) (fun c_90 => ?_)
  · have c_90 := ((l_cmp_le _ _).mp c_90)
    have c_90 : r_51 ≤ r_80 := c_90
    refine lv_lload_n hx hb dX5_compared_97 rfl (lv_at hl 1 rfl) ?_
    refine lv_lload hx hb dX5_compared_98 (lv_at hl 0 rfl) ?_
    refine W.lcmp hx hb dX5_compared_100 ?_
    refine lv_if_ge (tgt := 110) hx hb dX5_compared_101 (by decide) (fun c_101 => ?_) (fun c_101 => ?_)
    · have c_101 := ((l_cmp_ge _ _).mp c_101)
      have c_101 : r_80 ≤ r_51 := c_101
      refine lv_lconst (v := 0) hx hb dX5_compared_110 (by decide) ?_
      refine m_put_19 X G (by decide +kernel) dX5_compared_111 (fun H locs G => ?_)
      refine lv_aload_n hx hb dX5_compared_114 rfl (lv_at hl 3 rfl) ?_
      refine m_get_16 X G (by decide +kernel) dX5_compared_115 ?_
      refine lv_if_ne (tgt := 125) hx hb dX5_compared_118 (by decide) (fun c_118 => ?_) (fun c_118 => ?_)
      · have c_118 : ¬ (f_80 = 0) := c_118
        refine lv_iconst (v := 0) hx hb dX5_compared_125 (by decide) ?_
        exact m_zret X G hr hlocks rfl (by simp only [F_compared, hw_51, hw_80, eq_true c_90, eq_true c_101, eq_false c_118, ↓reduceIte, si_self, sm_self, si_snd, sm_fst, si20_16, not_false_eq_true, not_true_eq_false, eq_self] <;> rfl) dX5_compared_126
      · have c_118 : f_80 = 0 := c_118
        refine lv_iconst (v := 1) hx hb dX5_compared_121 (by decide) ?_
        refine lv_goto (tgt := 126) hx hb dX5_compared_122 (by decide) ?_
        exact m_zret X G hr hlocks rfl (by simp only [F_compared, hw_51, hw_80, eq_true c_90, eq_true c_101, eq_true c_118, ↓reduceIte, si_self, sm_self, si_snd, sm_fst, si20_16, not_false_eq_true, not_true_eq_false, eq_self] <;> rfl) dX5_compared_126
    · have c_101 := (mt (l_cmp_ge _ _).mpr c_101)
      have c_101 : ¬ (r_80 ≤ r_51) := c_101
      refine lv_ldc2 (v := -1) hx hb hown (hts (.constantLong RX5 173 (-1)) (by decide +kernel)) dX5_compared_104 ?_
      refine lv_goto (tgt := 111) hx hb dX5_compared_107 (by decide) ?_
      refine m_put_19 X G (by decide +kernel) dX5_compared_111 (fun H locs G => ?_)
      refine lv_aload_n hx hb dX5_compared_114 rfl (lv_at hl 3 rfl) ?_
      refine m_get_16 X G (by decide +kernel) dX5_compared_115 ?_
      refine lv_if_ne (tgt := 125) hx hb dX5_compared_118 (by decide) (fun c_118 => ?_) (fun c_118 => ?_)
      · have c_118 : ¬ (f_80 = 0) := c_118
        refine lv_iconst (v := 0) hx hb dX5_compared_125 (by decide) ?_
        exact m_zret X G hr hlocks rfl (by simp only [F_compared, hw_51, hw_80, eq_true c_90, eq_false c_101, eq_false c_118, ↓reduceIte, si_self, sm_self, si_snd, sm_fst, si20_16, not_false_eq_true, not_true_eq_false, eq_self] <;> rfl) dX5_compared_126
      · have c_118 : f_80 = 0 := c_118
        refine lv_iconst (v := 1) hx hb dX5_compared_121 (by decide) ?_
        refine lv_goto (tgt := 126) hx hb dX5_compared_122 (by decide) ?_
        exact m_zret X G hr hlocks rfl (by simp only [F_compared, hw_51, hw_80, eq_true c_90, eq_false c_101, eq_true c_118, ↓reduceIte, si_self, sm_self, si_snd, sm_fst, si20_16, not_false_eq_true, not_true_eq_false, eq_self] <;> rfl) dX5_compared_126
  · have c_90 := (mt (l_cmp_le _ _).mpr c_90)
    have c_90 : ¬ (r_51 ≤ r_80) := c_90
    refine lv_lconst (v := 1) hx hb dX5_compared_93 (by decide) ?_
    refine lv_goto (tgt := 111) hx hb dX5_compared_94 (by decide) ?_
    refine m_put_19 X G (by decide +kernel) dX5_compared_111 (fun H locs G => ?_)
    refine lv_aload_n hx hb dX5_compared_114 rfl (lv_at hl 3 rfl) ?_
    refine m_get_16 X G (by decide +kernel) dX5_compared_115 ?_
    refine lv_if_ne (tgt := 125) hx hb dX5_compared_118 (by decide) (fun c_118 => ?_) (fun c_118 => ?_)
    · have c_118 : ¬ (f_80 = 0) := c_118
      refine lv_iconst (v := 0) hx hb dX5_compared_125 (by decide) ?_
      exact m_zret X G hr hlocks rfl (by simp only [F_compared, hw_51, hw_80, eq_false c_90, eq_false c_118, ↓reduceIte, si_self, sm_self, si_snd, sm_fst, si20_16, not_false_eq_true, not_true_eq_false, eq_self] <;> rfl) dX5_compared_126
    · have c_118 : f_80 = 0 := c_118
      refine lv_iconst (v := 1) hx hb dX5_compared_121 (by decide) ?_
      refine lv_goto (tgt := 126) hx hb dX5_compared_122 (by decide) ?_
      exact m_zret X G hr hlocks rfl (by simp only [F_compared, hw_51, hw_80, eq_false c_90, eq_true c_118, ↓reduceIte, si_self, sm_self, si_snd, sm_fst, si20_16, not_false_eq_true, not_true_eq_false, eq_self] <;> rfl) dX5_compared_126
theorem sf_compared {σ : MS} : sf σ (F_compared σ).2 := by
  unfold F_compared
  dsimp only
  repeat' split
  all_goals
    dsimp only
    repeat first | exact sf_refl _ | apply sf_si16 | apply sf_si20 | apply sf_sm
theorem compared_st {σ u : MS} {r : Int32} (h : F_compared σ = (r, u)) : ∃ f m n, si (sm (si σ 16 f) m) 20 n = u := by
  refine sf_ex ?_
  have h1 := sf_compared (σ := σ)
  rw [h] at h1; exact h1
