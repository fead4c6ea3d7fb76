theorem sz_pos {a : Int32} (h : 0 ≤ a.toInt) : ¬ a < 0 := by
  rw [Int32.lt_iff_toInt_lt]
  have z0 : (0 : Int32).toInt = 0 := rfl
  omega
theorem append_n {σ : XS} {c : Nat} {i : Int32} : (Xrow_append σ c i).2.2.2.2 = σ.2.2.2.2 := by unfold Xrow_append; split <;> rfl
theorem append_sz {σ : XS} {c : Nat} {i : Int32} (h : 0 ≤ (σ.1 c).toInt ∧ (σ.1 c).toInt ≤ 160) : 0 ≤ ((Xrow_append σ c i).1 c).toInt ∧ ((Xrow_append σ c i).1 c).toInt ≤ 160 := by
  unfold Xrow_append
  split
  · exact h
  · rename_i h1
    rw [Int32.le_iff_toInt_le] at h1
    have z1 : (160 : Int32).toInt = 160 := rfl
    rw [xi_1]
    have e : (σ.1 c + 1).toInt = (σ.1 c).toInt + 1 := i_addE rfl (show (1 : Int32).toInt = 1 from rfl) (by omega) (by omega)
    show 0 ≤ (σ.1 c + 1).toInt ∧ (σ.1 c + 1).toInt ≤ 160
    omega
theorem append_szp {σ : XS} {i : Int32} (h : 0 ≤ (σ.1 σ.2.2.2.2.1).toInt ∧ (σ.1 σ.2.2.2.2.1).toInt ≤ 160) : 0 ≤ ((Xrow_append σ σ.2.2.2.2.1 i).1 (Xrow_append σ σ.2.2.2.2.1 i).2.2.2.2.1).toInt ∧ ((Xrow_append σ σ.2.2.2.2.1 i).1 (Xrow_append σ σ.2.2.2.2.1 i).2.2.2.2.1).toInt ≤ 160 := by
  rw [append_n]; exact append_sz h
theorem append_wf {σ : XS} {c : Nat} {i : Int32} (h : xWF σ) (_ : ¬ σ.1 c < 0) : xWF (Xrow_append σ c i) := by
  unfold Xrow_append
  split
  · exact h
  · exact h
def Xdesk_write_L54 (a0 : Int64) : Nat → Int32 → Int32 → XS → Int32 × XS
  | 0, _, _, τ => (0, τ)
  | f + 1, n0, i0, τ => if n0 ≤ i0 then ((n0, τ)) else let q_70 := Xrow_append τ τ.2.2.2.2.1 (Xd_charOf a0 i0); Xdesk_write_L54 a0 f n0 (i0 + 1) q_70
def Xdesk_write_L2 (a0 : Int64) : Nat → Int32 → XS → Int32 × XS
  | 0, _, τ => (0, τ)
  | f + 1, n0, τ => if 8 ≤ n0 then (if ((τ.1 τ.2.2.2.2.1) + n0) ≤ 160 then (Xdesk_write_L54 a0 (9) n0 0 τ) else ((-1), τ)) else if (Xd_charOf a0 n0) = 0 then (if ((τ.1 τ.2.2.2.2.1) + n0) ≤ 160 then (Xdesk_write_L54 a0 (9) n0 0 τ) else ((-1), τ)) else if (Xd_charOf a0 n0) ≤ 127 then (Xdesk_write_L2 a0 f (n0 + 1) τ) else ((-1), τ)
def Xdesk_write (σ : XS) (a0 : Int64) : Int32 × XS := Xdesk_write_L2 a0 (9) 0 σ
set_option maxHeartbeats 4000000 in
set_option maxRecDepth 100000 in
theorem c_Xdesk_write_L54 {p : Program} (l : Launch) {e : Env} {s : State} {m : MethodId} {below : List Frame} {meth : Method} {c : Code} {dC : Nat → ClassId} {dI : Nat → Nat → Nat} {kc : Nat → ClassId} {ad : Nat → Nat} {sz : Nat} (σ : XS) (a0 : Int64) (hrv : xWF σ) (hsz : 0 ≤ (σ.1 σ.2.2.2.2.1).toInt ∧ (σ.1 σ.2.2.2.2.1).toInt ≤ 160) (X : xX p s m ([.ref (ad 0), .long a0] : List Value).toArray c cX4_write wsX4_write dC dI kc RX4 (xA kc ad σ sz)) (hA : ∀ q : Nat, s.heap.size ≤ q → xA kc ad σ sz q) (hr : meth.sig.returnType = (some .int)) (hlocks : meth.locks = false) (hml : c.maxLocals = 5) :
    ∀ (fu : Nat) (n0 : Int32) (i0 : Int32) (τ : XS), Xdesk_write σ a0 = Xdesk_write_L54 a0 fu n0 i0 τ → (0 ≤ n0.toInt) → (n0.toInt ≤ 8) → (0 ≤ i0.toInt) → (i0.toInt ≤ n0.toInt) → (9 ≤ i0.toInt + (fu : Int)) → (xWF τ) → (0 ≤ (τ.1 τ.2.2.2.2.1).toInt ∧ (τ.1 τ.2.2.2.2.1).toInt ≤ 160) → ∀ (H : Heap) (locs : List Loc), xH dC dI kc ad τ (xA kc ad σ sz) s.heap H locs → ∀ ls : Array Slot, lv_has ls 5 [(0, .ref (ad 0)), (1, .long a0), (3, .int n0), (4, .int i0)] → W p l e ({ frames := 1, cells := 0, slots := 0, locals := 22 } : Room) s m ([.ref (ad 0), .long a0] : List Value).toArray below meth c H locs 0 0 (MQ below (va_Qi (fun r u => Xdesk_write σ a0 = (r, u)) (xAt dC dI kc ad (xA kc ad σ sz)) (xA kc ad σ sz)) ([.ref (ad 0), .long a0] : List Value).toArray s 0 0 (xA kc ad σ sz)) (F0 m 54 ls []) := by
  have hx := X.1
  have hb := X.2.1
  have hts := X.2.2.1
  have hown := X.2.2.2.1
  have hz := X.2.2.2.2.2
  have hin2 : ∀ w ∈ wsX20, w ∈ wsX4_write := (fun w hw => List.mem_cons_of_mem _ (List.mem_append_right _ hw))
  have hin4 : ∀ w ∈ wsX40, w ∈ wsX4_write := (fun w hw => List.mem_cons_of_mem _ (List.mem_append_left _ (List.mem_append_right _ hw)))
  intro fu
  induction fu with
  | zero =>
    intro n0 i0 τ hI hn0 hn1 hi0 hi1 hi2 hrt hst
    exact absurd hi2 (by omega)
  | succ fu ih =>
    intro n0 i0 τ hI hn0 hn1 hi0 hi1 hi2 hrt hst H locs G ls hl
    refine lv_iload hx hb dX4_write_54 (lv_at hl 3 rfl) ?_
    refine lv_iload_n hx hb dX4_write_56 rfl (lv_at hl 2 rfl) ?_
    refine lv_icmp_ge (tgt := 79) hx hb dX4_write_57 (by decide) (fun c_57 => ?_) (fun c_57 => ?_)
    · have c_57 : n0 ≤ i0 := c_57
      refine lv_iload_n hx hb dX4_write_79 rfl (lv_at hl 2 rfl) ?_
      exact x_iret (v := n0) X G hr hlocks (by rw [hI]; simp only [Xdesk_write_L54, eq_true c_57, ↓reduceIte]) dX4_write_80
    · have c_57 : ¬ (n0 ≤ i0) := c_57
      have k_57 : i0.toInt < n0.toInt := by have h9 := c_57; rw [Int32.not_le, Int32.lt_iff_toInt_lt] at h9; exact h9
      have e_57 : (i0 + 1).toInt = i0.toInt + 1 := i_addE rfl (show (1 : Int32).toInt = 1 from rfl) (by omega) (by omega)
      refine lv_aload_n hx hb dX4_write_60 rfl (lv_at hl 0 rfl) ?_
      refine x_dget_4 X G hin4 (by decide +kernel) dX4_write_61 ?_
      refine lv_lload_n hx hb dX4_write_64 rfl (lv_at hl 1 rfl) ?_
      refine lv_iload hx hb dX4_write_65 (lv_at hl 3 rfl) ?_
      refine W.callR (W.runS (As := [.long a0, .int i0]) (rest := [.ref (ad τ.2.2.2.2.1)]) ⟨hx, hb, hml, hown, hts⟩ (c_Xd_charOf l a0 i0) (va_cwS 2 hts gX4_write_X4_charOf rfl rfl rfl (by decide +kernel) ⟨Nat.le_of_ble_eq_true rfl, Nat.le_of_ble_eq_true rfl⟩) ⟨fun a U g mk q => q, fun U _ _ => ⟨rfl, trivial⟩⟩ rfl rfl hl.1 rfl (lv_room (Nat.le_of_ble_eq_true rfl)) dX4_write_67 ⟨Nat.zero_le _, Nat.zero_le _⟩) ?_
      refine W.eq (g2 := F0 m 70 ls [.int (Xd_charOf a0 i0), .ref (ad τ.2.2.2.2.1)]) rfl ?_
      refine x_callv (As := [.int (Xd_charOf a0 i0)]) (rest := []) X hml G hA (xW_row hrt.2) rfl (c_Xrow_append l dC dI kc ad _ τ τ.2.2.2.2.1 (Xd_charOf a0 i0) hrt.2 (sz_pos hst.1)) (cwV 1 hts gX4_write_X2_append rfl rfl rfl (by decide +kernel) ⟨Nat.le_of_ble_eq_true rfl, Nat.le_of_ble_eq_true rfl⟩) rfl hl.1 rfl (Nat.le_of_ble_eq_true rfl) dX4_write_70 ⟨Nat.zero_le _, Nat.zero_le _⟩ (fun u_70 H locs hw_70 G => ?_)
      have hv_70 : xWF u_70 := by have h9 : xWF (Xrow_append τ τ.2.2.2.2.1 (Xd_charOf a0 i0)) := append_wf hrt (sz_pos hst.1); rw [hw_70] at h9; exact h9
      refine lv_iinc (v := (i0 + 1)) (lv' := [(4, .int (i0 + 1)), (0, .ref (ad 0)), (1, .long a0), (3, .int n0)]) hx hb dX4_write_73 hl (k := 3) rfl rfl (by decide) rfl (fun ls hl => ?_)
      refine lv_goto (tgt := 54) hx hb dX4_write_76 (by decide) ?_
      exact ih n0 (i0 + 1) u_70 (by rw [hI]; simp only [Xdesk_write_L54, eq_false c_57, hw_70, ↓reduceIte]) hn0 hn1 (by omega) (by omega) (by omega) hv_70 (by rw [← hw_70]; exact append_szp hst) H locs G ls (lv_sub hl [1, 2, 3, 0] rfl)
set_option maxHeartbeats 4000000 in
set_option maxRecDepth 100000 in
theorem c_Xdesk_write_L2 {p : Program} (l : Launch) {e : Env} {s : State} {m : MethodId} {below : List Frame} {meth : Method} {c : Code} {dC : Nat → ClassId} {dI : Nat → Nat → Nat} {kc : Nat → ClassId} {ad : Nat → Nat} {sz : Nat} (σ : XS) (a0 : Int64) (hrv : xWF σ) (hsz : 0 ≤ (σ.1 σ.2.2.2.2.1).toInt ∧ (σ.1 σ.2.2.2.2.1).toInt ≤ 160) (X : xX p s m ([.ref (ad 0), .long a0] : List Value).toArray c cX4_write wsX4_write dC dI kc RX4 (xA kc ad σ sz)) (hA : ∀ q : Nat, s.heap.size ≤ q → xA kc ad σ sz q) (hr : meth.sig.returnType = (some .int)) (hlocks : meth.locks = false) (hml : c.maxLocals = 5) :
    ∀ (fu : Nat) (n0 : Int32) (τ : XS), Xdesk_write σ a0 = Xdesk_write_L2 a0 fu n0 τ → (0 ≤ n0.toInt) → (n0.toInt ≤ 8) → (9 ≤ n0.toInt + (fu : Int)) → (xWF τ) → (0 ≤ (τ.1 τ.2.2.2.2.1).toInt ∧ (τ.1 τ.2.2.2.2.1).toInt ≤ 160) → ∀ (H : Heap) (locs : List Loc), xH dC dI kc ad τ (xA kc ad σ sz) s.heap H locs → ∀ ls : Array Slot, lv_has ls 5 [(0, .ref (ad 0)), (1, .long a0), (3, .int n0)] → W p l e ({ frames := 1, cells := 0, slots := 0, locals := 22 } : Room) s m ([.ref (ad 0), .long a0] : List Value).toArray below meth c H locs 0 0 (MQ below (va_Qi (fun r u => Xdesk_write σ a0 = (r, u)) (xAt dC dI kc ad (xA kc ad σ sz)) (xA kc ad σ sz)) ([.ref (ad 0), .long a0] : List Value).toArray s 0 0 (xA kc ad σ sz)) (F0 m 2 ls []) := by
  have hx := X.1
  have hb := X.2.1
  have hts := X.2.2.1
  have hown := X.2.2.2.1
  have hz := X.2.2.2.2.2
  have hin2 : ∀ w ∈ wsX20, w ∈ wsX4_write := (fun w hw => List.mem_cons_of_mem _ (List.mem_append_right _ hw))
  have hin4 : ∀ w ∈ wsX40, w ∈ wsX4_write := (fun w hw => List.mem_cons_of_mem _ (List.mem_append_left _ (List.mem_append_right _ hw)))
  intro fu
  induction fu with
  | zero =>
    intro n0 τ hI hi0 hi1 hi2 hrt hst
    exact absurd hi2 (by omega)
  | succ fu ih =>
    intro n0 τ hI hi0 hi1 hi2 hrt hst H locs G ls hl
    refine lv_iload_n hx hb dX4_write_2 rfl (lv_at hl 2 rfl) ?_
    refine lv_bipush (v := 8) hx hb dX4_write_3 (by decide) ?_
    refine lv_icmp_ge (tgt := 34) hx hb dX4_write_5 (by decide) (fun c_5 => ?_) (fun c_5 => ?_)
    · have c_5 : 8 ≤ n0 := c_5
      refine lv_aload_n hx hb dX4_write_34 rfl (lv_at hl 0 rfl) ?_
      refine x_dget_4 X G hin4 (by decide +kernel) dX4_write_35 ?_
      refine x_rget_1 X G hin2 hrt.2 (by decide +kernel) dX4_write_38 ?_
      refine lv_iload_n hx hb dX4_write_41 rfl (lv_at hl 2 rfl) ?_
      refine lv_iadd hx hb dX4_write_42 ?_
      refine lv_sipush (v := 160) hx hb dX4_write_43 (by decide) ?_
      refine lv_icmp_le (tgt := 51) hx hb dX4_write_46 (by decide) (fun c_46 => ?_) (fun c_46 => ?_)
      · have c_46 : ((τ.1 τ.2.2.2.2.1) + n0) ≤ 160 := c_46
        refine lv_iconst (v := 0) hx hb dX4_write_51 (by decide) ?_
        refine lv_istore (lv' := [(4, .int 0), (0, .ref (ad 0)), (1, .long a0), (3, .int n0)]) hx hb dX4_write_52 hl (by decide) rfl (fun ls hl => ?_)
        exact c_Xdesk_write_L54 l σ a0 hrv hsz X hA hr hlocks hml 9 n0 0 τ (by rw [hI]; simp only [Xdesk_write_L2, eq_true c_5, eq_true c_46, ↓reduceIte]) hi0 hi1 (by decide) (show (0 : Int32).toInt ≤ n0.toInt from hi0) (by decide) hrt hst _ _ G ls (lv_sub hl [1, 2, 3, 0] rfl)
      · have c_46 : ¬ (((τ.1 τ.2.2.2.2.1) + n0) ≤ 160) := c_46
        refine lv_iconst (v := -1) hx hb dX4_write_49 (by decide) ?_
        exact x_iret (v := (-1)) X G hr hlocks (by rw [hI]; simp only [Xdesk_write_L2, eq_true c_5, eq_false c_46, ↓reduceIte]) dX4_write_50
    · have c_5 : ¬ (8 ≤ n0) := c_5
      have k_5 : n0.toInt < 8 := by have h9 := c_5; rw [Int32.not_le, Int32.lt_iff_toInt_lt] at h9; exact h9
      have e_5 : (n0 + 1).toInt = n0.toInt + 1 := i_addE rfl (show (1 : Int32).toInt = 1 from rfl) (by omega) (by omega)
      refine lv_lload_n hx hb dX4_write_8 rfl (lv_at hl 1 rfl) ?_
      refine lv_iload_n hx hb dX4_write_9 rfl (lv_at hl 2 rfl) ?_
      refine W.callR (W.runS (As := [.long a0, .int n0]) (rest := []) ⟨hx, hb, hml, hown, hts⟩ (c_Xd_charOf l a0 n0) (va_cwS 2 hts gX4_write_X4_charOf rfl rfl rfl (by decide +kernel) ⟨Nat.le_of_ble_eq_true rfl, Nat.le_of_ble_eq_true rfl⟩) ⟨fun a U g mk q => q, fun U _ _ => ⟨rfl, trivial⟩⟩ rfl rfl hl.1 rfl (lv_room (Nat.le_of_ble_eq_true rfl)) dX4_write_10 ⟨Nat.zero_le _, Nat.zero_le _⟩) ?_
      refine W.eq (g2 := F0 m 13 ls [.int (Xd_charOf a0 n0)]) rfl ?_
      refine lv_if_eq (tgt := 34) hx hb dX4_write_13 (by decide) (fun c_13 => ?_) (fun c_13 => ?_)
      · have c_13 : (Xd_charOf a0 n0) = 0 := c_13
        refine lv_aload_n hx hb dX4_write_34 rfl (lv_at hl 0 rfl) ?_
        refine x_dget_4 X G hin4 (by decide +kernel) dX4_write_35 ?_
        refine x_rget_1 X G hin2 hrt.2 (by decide +kernel) dX4_write_38 ?_
        refine lv_iload_n hx hb dX4_write_41 rfl (lv_at hl 2 rfl) ?_
        refine lv_iadd hx hb dX4_write_42 ?_
        refine lv_sipush (v := 160) hx hb dX4_write_43 (by decide) ?_
        refine lv_icmp_le (tgt := 51) hx hb dX4_write_46 (by decide) (fun c_46 => ?_) (fun c_46 => ?_)
        · have c_46 : ((τ.1 τ.2.2.2.2.1) + n0) ≤ 160 := c_46
          refine lv_iconst (v := 0) hx hb dX4_write_51 (by decide) ?_
          refine lv_istore (lv' := [(4, .int 0), (0, .ref (ad 0)), (1, .long a0), (3, .int n0)]) hx hb dX4_write_52 hl (by decide) rfl (fun ls hl => ?_)
          exact c_Xdesk_write_L54 l σ a0 hrv hsz X hA hr hlocks hml 9 n0 0 τ (by rw [hI]; simp only [Xdesk_write_L2, eq_false c_5, eq_true c_13, eq_true c_46, ↓reduceIte]) hi0 hi1 (by decide) (show (0 : Int32).toInt ≤ n0.toInt from hi0) (by decide) hrt hst _ _ G ls (lv_sub hl [1, 2, 3, 0] rfl)
        · have c_46 : ¬ (((τ.1 τ.2.2.2.2.1) + n0) ≤ 160) := c_46
          refine lv_iconst (v := -1) hx hb dX4_write_49 (by decide) ?_
          exact x_iret (v := (-1)) X G hr hlocks (by rw [hI]; simp only [Xdesk_write_L2, eq_false c_5, eq_true c_13, eq_false c_46, ↓reduceIte]) dX4_write_50
      · have c_13 : ¬ ((Xd_charOf a0 n0) = 0) := c_13
        refine lv_lload_n hx hb dX4_write_16 rfl (lv_at hl 1 rfl) ?_
        refine lv_iload_n hx hb dX4_write_17 rfl (lv_at hl 2 rfl) ?_
        refine W.callR (W.runS (As := [.long a0, .int n0]) (rest := []) ⟨hx, hb, hml, hown, hts⟩ (c_Xd_charOf l a0 n0) (va_cwS 2 hts gX4_write_X4_charOf rfl rfl rfl (by decide +kernel) ⟨Nat.le_of_ble_eq_true rfl, Nat.le_of_ble_eq_true rfl⟩) ⟨fun a U g mk q => q, fun U _ _ => ⟨rfl, trivial⟩⟩ rfl rfl hl.1 rfl (lv_room (Nat.le_of_ble_eq_true rfl)) dX4_write_18 ⟨Nat.zero_le _, Nat.zero_le _⟩) ?_
        refine W.eq (g2 := F0 m 21 ls [.int (Xd_charOf a0 n0)]) rfl ?_
        refine lv_bipush (v := 127) hx hb dX4_write_21 (by decide) ?_
        refine lv_icmp_le (tgt := 28) hx hb dX4_write_23 (by decide) (fun c_23 => ?_) (fun c_23 => ?_)
        · have c_23 : (Xd_charOf a0 n0) ≤ 127 := c_23
          refine lv_iinc (v := (n0 + 1)) (lv' := [(3, .int (n0 + 1)), (0, .ref (ad 0)), (1, .long a0)]) hx hb dX4_write_28 hl (k := 2) rfl rfl (by decide) rfl (fun ls hl => ?_)
          refine lv_goto (tgt := 2) hx hb dX4_write_31 (by decide) ?_
          exact ih (n0 + 1) τ (by rw [hI]; simp only [Xdesk_write_L2, eq_false c_5, eq_false c_13, eq_true c_23, ↓reduceIte]) (by omega) (by omega) (by omega) hrt hst H locs G ls (lv_sub hl [1, 2, 0] rfl)
        · have c_23 : ¬ ((Xd_charOf a0 n0) ≤ 127) := c_23
          refine lv_iconst (v := -1) hx hb dX4_write_26 (by decide) ?_
          exact x_iret (v := (-1)) X G hr hlocks (by rw [hI]; simp only [Xdesk_write_L2, eq_false c_5, eq_false c_13, eq_false c_23, ↓reduceIte]) dX4_write_27
set_option maxHeartbeats 4000000 in
set_option maxRecDepth 100000 in
theorem c_Xdesk_write (l : Launch) (dC : Nat → ClassId) (dI : Nat → Nat → Nat) (kc : Nat → ClassId) (ad : Nat → Nat) (sz : Nat) (σ : XS) (a0 : Int64) (hrv : xWF σ) (hsz : 0 ≤ (σ.1 σ.2.2.2.2.1).toInt ∧ (σ.1 σ.2.2.2.2.1).toInt ≤ 160) : Met l yX4_write wsX4_write ({ frames := 1, cells := 0, slots := 0, locals := 22 } : Room) (va_Pc [.ref (ad 0), .long a0] (xPre dC dI kc ad sz σ)) (va_Qi (fun r u => Xdesk_write σ a0 = (r, u)) (xAt dC dI kc ad (xA kc ad σ sz)) (xA kc ad σ sz)) 0 0 (xA kc ad σ sz) := by
  refine x_ofW (cc := cX4_write) (maxL := 5) (ret := (some .int)) (by decide) rfl rfl (Nat.le_of_ble_eq_true rfl) ?_
  intro p e s m below meth c X G hA hr hlocks hml ls hl
  have hl : lv_has ls 5 [(0, .ref (ad 0)), (1, .long a0)] := hl
  have hx := X.1
  have hb := X.2.1
  have hts := X.2.2.1
  have hown := X.2.2.2.1
  have hz := X.2.2.2.2.2
  have hin2 : ∀ w ∈ wsX20, w ∈ wsX4_write := (fun w hw => List.mem_cons_of_mem _ (List.mem_append_right _ hw))
  have hin4 : ∀ w ∈ wsX40, w ∈ wsX4_write := (fun w hw => List.mem_cons_of_mem _ (List.mem_append_left _ (List.mem_append_right _ hw)))
  refine lv_iconst (v := 0) hx hb dX4_write_0 (by decide) ?_
  refine lv_istore_n (lv' := [(3, .int 0), (0, .ref (ad 0)), (1, .long a0)]) hx hb dX4_write_1 rfl hl (by decide) rfl (fun ls hl => ?_)
  exact c_Xdesk_write_L2 l σ a0 hrv hsz X hA hr hlocks hml 9 0 σ (by unfold Xdesk_write; first | simp only [↓reduceIte] | rfl) (by decide) (by decide) (by decide) hrv hsz _ _ G ls (lv_sub hl [1, 2, 0] rfl)
