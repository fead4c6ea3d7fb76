theorem n1_of {σ : XS} {μ : MS} {i0 : Int32} (h : ST σ μ) (hw : xWF σ) (hr : rok σ) (h16 : μ.1 16 = 0) (hn : NX σ μ i0.toInt) (hat : μ.2.2.1 10 ((μ.1 11).toInt - 1).toNat = i0) (hlt : i0.toInt < (μ.2.2.1 9 ((μ.1 11).toInt - 1).toNat).toInt) : NX (Xnest_pass σ) μ (i0 + 1).toInt := by
  obtain ⟨b0, b1, b2, b3, b4⟩ := nx_b hn
  have hn1 := pass_NX hn hlt
  rw [← i_p1 b0 (by omega)] at hn1
  exact hn1
theorem lift1 {σ : XS} {μ : MS} {i0 : Int32} (h : ST σ μ) (hw : xWF σ) (hr : rok σ) (h16 : μ.1 16 = 0) (hn : NX σ μ i0.toInt) (hat : μ.2.2.1 10 ((μ.1 11).toInt - 1).toNat = i0) (hlt : i0.toInt < (μ.2.2.1 9 ((μ.1 11).toInt - 1).toNat).toInt) {rx : (String × XS) ⊕ XS} {rm : Int32 × MS} (hcr : cres (Xnest_pass σ) (sa μ 10 ((μ.1 11).toInt - 1).toNat (i0 + 1)) rx rm) : dres σ μ rx rm := by
  obtain ⟨b0, b1, b2, b3, b4⟩ := nx_b hn
  have hkp := pass_kp (σ := σ)
  have W1 : Wt (sa μ 10 ((μ.1 11).toInt - 1).toNat (i0 + 1)) ≤ Wt μ := by rw [Wt_sa b3, hat, i_p1 b0 (by omega)]; omega
  exact dres_of hkp.1 (by rw [hkp.2.1]) (NX_NR (v := i0 + 1) rfl (n1_of h hw hr h16 hn hat hlt) sa10_10 sa10_8 sa10_9 rfl) sa_k rfl W1 hcr
theorem lift1m {σ : XS} {μ : MS} {i0 : Int32} (h : ST σ μ) (hw : xWF σ) (hr : rok σ) (h16 : μ.1 16 = 0) (hn : NX σ μ i0.toInt) (hat : μ.2.2.1 10 ((μ.1 11).toInt - 1).toNat = i0) (hlt : i0.toInt < (μ.2.2.1 9 ((μ.1 11).toInt - 1).toNat).toInt) {rx : (String × XS) ⊕ XS} {rm : Int32 × MS} (hcr : mres (Xnest_pass σ) (sa μ 10 ((μ.1 11).toInt - 1).toNat (i0 + 1)) rx rm) : dres σ μ rx rm := by
  obtain ⟨b0, b1, b2, b3, b4⟩ := nx_b hn
  have hkp := pass_kp (σ := σ)
  have W1 : Wt (sa μ 10 ((μ.1 11).toInt - 1).toNat (i0 + 1)) + 1 ≤ Wt μ := by rw [Wt_sa b3, hat, i_p1 b0 (by omega)]; omega
  exact mres_dres hkp.1 (by rw [hkp.2.1]) sa_k rfl W1 hcr
theorem look_b {σ : XS} {μ : MS} {i0 : Int32} (h : ST σ μ) (hw : xWF σ) (hr : rok σ) (h16 : μ.1 16 = 0) (hn : NX σ μ i0.toInt) (hat : μ.2.2.1 10 ((μ.1 11).toInt - 1).toNat = i0) (hlt : i0.toInt < (μ.2.2.1 9 ((μ.1 11).toInt - 1).toNat).toInt) : 0 ≤ (Xnest_look (Xnest_pass σ)).toInt ∧ (Xnest_look (Xnest_pass σ)).toInt ≤ 127 := by
  have z0 : (0 : Int32).toInt = 0 := rfl
  obtain ⟨lk1, lk2⟩ := look_eq (rok_rs (pass_kp (σ := σ)).1 hr) (n1_of h hw hr h16 hn hat hlt)
  by_cases c9 : (i0 + 1).toInt < (μ.2.2.1 9 ((μ.1 11).toInt - 1).toNat).toInt
  · obtain ⟨-, q2, q3⟩ := lk1 c9; exact ⟨Int.le_of_lt q2, q3⟩
  · rw [lk2 c9, z0]; exact ⟨by decide, by decide⟩
theorem n2_of {σ : XS} {μ : MS} {i0 : Int32} (h : ST σ μ) (hw : xWF σ) (hr : rok σ) (h16 : μ.1 16 = 0) (hn : NX σ μ i0.toInt) (hat : μ.2.2.1 10 ((μ.1 11).toInt - 1).toNat = i0) (hlt : i0.toInt < (μ.2.2.1 9 ((μ.1 11).toInt - 1).toNat).toInt) (ht : 97 ≤ (Xnest_look (Xnest_pass σ)).toInt ∧ (Xnest_look (Xnest_pass σ)).toInt ≤ 100) : NX (Xnest_pass (Xnest_pass σ)) (sa μ 10 ((μ.1 11).toInt - 1).toNat (i0 + 2)) (i0 + 2).toInt := by
  obtain ⟨b0, b1, b2, b3, b4⟩ := nx_b hn
  have z0 : (0 : Int32).toInt = 0 := rfl
  have hn1 := n1_of h hw hr h16 hn hat hlt
  obtain ⟨lk1, lk2⟩ := look_eq (rok_rs (pass_kp (σ := σ)).1 hr) hn1
  have c9 : (i0 + 1).toInt < (μ.2.2.1 9 ((μ.1 11).toInt - 1).toNat).toInt := by
    refine Decidable.byContradiction fun c9 => ?_
    have := lk2 c9
    rw [this, z0] at ht
    exact absurd ht.1 (by decide)
  have hn2 := pass_NX hn1 c9
  rw [i_p1 b0 (by omega), show i0.toInt + 1 + 1 = (i0 + 2).toInt by rw [i_p2 b0 (by omega)]; omega] at hn2
  exact NX_sa10 hn2
theorem lift2 {σ : XS} {μ : MS} {i0 : Int32} (h : ST σ μ) (hw : xWF σ) (hr : rok σ) (h16 : μ.1 16 = 0) (hn : NX σ μ i0.toInt) (hat : μ.2.2.1 10 ((μ.1 11).toInt - 1).toNat = i0) (hlt : i0.toInt < (μ.2.2.1 9 ((μ.1 11).toInt - 1).toNat).toInt) (ht : 97 ≤ (Xnest_look (Xnest_pass σ)).toInt ∧ (Xnest_look (Xnest_pass σ)).toInt ≤ 100) {rx : (String × XS) ⊕ XS} {rm : Int32 × MS} (hcr : cres (Xnest_pass (Xnest_pass σ)) (sa μ 10 ((μ.1 11).toInt - 1).toNat (i0 + 2)) rx rm) : dres σ μ rx rm := by
  obtain ⟨b0, b1, b2, b3, b4⟩ := nx_b hn
  have hkp := pass_kp (σ := σ)
  have hkp2 := pass_kp (σ := Xnest_pass σ)
  have W1 : Wt (sa μ 10 ((μ.1 11).toInt - 1).toNat (i0 + 2)) ≤ Wt μ := by rw [Wt_sa b3, hat, i_p2 b0 (by omega)]; omega
  exact dres_of (hkp.1.tr hkp2.1) (by rw [hkp2.2.1, hkp.2.1]) (NX_at (n2_of h hw hr h16 hn hat hlt ht) (by rw [sa_at])) sa_k rfl W1 hcr
theorem lift2m {σ : XS} {μ : MS} {i0 : Int32} (h : ST σ μ) (hw : xWF σ) (hr : rok σ) (h16 : μ.1 16 = 0) (hn : NX σ μ i0.toInt) (hat : μ.2.2.1 10 ((μ.1 11).toInt - 1).toNat = i0) (hlt : i0.toInt < (μ.2.2.1 9 ((μ.1 11).toInt - 1).toNat).toInt) {rx : (String × XS) ⊕ XS} {rm : Int32 × MS} (hcr : mres (Xnest_pass (Xnest_pass σ)) (sa μ 10 ((μ.1 11).toInt - 1).toNat (i0 + 2)) rx rm) : dres σ μ rx rm := by
  obtain ⟨b0, b1, b2, b3, b4⟩ := nx_b hn
  have hkp := pass_kp (σ := σ)
  have hkp2 := pass_kp (σ := Xnest_pass σ)
  have W1 : Wt (sa μ 10 ((μ.1 11).toInt - 1).toNat (i0 + 2)) + 1 ≤ Wt μ := by rw [Wt_sa b3, hat, i_p2 b0 (by omega)]; omega
  exact mres_dres (hkp.1.tr hkp2.1) (by rw [hkp2.2.1, hkp.2.1]) sa_k rfl W1 hcr
theorem bad_let {σ : XS} {μ : MS} {i0 : Int32} (h : ST σ μ) (hw : xWF σ) (hr : rok σ) (h16 : μ.1 16 = 0) (hn : NX σ μ i0.toInt) (hat : μ.2.2.1 10 ((μ.1 11).toInt - 1).toNat = i0) (hlt : i0.toInt < (μ.2.2.1 9 ((μ.1 11).toInt - 1).toNat).toInt) : dbad σ (Xnest_pass σ) μ (si μ 16 1) "java/lang/IllegalArgumentException" := (kn_bad h (kn_kp pass_kp) (pass_wf hw) (by rw [xcd_1]; exact noC_si)).1
