theorem reg_ex {σ : XS} (h : 97 ≤ (Xnest_look σ).toInt ∧ (Xnest_look σ).toInt ≤ 100) : ∃ q : Nat, Xdesk_registerOfLetter σ = .inr (some (11 + 5 * q), Xnest_pass σ) ∧ rgn (f_register (Xnest_look σ)) q ∧ ¬ f_within ((Xnest_look σ).toInt64) 97 100 = 0 := ⟨_, reg_yes h⟩
theorem cr_115 {σ : XS} {μ : MS} {i0 : Int32} (h : ST σ μ) (hw : xWF σ) (hr : rok σ) (h16 : μ.1 16 = 0) (hn : NX σ μ i0.toInt) (hat : μ.2.2.1 10 ((μ.1 11).toInt - 1).toNat = i0) (hlt : i0.toInt < (μ.2.2.1 9 ((μ.1 11).toInt - 1).toNat).toInt) (hc : Xnest_look σ = 115) {rx : (String × XS) ⊕ XS} {rm : Int32 × MS} (hx : Xdesk_doCommand σ = rx) (hm : F_command μ i0 = rm) : dres σ μ rx rm := by
  have hL := lvN (nx_b hn).2.2.2.1 (nx_b hn).2.2.2.2
  rw [do_115 hc] at hx
  rw [cm_115 ((look_M hr hn).trans hc), look_M (rok_rs (pass_kp (σ := σ)).1 hr) (n1_of h hw hr h16 hn hat hlt), hL] at hm
  by_cases ht : 97 ≤ (Xnest_look (Xnest_pass σ)).toInt ∧ (Xnest_look (Xnest_pass σ)).toInt ≤ 100
  · obtain ⟨q, g1, g2, g3⟩ := reg_ex ht
    rw [if_neg g3] at hm
    have e0 := sto_rel g1 g2 (s2_of (v := i0 + 2) h) (pass_wf (pass_wf hw)) h16
    rw [hx, hm] at e0
    have e := And.left e0
    exact lift2 h hw hr h16 hn hat hlt ht e
  · have g := reg_no ht (look_b h hw hr h16 hn hat hlt)
    rw [if_pos g.2] at hm
    have hx2 : rx = .inl ("java/lang/IllegalArgumentException", Xnest_pass σ) := by rw [← hx]; unfold Xdesk_moveToOrFromRegister; rw [g.1]
    exact dres_no hx2 hm.symm (bad_let h hw hr h16 hn hat hlt)
theorem cr_83 {σ : XS} {μ : MS} {i0 : Int32} (h : ST σ μ) (hw : xWF σ) (hr : rok σ) (h16 : μ.1 16 = 0) (hn : NX σ μ i0.toInt) (hat : μ.2.2.1 10 ((μ.1 11).toInt - 1).toNat = i0) (hlt : i0.toInt < (μ.2.2.1 9 ((μ.1 11).toInt - 1).toNat).toInt) (hc : Xnest_look σ = 83) {rx : (String × XS) ⊕ XS} {rm : Int32 × MS} (hx : Xdesk_doCommand σ = rx) (hm : F_command μ i0 = rm) : dres σ μ rx rm := by
  have hL := lvN (nx_b hn).2.2.2.1 (nx_b hn).2.2.2.2
  rw [do_83 hc] at hx
  rw [cm_83 ((look_M hr hn).trans hc), look_M (rok_rs (pass_kp (σ := σ)).1 hr) (n1_of h hw hr h16 hn hat hlt), hL] at hm
  by_cases ht : 97 ≤ (Xnest_look (Xnest_pass σ)).toInt ∧ (Xnest_look (Xnest_pass σ)).toInt ≤ 100
  · obtain ⟨q, g1, g2, g3⟩ := reg_ex ht
    rw [if_neg g3] at hm
    have e0 := sto_rel g1 g2 (s2_of (v := i0 + 2) h) (pass_wf (pass_wf hw)) h16
    rw [hx, hm] at e0
    have e := And.left (And.right e0)
    exact lift2 h hw hr h16 hn hat hlt ht e
  · have g := reg_no ht (look_b h hw hr h16 hn hat hlt)
    rw [if_pos g.2] at hm
    have hx2 : rx = .inl ("java/lang/IllegalArgumentException", Xnest_pass σ) := by rw [← hx]; unfold Xdesk_moveToOrFromRegister; rw [g.1]
    exact dres_no hx2 hm.symm (bad_let h hw hr h16 hn hat hlt)
theorem cr_108 {σ : XS} {μ : MS} {i0 : Int32} (h : ST σ μ) (hw : xWF σ) (hr : rok σ) (h16 : μ.1 16 = 0) (hn : NX σ μ i0.toInt) (hat : μ.2.2.1 10 ((μ.1 11).toInt - 1).toNat = i0) (hlt : i0.toInt < (μ.2.2.1 9 ((μ.1 11).toInt - 1).toNat).toInt) (hc : Xnest_look σ = 108) {rx : (String × XS) ⊕ XS} {rm : Int32 × MS} (hx : Xdesk_doCommand σ = rx) (hm : F_command μ i0 = rm) : dres σ μ rx rm := by
  have hL := lvN (nx_b hn).2.2.2.1 (nx_b hn).2.2.2.2
  rw [do_108 hc] at hx
  rw [cm_108 ((look_M hr hn).trans hc), look_M (rok_rs (pass_kp (σ := σ)).1 hr) (n1_of h hw hr h16 hn hat hlt), hL] at hm
  by_cases ht : 97 ≤ (Xnest_look (Xnest_pass σ)).toInt ∧ (Xnest_look (Xnest_pass σ)).toInt ≤ 100
  · obtain ⟨q, g1, g2, g3⟩ := reg_ex ht
    rw [if_neg g3] at hm
    have e0 := sto_rel g1 g2 (s2_of (v := i0 + 2) h) (pass_wf (pass_wf hw)) h16
    rw [hx, hm] at e0
    have e := And.left (And.right (And.right e0))
    exact lift2 h hw hr h16 hn hat hlt ht e
  · have g := reg_no ht (look_b h hw hr h16 hn hat hlt)
    rw [if_pos g.2] at hm
    have hx2 : rx = .inl ("java/lang/IllegalArgumentException", Xnest_pass σ) := by rw [← hx]; unfold Xdesk_moveToOrFromRegister; rw [g.1]
    exact dres_no hx2 hm.symm (bad_let h hw hr h16 hn hat hlt)
theorem cr_76 {σ : XS} {μ : MS} {i0 : Int32} (h : ST σ μ) (hw : xWF σ) (hr : rok σ) (h16 : μ.1 16 = 0) (hn : NX σ μ i0.toInt) (hat : μ.2.2.1 10 ((μ.1 11).toInt - 1).toNat = i0) (hlt : i0.toInt < (μ.2.2.1 9 ((μ.1 11).toInt - 1).toNat).toInt) (hc : Xnest_look σ = 76) {rx : (String × XS) ⊕ XS} {rm : Int32 × MS} (hx : Xdesk_doCommand σ = rx) (hm : F_command μ i0 = rm) : dres σ μ rx rm := by
  have hL := lvN (nx_b hn).2.2.2.1 (nx_b hn).2.2.2.2
  rw [do_76 hc] at hx
  rw [cm_76 ((look_M hr hn).trans hc), look_M (rok_rs (pass_kp (σ := σ)).1 hr) (n1_of h hw hr h16 hn hat hlt), hL] at hm
  by_cases ht : 97 ≤ (Xnest_look (Xnest_pass σ)).toInt ∧ (Xnest_look (Xnest_pass σ)).toInt ≤ 100
  · obtain ⟨q, g1, g2, g3⟩ := reg_ex ht
    rw [if_neg g3] at hm
    have e0 := sto_rel g1 g2 (s2_of (v := i0 + 2) h) (pass_wf (pass_wf hw)) h16
    rw [hx, hm] at e0
    have e := And.right (And.right (And.right e0))
    exact lift2 h hw hr h16 hn hat hlt ht e
  · have g := reg_no ht (look_b h hw hr h16 hn hat hlt)
    rw [if_pos g.2] at hm
    have hx2 : rx = .inl ("java/lang/IllegalArgumentException", Xnest_pass σ) := by rw [← hx]; unfold Xdesk_moveToOrFromRegister; rw [g.1]
    exact dres_no hx2 hm.symm (bad_let h hw hr h16 hn hat hlt)
theorem cr_60 {σ : XS} {μ : MS} {i0 : Int32} (h : ST σ μ) (hw : xWF σ) (hr : rok σ) (h16 : μ.1 16 = 0) (hn : NX σ μ i0.toInt) (hat : μ.2.2.1 10 ((μ.1 11).toInt - 1).toNat = i0) (hlt : i0.toInt < (μ.2.2.1 9 ((μ.1 11).toInt - 1).toNat).toInt) (hc : Xnest_look σ = 60) {rx : (String × XS) ⊕ XS} {rm : Int32 × MS} (hx : Xdesk_doCommand σ = rx) (hm : F_command μ i0 = rm) : dres σ μ rx rm := by
  have hL := lvN (nx_b hn).2.2.2.1 (nx_b hn).2.2.2.2
  rw [do_60 hc] at hx
  rw [cm_60 ((look_M hr hn).trans hc), look_M (rok_rs (pass_kp (σ := σ)).1 hr) (n1_of h hw hr h16 hn hat hlt), hL] at hm
  by_cases ht : 97 ≤ (Xnest_look (Xnest_pass σ)).toInt ∧ (Xnest_look (Xnest_pass σ)).toInt ≤ 100
  · obtain ⟨q, g1, g2, g3⟩ := reg_ex ht
    rw [if_neg g3] at hm
    have e0 := tests_rel g1 g2 (s2_of (v := i0 + 2) h) (pass_wf (pass_wf hw)) (rok_rs (pass_kp (σ := Xnest_pass σ)).1 (rok_rs (pass_kp (σ := σ)).1 hr)) h16 (n2_of h hw hr h16 hn hat hlt ht) sa_at
    rw [hx, hm] at e0
    have e := And.left e0
    exact lift2m h hw hr h16 hn hat hlt e
  · have g := reg_no ht (look_b h hw hr h16 hn hat hlt)
    rw [if_pos g.2] at hm
    have hx2 : rx = .inl ("java/lang/IllegalArgumentException", Xnest_pass σ) := by rw [← hx]; unfold Xdesk_runIfOrdered; rw [g.1]
    exact dres_no hx2 hm.symm (bad_let h hw hr h16 hn hat hlt)
theorem cr_62 {σ : XS} {μ : MS} {i0 : Int32} (h : ST σ μ) (hw : xWF σ) (hr : rok σ) (h16 : μ.1 16 = 0) (hn : NX σ μ i0.toInt) (hat : μ.2.2.1 10 ((μ.1 11).toInt - 1).toNat = i0) (hlt : i0.toInt < (μ.2.2.1 9 ((μ.1 11).toInt - 1).toNat).toInt) (hc : Xnest_look σ = 62) {rx : (String × XS) ⊕ XS} {rm : Int32 × MS} (hx : Xdesk_doCommand σ = rx) (hm : F_command μ i0 = rm) : dres σ μ rx rm := by
  have hL := lvN (nx_b hn).2.2.2.1 (nx_b hn).2.2.2.2
  rw [do_62 hc] at hx
  rw [cm_62 ((look_M hr hn).trans hc), look_M (rok_rs (pass_kp (σ := σ)).1 hr) (n1_of h hw hr h16 hn hat hlt), hL] at hm
  by_cases ht : 97 ≤ (Xnest_look (Xnest_pass σ)).toInt ∧ (Xnest_look (Xnest_pass σ)).toInt ≤ 100
  · obtain ⟨q, g1, g2, g3⟩ := reg_ex ht
    rw [if_neg g3] at hm
    have e0 := tests_rel g1 g2 (s2_of (v := i0 + 2) h) (pass_wf (pass_wf hw)) (rok_rs (pass_kp (σ := Xnest_pass σ)).1 (rok_rs (pass_kp (σ := σ)).1 hr)) h16 (n2_of h hw hr h16 hn hat hlt ht) sa_at
    rw [hx, hm] at e0
    have e := And.left (And.right e0)
    exact lift2m h hw hr h16 hn hat hlt e
  · have g := reg_no ht (look_b h hw hr h16 hn hat hlt)
    rw [if_pos g.2] at hm
    have hx2 : rx = .inl ("java/lang/IllegalArgumentException", Xnest_pass σ) := by rw [← hx]; unfold Xdesk_runIfOrdered; rw [g.1]
    exact dres_no hx2 hm.symm (bad_let h hw hr h16 hn hat hlt)
theorem cr_61 {σ : XS} {μ : MS} {i0 : Int32} (h : ST σ μ) (hw : xWF σ) (hr : rok σ) (h16 : μ.1 16 = 0) (hn : NX σ μ i0.toInt) (hat : μ.2.2.1 10 ((μ.1 11).toInt - 1).toNat = i0) (hlt : i0.toInt < (μ.2.2.1 9 ((μ.1 11).toInt - 1).toNat).toInt) (hc : Xnest_look σ = 61) {rx : (String × XS) ⊕ XS} {rm : Int32 × MS} (hx : Xdesk_doCommand σ = rx) (hm : F_command μ i0 = rm) : dres σ μ rx rm := by
  have hL := lvN (nx_b hn).2.2.2.1 (nx_b hn).2.2.2.2
  rw [do_61 hc] at hx
  rw [cm_61 ((look_M hr hn).trans hc), look_M (rok_rs (pass_kp (σ := σ)).1 hr) (n1_of h hw hr h16 hn hat hlt), hL] at hm
  by_cases ht : 97 ≤ (Xnest_look (Xnest_pass σ)).toInt ∧ (Xnest_look (Xnest_pass σ)).toInt ≤ 100
  · obtain ⟨q, g1, g2, g3⟩ := reg_ex ht
    rw [if_neg g3] at hm
    have e0 := tests_rel g1 g2 (s2_of (v := i0 + 2) h) (pass_wf (pass_wf hw)) (rok_rs (pass_kp (σ := Xnest_pass σ)).1 (rok_rs (pass_kp (σ := σ)).1 hr)) h16 (n2_of h hw hr h16 hn hat hlt ht) sa_at
    rw [hx, hm] at e0
    have e := And.right (And.right e0)
    exact lift2m h hw hr h16 hn hat hlt e
  · have g := reg_no ht (look_b h hw hr h16 hn hat hlt)
    rw [if_pos g.2] at hm
    have hx2 : rx = .inl ("java/lang/IllegalArgumentException", Xnest_pass σ) := by rw [← hx]; unfold Xdesk_runIfOrdered; rw [g.1]
    exact dres_no hx2 hm.symm (bad_let h hw hr h16 hn hat hlt)
