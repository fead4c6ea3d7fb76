theorem cr_43 {σ : XS} {μ : MS} {i0 : Int32} (h : ST σ μ) (hw : xWF σ) (hr : rok σ) (h16 : μ.1 16 = 0) (hn : NX σ μ i0.toInt) (hat : μ.2.2.1 10 ((μ.1 11).toInt - 1).toNat = i0) (hlt : i0.toInt < (μ.2.2.1 9 ((μ.1 11).toInt - 1).toNat).toInt) (hc : Xnest_look σ = 43) {rx : (String × XS) ⊕ XS} {rm : Int32 × MS} (hx : Xdesk_doCommand σ = rx) (hm : F_command μ i0 = rm) : dres σ μ rx rm := by
  have hL := lvN (nx_b hn).2.2.2.1 (nx_b hn).2.2.2.2
  rw [do_43 hc] at hx
  rw [cm_43 ((look_M hr hn).trans hc), hL] at hm
  have e0 := calc_rel (s1_of (v := i0 + 1) h) (pass_wf hw) h16
  rw [hx, hm] at e0
  exact lift1 h hw hr h16 hn hat hlt e0.1
theorem cr_45 {σ : XS} {μ : MS} {i0 : Int32} (h : ST σ μ) (hw : xWF σ) (hr : rok σ) (h16 : μ.1 16 = 0) (hn : NX σ μ i0.toInt) (hat : μ.2.2.1 10 ((μ.1 11).toInt - 1).toNat = i0) (hlt : i0.toInt < (μ.2.2.1 9 ((μ.1 11).toInt - 1).toNat).toInt) (hc : Xnest_look σ = 45) {rx : (String × XS) ⊕ XS} {rm : Int32 × MS} (hx : Xdesk_doCommand σ = rx) (hm : F_command μ i0 = rm) : dres σ μ rx rm := by
  have hL := lvN (nx_b hn).2.2.2.1 (nx_b hn).2.2.2.2
  rw [do_45 hc] at hx
  rw [cm_45 ((look_M hr hn).trans hc), hL] at hm
  have e0 := calc_rel (s1_of (v := i0 + 1) h) (pass_wf hw) h16
  rw [hx, hm] at e0
  exact lift1 h hw hr h16 hn hat hlt e0.2.1
theorem cr_42 {σ : XS} {μ : MS} {i0 : Int32} (h : ST σ μ) (hw : xWF σ) (hr : rok σ) (h16 : μ.1 16 = 0) (hn : NX σ μ i0.toInt) (hat : μ.2.2.1 10 ((μ.1 11).toInt - 1).toNat = i0) (hlt : i0.toInt < (μ.2.2.1 9 ((μ.1 11).toInt - 1).toNat).toInt) (hc : Xnest_look σ = 42) {rx : (String × XS) ⊕ XS} {rm : Int32 × MS} (hx : Xdesk_doCommand σ = rx) (hm : F_command μ i0 = rm) : dres σ μ rx rm := by
  have hL := lvN (nx_b hn).2.2.2.1 (nx_b hn).2.2.2.2
  rw [do_42 hc] at hx
  rw [cm_42 ((look_M hr hn).trans hc), hL] at hm
  have e0 := calc_rel (s1_of (v := i0 + 1) h) (pass_wf hw) h16
  rw [hx, hm] at e0
  exact lift1 h hw hr h16 hn hat hlt e0.2.2.1
theorem cr_47 {σ : XS} {μ : MS} {i0 : Int32} (h : ST σ μ) (hw : xWF σ) (hr : rok σ) (h16 : μ.1 16 = 0) (hn : NX σ μ i0.toInt) (hat : μ.2.2.1 10 ((μ.1 11).toInt - 1).toNat = i0) (hlt : i0.toInt < (μ.2.2.1 9 ((μ.1 11).toInt - 1).toNat).toInt) (hc : Xnest_look σ = 47) {rx : (String × XS) ⊕ XS} {rm : Int32 × MS} (hx : Xdesk_doCommand σ = rx) (hm : F_command μ i0 = rm) : dres σ μ rx rm := by
  have hL := lvN (nx_b hn).2.2.2.1 (nx_b hn).2.2.2.2
  rw [do_47 hc] at hx
  rw [cm_47 ((look_M hr hn).trans hc), hL] at hm
  have e0 := calc_rel (s1_of (v := i0 + 1) h) (pass_wf hw) h16
  rw [hx, hm] at e0
  exact lift1 h hw hr h16 hn hat hlt e0.2.2.2.1
theorem cr_37 {σ : XS} {μ : MS} {i0 : Int32} (h : ST σ μ) (hw : xWF σ) (hr : rok σ) (h16 : μ.1 16 = 0) (hn : NX σ μ i0.toInt) (hat : μ.2.2.1 10 ((μ.1 11).toInt - 1).toNat = i0) (hlt : i0.toInt < (μ.2.2.1 9 ((μ.1 11).toInt - 1).toNat).toInt) (hc : Xnest_look σ = 37) {rx : (String × XS) ⊕ XS} {rm : Int32 × MS} (hx : Xdesk_doCommand σ = rx) (hm : F_command μ i0 = rm) : dres σ μ rx rm := by
  have hL := lvN (nx_b hn).2.2.2.1 (nx_b hn).2.2.2.2
  rw [do_37 hc] at hx
  rw [cm_37 ((look_M hr hn).trans hc), hL] at hm
  have e0 := calc_rel (s1_of (v := i0 + 1) h) (pass_wf hw) h16
  rw [hx, hm] at e0
  exact lift1 h hw hr h16 hn hat hlt e0.2.2.2.2
theorem cr_118 {σ : XS} {μ : MS} {i0 : Int32} (h : ST σ μ) (hw : xWF σ) (hr : rok σ) (h16 : μ.1 16 = 0) (hn : NX σ μ i0.toInt) (hat : μ.2.2.1 10 ((μ.1 11).toInt - 1).toNat = i0) (hlt : i0.toInt < (μ.2.2.1 9 ((μ.1 11).toInt - 1).toNat).toInt) (hc : Xnest_look σ = 118) {rx : (String × XS) ⊕ XS} {rm : Int32 × MS} (hx : Xdesk_doCommand σ = rx) (hm : F_command μ i0 = rm) : dres σ μ rx rm := by
  have hL := lvN (nx_b hn).2.2.2.1 (nx_b hn).2.2.2.2
  rw [do_118 hc] at hx
  rw [cm_118 ((look_M hr hn).trans hc), hL] at hm
  have e0 := change_rel (s1_of (v := i0 + 1) h) (pass_wf hw) h16
  rw [hx, hm] at e0
  exact lift1 h hw hr h16 hn hat hlt e0.1
theorem cr_126 {σ : XS} {μ : MS} {i0 : Int32} (h : ST σ μ) (hw : xWF σ) (hr : rok σ) (h16 : μ.1 16 = 0) (hn : NX σ μ i0.toInt) (hat : μ.2.2.1 10 ((μ.1 11).toInt - 1).toNat = i0) (hlt : i0.toInt < (μ.2.2.1 9 ((μ.1 11).toInt - 1).toNat).toInt) (hc : Xnest_look σ = 126) {rx : (String × XS) ⊕ XS} {rm : Int32 × MS} (hx : Xdesk_doCommand σ = rx) (hm : F_command μ i0 = rm) : dres σ μ rx rm := by
  have hL := lvN (nx_b hn).2.2.2.1 (nx_b hn).2.2.2.2
  rw [do_126 hc] at hx
  rw [cm_126 ((look_M hr hn).trans hc), hL] at hm
  have e0 := change_rel (s1_of (v := i0 + 1) h) (pass_wf hw) h16
  rw [hx, hm] at e0
  exact lift1 h hw hr h16 hn hat hlt e0.2.1
theorem cr_107 {σ : XS} {μ : MS} {i0 : Int32} (h : ST σ μ) (hw : xWF σ) (hr : rok σ) (h16 : μ.1 16 = 0) (hn : NX σ μ i0.toInt) (hat : μ.2.2.1 10 ((μ.1 11).toInt - 1).toNat = i0) (hlt : i0.toInt < (μ.2.2.1 9 ((μ.1 11).toInt - 1).toNat).toInt) (hc : Xnest_look σ = 107) {rx : (String × XS) ⊕ XS} {rm : Int32 × MS} (hx : Xdesk_doCommand σ = rx) (hm : F_command μ i0 = rm) : dres σ μ rx rm := by
  have hL := lvN (nx_b hn).2.2.2.1 (nx_b hn).2.2.2.2
  rw [do_107 hc] at hx
  rw [cm_107 ((look_M hr hn).trans hc), hL] at hm
  have e0 := change_rel (s1_of (v := i0 + 1) h) (pass_wf hw) h16
  rw [hx, hm] at e0
  exact lift1 h hw hr h16 hn hat hlt e0.2.2.1
theorem cr_88 {σ : XS} {μ : MS} {i0 : Int32} (h : ST σ μ) (hw : xWF σ) (hr : rok σ) (h16 : μ.1 16 = 0) (hn : NX σ μ i0.toInt) (hat : μ.2.2.1 10 ((μ.1 11).toInt - 1).toNat = i0) (hlt : i0.toInt < (μ.2.2.1 9 ((μ.1 11).toInt - 1).toNat).toInt) (hc : Xnest_look σ = 88) {rx : (String × XS) ⊕ XS} {rm : Int32 × MS} (hx : Xdesk_doCommand σ = rx) (hm : F_command μ i0 = rm) : dres σ μ rx rm := by
  have hL := lvN (nx_b hn).2.2.2.1 (nx_b hn).2.2.2.2
  rw [do_88 hc] at hx
  rw [cm_88 ((look_M hr hn).trans hc), hL] at hm
  have e0 := change_rel (s1_of (v := i0 + 1) h) (pass_wf hw) h16
  rw [hx, hm] at e0
  exact lift1 h hw hr h16 hn hat hlt e0.2.2.2
theorem cr_68 {σ : XS} {μ : MS} {i0 : Int32} (h : ST σ μ) (hw : xWF σ) (hr : rok σ) (h16 : μ.1 16 = 0) (hn : NX σ μ i0.toInt) (hat : μ.2.2.1 10 ((μ.1 11).toInt - 1).toNat = i0) (hlt : i0.toInt < (μ.2.2.1 9 ((μ.1 11).toInt - 1).toNat).toInt) (hc : Xnest_look σ = 68) {rx : (String × XS) ⊕ XS} {rm : Int32 × MS} (hx : Xdesk_doCommand σ = rx) (hm : F_command μ i0 = rm) : dres σ μ rx rm := by
  have hL := lvN (nx_b hn).2.2.2.1 (nx_b hn).2.2.2.2
  rw [do_arr (by rw [hc]; decide) (by rw [hc]; decide), hc] at hx
  rw [cm_68 ((look_M hr hn).trans hc), hL] at hm
  have e0 := arr_rel (s1_of (v := i0 + 1) h) (pass_wf hw) h16
  rw [hx, hm] at e0
  exact lift1 h hw hr h16 hn hat hlt e0.1
theorem cr_75 {σ : XS} {μ : MS} {i0 : Int32} (h : ST σ μ) (hw : xWF σ) (hr : rok σ) (h16 : μ.1 16 = 0) (hn : NX σ μ i0.toInt) (hat : μ.2.2.1 10 ((μ.1 11).toInt - 1).toNat = i0) (hlt : i0.toInt < (μ.2.2.1 9 ((μ.1 11).toInt - 1).toNat).toInt) (hc : Xnest_look σ = 75) {rx : (String × XS) ⊕ XS} {rm : Int32 × MS} (hx : Xdesk_doCommand σ = rx) (hm : F_command μ i0 = rm) : dres σ μ rx rm := by
  have hL := lvN (nx_b hn).2.2.2.1 (nx_b hn).2.2.2.2
  rw [do_arr (by rw [hc]; decide) (by rw [hc]; decide), hc] at hx
  rw [cm_75 ((look_M hr hn).trans hc), hL] at hm
  have e0 := arr_rel (s1_of (v := i0 + 1) h) (pass_wf hw) h16
  rw [hx, hm] at e0
  exact lift1 h hw hr h16 hn hat hlt e0.2.1
theorem cr_99 {σ : XS} {μ : MS} {i0 : Int32} (h : ST σ μ) (hw : xWF σ) (hr : rok σ) (h16 : μ.1 16 = 0) (hn : NX σ μ i0.toInt) (hat : μ.2.2.1 10 ((μ.1 11).toInt - 1).toNat = i0) (hlt : i0.toInt < (μ.2.2.1 9 ((μ.1 11).toInt - 1).toNat).toInt) (hc : Xnest_look σ = 99) {rx : (String × XS) ⊕ XS} {rm : Int32 × MS} (hx : Xdesk_doCommand σ = rx) (hm : F_command μ i0 = rm) : dres σ μ rx rm := by
  have hL := lvN (nx_b hn).2.2.2.1 (nx_b hn).2.2.2.2
  rw [do_arr (by rw [hc]; decide) (by rw [hc]; decide), hc] at hx
  rw [cm_99 ((look_M hr hn).trans hc), hL] at hm
  have e0 := arr_rel (s1_of (v := i0 + 1) h) (pass_wf hw) h16
  rw [hx, hm] at e0
  exact lift1 h hw hr h16 hn hat hlt e0.2.2.1
theorem cr_100 {σ : XS} {μ : MS} {i0 : Int32} (h : ST σ μ) (hw : xWF σ) (hr : rok σ) (h16 : μ.1 16 = 0) (hn : NX σ μ i0.toInt) (hat : μ.2.2.1 10 ((μ.1 11).toInt - 1).toNat = i0) (hlt : i0.toInt < (μ.2.2.1 9 ((μ.1 11).toInt - 1).toNat).toInt) (hc : Xnest_look σ = 100) {rx : (String × XS) ⊕ XS} {rm : Int32 × MS} (hx : Xdesk_doCommand σ = rx) (hm : F_command μ i0 = rm) : dres σ μ rx rm := by
  have hL := lvN (nx_b hn).2.2.2.1 (nx_b hn).2.2.2.2
  rw [do_arr (by rw [hc]; decide) (by rw [hc]; decide), hc] at hx
  rw [cm_100 ((look_M hr hn).trans hc), hL] at hm
  have e0 := arr_rel (s1_of (v := i0 + 1) h) (pass_wf hw) h16
  rw [hx, hm] at e0
  exact lift1 h hw hr h16 hn hat hlt e0.2.2.2.1
theorem cr_112 {σ : XS} {μ : MS} {i0 : Int32} (h : ST σ μ) (hw : xWF σ) (hr : rok σ) (h16 : μ.1 16 = 0) (hn : NX σ μ i0.toInt) (hat : μ.2.2.1 10 ((μ.1 11).toInt - 1).toNat = i0) (hlt : i0.toInt < (μ.2.2.1 9 ((μ.1 11).toInt - 1).toNat).toInt) (hc : Xnest_look σ = 112) {rx : (String × XS) ⊕ XS} {rm : Int32 × MS} (hx : Xdesk_doCommand σ = rx) (hm : F_command μ i0 = rm) : dres σ μ rx rm := by
  have hL := lvN (nx_b hn).2.2.2.1 (nx_b hn).2.2.2.2
  rw [do_arr (by rw [hc]; decide) (by rw [hc]; decide), hc] at hx
  rw [cm_112 ((look_M hr hn).trans hc), hL] at hm
  have e0 := arr_rel (s1_of (v := i0 + 1) h) (pass_wf hw) h16
  rw [hx, hm] at e0
  exact lift1 h hw hr h16 hn hat hlt e0.2.2.2.2.1
theorem cr_114 {σ : XS} {μ : MS} {i0 : Int32} (h : ST σ μ) (hw : xWF σ) (hr : rok σ) (h16 : μ.1 16 = 0) (hn : NX σ μ i0.toInt) (hat : μ.2.2.1 10 ((μ.1 11).toInt - 1).toNat = i0) (hlt : i0.toInt < (μ.2.2.1 9 ((μ.1 11).toInt - 1).toNat).toInt) (hc : Xnest_look σ = 114) {rx : (String × XS) ⊕ XS} {rm : Int32 × MS} (hx : Xdesk_doCommand σ = rx) (hm : F_command μ i0 = rm) : dres σ μ rx rm := by
  have hL := lvN (nx_b hn).2.2.2.1 (nx_b hn).2.2.2.2
  rw [do_arr (by rw [hc]; decide) (by rw [hc]; decide), hc] at hx
  rw [cm_114 ((look_M hr hn).trans hc), hL] at hm
  have e0 := arr_rel (s1_of (v := i0 + 1) h) (pass_wf hw) h16
  rw [hx, hm] at e0
  exact lift1 h hw hr h16 hn hat hlt e0.2.2.2.2.2.1
theorem cr_122 {σ : XS} {μ : MS} {i0 : Int32} (h : ST σ μ) (hw : xWF σ) (hr : rok σ) (h16 : μ.1 16 = 0) (hn : NX σ μ i0.toInt) (hat : μ.2.2.1 10 ((μ.1 11).toInt - 1).toNat = i0) (hlt : i0.toInt < (μ.2.2.1 9 ((μ.1 11).toInt - 1).toNat).toInt) (hc : Xnest_look σ = 122) {rx : (String × XS) ⊕ XS} {rm : Int32 × MS} (hx : Xdesk_doCommand σ = rx) (hm : F_command μ i0 = rm) : dres σ μ rx rm := by
  have hL := lvN (nx_b hn).2.2.2.1 (nx_b hn).2.2.2.2
  rw [do_arr (by rw [hc]; decide) (by rw [hc]; decide), hc] at hx
  rw [cm_122 ((look_M hr hn).trans hc), hL] at hm
  have e0 := arr_rel (s1_of (v := i0 + 1) h) (pass_wf hw) h16
  rw [hx, hm] at e0
  exact lift1 h hw hr h16 hn hat hlt e0.2.2.2.2.2.2
