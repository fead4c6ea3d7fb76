theorem ric_43 {σ : XS} {μ : MS} {i0 : Int32} (h : ST σ μ) (hw : xWF σ) (hr : rok σ) (h16 : μ.1 16 = 0) (hn : NX σ μ i0.toInt) (hat : μ.2.2.1 10 ((μ.1 11).toInt - 1).toNat = i0) (hlt : i0.toInt < (μ.2.2.1 9 ((μ.1 11).toInt - 1).toNat).toInt) (hR : RI μ) (hc : Xnest_look σ = 43) {rm : Int32 × MS} (hm : F_command μ i0 = rm) : RI rm.2 := by
  have b := nx_b hn
  have hL := lvN b.2.2.2.1 b.2.2.2.2
  have r1 : RI (sa μ 10 ((μ.1 11).toInt - 1).toNat (i0 + 1)) := ri_at (by rw [i_p1 b.1 (Int.le_trans b.2.1 b.2.2.1)]; exact Int.le_trans b.1 (Int.le_of_lt (Int.lt_succ _))) hR
  have r2 : RI (sa μ 10 ((μ.1 11).toInt - 1).toNat (i0 + 2)) := ri_at (by rw [i_p2 b.1 (Int.le_trans b.2.1 b.2.2.1)]; exact Int.le_trans b.1 (Int.le_add_of_nonneg_right (by decide))) hR
  rw [cm_43 ((look_M hr hn).trans hc), hL] at hm
  have e0 := calc_rel (s1_of (v := i0 + 1) h) (pass_wf hw) h16
  have f0 := calc_fs (s1_of (v := i0 + 1) h)
  rw [hm] at e0 f0
  exact RI_cres r1 e0.1 f0.1
theorem ric_45 {σ : XS} {μ : MS} {i0 : Int32} (h : ST σ μ) (hw : xWF σ) (hr : rok σ) (h16 : μ.1 16 = 0) (hn : NX σ μ i0.toInt) (hat : μ.2.2.1 10 ((μ.1 11).toInt - 1).toNat = i0) (hlt : i0.toInt < (μ.2.2.1 9 ((μ.1 11).toInt - 1).toNat).toInt) (hR : RI μ) (hc : Xnest_look σ = 45) {rm : Int32 × MS} (hm : F_command μ i0 = rm) : RI rm.2 := by
  have b := nx_b hn
  have hL := lvN b.2.2.2.1 b.2.2.2.2
  have r1 : RI (sa μ 10 ((μ.1 11).toInt - 1).toNat (i0 + 1)) := ri_at (by rw [i_p1 b.1 (Int.le_trans b.2.1 b.2.2.1)]; exact Int.le_trans b.1 (Int.le_of_lt (Int.lt_succ _))) hR
  have r2 : RI (sa μ 10 ((μ.1 11).toInt - 1).toNat (i0 + 2)) := ri_at (by rw [i_p2 b.1 (Int.le_trans b.2.1 b.2.2.1)]; exact Int.le_trans b.1 (Int.le_add_of_nonneg_right (by decide))) hR
  rw [cm_45 ((look_M hr hn).trans hc), hL] at hm
  have e0 := calc_rel (s1_of (v := i0 + 1) h) (pass_wf hw) h16
  have f0 := calc_fs (s1_of (v := i0 + 1) h)
  rw [hm] at e0 f0
  exact RI_cres r1 e0.2.1 f0.2.1
theorem ric_42 {σ : XS} {μ : MS} {i0 : Int32} (h : ST σ μ) (hw : xWF σ) (hr : rok σ) (h16 : μ.1 16 = 0) (hn : NX σ μ i0.toInt) (hat : μ.2.2.1 10 ((μ.1 11).toInt - 1).toNat = i0) (hlt : i0.toInt < (μ.2.2.1 9 ((μ.1 11).toInt - 1).toNat).toInt) (hR : RI μ) (hc : Xnest_look σ = 42) {rm : Int32 × MS} (hm : F_command μ i0 = rm) : RI rm.2 := by
  have b := nx_b hn
  have hL := lvN b.2.2.2.1 b.2.2.2.2
  have r1 : RI (sa μ 10 ((μ.1 11).toInt - 1).toNat (i0 + 1)) := ri_at (by rw [i_p1 b.1 (Int.le_trans b.2.1 b.2.2.1)]; exact Int.le_trans b.1 (Int.le_of_lt (Int.lt_succ _))) hR
  have r2 : RI (sa μ 10 ((μ.1 11).toInt - 1).toNat (i0 + 2)) := ri_at (by rw [i_p2 b.1 (Int.le_trans b.2.1 b.2.2.1)]; exact Int.le_trans b.1 (Int.le_add_of_nonneg_right (by decide))) hR
  rw [cm_42 ((look_M hr hn).trans hc), hL] at hm
  have e0 := calc_rel (s1_of (v := i0 + 1) h) (pass_wf hw) h16
  have f0 := calc_fs (s1_of (v := i0 + 1) h)
  rw [hm] at e0 f0
  exact RI_cres r1 e0.2.2.1 f0.2.2.1
theorem ric_47 {σ : XS} {μ : MS} {i0 : Int32} (h : ST σ μ) (hw : xWF σ) (hr : rok σ) (h16 : μ.1 16 = 0) (hn : NX σ μ i0.toInt) (hat : μ.2.2.1 10 ((μ.1 11).toInt - 1).toNat = i0) (hlt : i0.toInt < (μ.2.2.1 9 ((μ.1 11).toInt - 1).toNat).toInt) (hR : RI μ) (hc : Xnest_look σ = 47) {rm : Int32 × MS} (hm : F_command μ i0 = rm) : RI rm.2 := by
  have b := nx_b hn
  have hL := lvN b.2.2.2.1 b.2.2.2.2
  have r1 : RI (sa μ 10 ((μ.1 11).toInt - 1).toNat (i0 + 1)) := ri_at (by rw [i_p1 b.1 (Int.le_trans b.2.1 b.2.2.1)]; exact Int.le_trans b.1 (Int.le_of_lt (Int.lt_succ _))) hR
  have r2 : RI (sa μ 10 ((μ.1 11).toInt - 1).toNat (i0 + 2)) := ri_at (by rw [i_p2 b.1 (Int.le_trans b.2.1 b.2.2.1)]; exact Int.le_trans b.1 (Int.le_add_of_nonneg_right (by decide))) hR
  rw [cm_47 ((look_M hr hn).trans hc), hL] at hm
  have e0 := calc_rel (s1_of (v := i0 + 1) h) (pass_wf hw) h16
  have f0 := calc_fs (s1_of (v := i0 + 1) h)
  rw [hm] at e0 f0
  exact RI_cres r1 e0.2.2.2.1 f0.2.2.2.1
theorem ric_37 {σ : XS} {μ : MS} {i0 : Int32} (h : ST σ μ) (hw : xWF σ) (hr : rok σ) (h16 : μ.1 16 = 0) (hn : NX σ μ i0.toInt) (hat : μ.2.2.1 10 ((μ.1 11).toInt - 1).toNat = i0) (hlt : i0.toInt < (μ.2.2.1 9 ((μ.1 11).toInt - 1).toNat).toInt) (hR : RI μ) (hc : Xnest_look σ = 37) {rm : Int32 × MS} (hm : F_command μ i0 = rm) : RI rm.2 := by
  have b := nx_b hn
  have hL := lvN b.2.2.2.1 b.2.2.2.2
  have r1 : RI (sa μ 10 ((μ.1 11).toInt - 1).toNat (i0 + 1)) := ri_at (by rw [i_p1 b.1 (Int.le_trans b.2.1 b.2.2.1)]; exact Int.le_trans b.1 (Int.le_of_lt (Int.lt_succ _))) hR
  have r2 : RI (sa μ 10 ((μ.1 11).toInt - 1).toNat (i0 + 2)) := ri_at (by rw [i_p2 b.1 (Int.le_trans b.2.1 b.2.2.1)]; exact Int.le_trans b.1 (Int.le_add_of_nonneg_right (by decide))) hR
  rw [cm_37 ((look_M hr hn).trans hc), hL] at hm
  have e0 := calc_rel (s1_of (v := i0 + 1) h) (pass_wf hw) h16
  have f0 := calc_fs (s1_of (v := i0 + 1) h)
  rw [hm] at e0 f0
  exact RI_cres r1 e0.2.2.2.2 f0.2.2.2.2
theorem ric_118 {σ : XS} {μ : MS} {i0 : Int32} (h : ST σ μ) (hw : xWF σ) (hr : rok σ) (h16 : μ.1 16 = 0) (hn : NX σ μ i0.toInt) (hat : μ.2.2.1 10 ((μ.1 11).toInt - 1).toNat = i0) (hlt : i0.toInt < (μ.2.2.1 9 ((μ.1 11).toInt - 1).toNat).toInt) (hR : RI μ) (hc : Xnest_look σ = 118) {rm : Int32 × MS} (hm : F_command μ i0 = rm) : RI rm.2 := by
  have b := nx_b hn
  have hL := lvN b.2.2.2.1 b.2.2.2.2
  have r1 : RI (sa μ 10 ((μ.1 11).toInt - 1).toNat (i0 + 1)) := ri_at (by rw [i_p1 b.1 (Int.le_trans b.2.1 b.2.2.1)]; exact Int.le_trans b.1 (Int.le_of_lt (Int.lt_succ _))) hR
  have r2 : RI (sa μ 10 ((μ.1 11).toInt - 1).toNat (i0 + 2)) := ri_at (by rw [i_p2 b.1 (Int.le_trans b.2.1 b.2.2.1)]; exact Int.le_trans b.1 (Int.le_add_of_nonneg_right (by decide))) hR
  rw [cm_118 ((look_M hr hn).trans hc), hL] at hm
  have e0 := change_rel (s1_of (v := i0 + 1) h) (pass_wf hw) h16
  have f0 := change_fs (s1_of (v := i0 + 1) h)
  rw [hm] at e0 f0
  exact RI_cres r1 e0.1 f0.1
theorem ric_126 {σ : XS} {μ : MS} {i0 : Int32} (h : ST σ μ) (hw : xWF σ) (hr : rok σ) (h16 : μ.1 16 = 0) (hn : NX σ μ i0.toInt) (hat : μ.2.2.1 10 ((μ.1 11).toInt - 1).toNat = i0) (hlt : i0.toInt < (μ.2.2.1 9 ((μ.1 11).toInt - 1).toNat).toInt) (hR : RI μ) (hc : Xnest_look σ = 126) {rm : Int32 × MS} (hm : F_command μ i0 = rm) : RI rm.2 := by
  have b := nx_b hn
  have hL := lvN b.2.2.2.1 b.2.2.2.2
  have r1 : RI (sa μ 10 ((μ.1 11).toInt - 1).toNat (i0 + 1)) := ri_at (by rw [i_p1 b.1 (Int.le_trans b.2.1 b.2.2.1)]; exact Int.le_trans b.1 (Int.le_of_lt (Int.lt_succ _))) hR
  have r2 : RI (sa μ 10 ((μ.1 11).toInt - 1).toNat (i0 + 2)) := ri_at (by rw [i_p2 b.1 (Int.le_trans b.2.1 b.2.2.1)]; exact Int.le_trans b.1 (Int.le_add_of_nonneg_right (by decide))) hR
  rw [cm_126 ((look_M hr hn).trans hc), hL] at hm
  have e0 := change_rel (s1_of (v := i0 + 1) h) (pass_wf hw) h16
  have f0 := change_fs (s1_of (v := i0 + 1) h)
  rw [hm] at e0 f0
  exact RI_cres r1 e0.2.1 f0.2.1
theorem ric_107 {σ : XS} {μ : MS} {i0 : Int32} (h : ST σ μ) (hw : xWF σ) (hr : rok σ) (h16 : μ.1 16 = 0) (hn : NX σ μ i0.toInt) (hat : μ.2.2.1 10 ((μ.1 11).toInt - 1).toNat = i0) (hlt : i0.toInt < (μ.2.2.1 9 ((μ.1 11).toInt - 1).toNat).toInt) (hR : RI μ) (hc : Xnest_look σ = 107) {rm : Int32 × MS} (hm : F_command μ i0 = rm) : RI rm.2 := by
  have b := nx_b hn
  have hL := lvN b.2.2.2.1 b.2.2.2.2
  have r1 : RI (sa μ 10 ((μ.1 11).toInt - 1).toNat (i0 + 1)) := ri_at (by rw [i_p1 b.1 (Int.le_trans b.2.1 b.2.2.1)]; exact Int.le_trans b.1 (Int.le_of_lt (Int.lt_succ _))) hR
  have r2 : RI (sa μ 10 ((μ.1 11).toInt - 1).toNat (i0 + 2)) := ri_at (by rw [i_p2 b.1 (Int.le_trans b.2.1 b.2.2.1)]; exact Int.le_trans b.1 (Int.le_add_of_nonneg_right (by decide))) hR
  rw [cm_107 ((look_M hr hn).trans hc), hL] at hm
  have e0 := change_rel (s1_of (v := i0 + 1) h) (pass_wf hw) h16
  have f0 := change_fs (s1_of (v := i0 + 1) h)
  rw [hm] at e0 f0
  exact RI_cres r1 e0.2.2.1 f0.2.2.1
theorem ric_88 {σ : XS} {μ : MS} {i0 : Int32} (h : ST σ μ) (hw : xWF σ) (hr : rok σ) (h16 : μ.1 16 = 0) (hn : NX σ μ i0.toInt) (hat : μ.2.2.1 10 ((μ.1 11).toInt - 1).toNat = i0) (hlt : i0.toInt < (μ.2.2.1 9 ((μ.1 11).toInt - 1).toNat).toInt) (hR : RI μ) (hc : Xnest_look σ = 88) {rm : Int32 × MS} (hm : F_command μ i0 = rm) : RI rm.2 := by
  have b := nx_b hn
  have hL := lvN b.2.2.2.1 b.2.2.2.2
  have r1 : RI (sa μ 10 ((μ.1 11).toInt - 1).toNat (i0 + 1)) := ri_at (by rw [i_p1 b.1 (Int.le_trans b.2.1 b.2.2.1)]; exact Int.le_trans b.1 (Int.le_of_lt (Int.lt_succ _))) hR
  have r2 : RI (sa μ 10 ((μ.1 11).toInt - 1).toNat (i0 + 2)) := ri_at (by rw [i_p2 b.1 (Int.le_trans b.2.1 b.2.2.1)]; exact Int.le_trans b.1 (Int.le_add_of_nonneg_right (by decide))) hR
  rw [cm_88 ((look_M hr hn).trans hc), hL] at hm
  have e0 := change_rel (s1_of (v := i0 + 1) h) (pass_wf hw) h16
  have f0 := change_fs (s1_of (v := i0 + 1) h)
  rw [hm] at e0 f0
  exact RI_cres r1 e0.2.2.2 f0.2.2.2
theorem ric_68 {σ : XS} {μ : MS} {i0 : Int32} (h : ST σ μ) (hw : xWF σ) (hr : rok σ) (h16 : μ.1 16 = 0) (hn : NX σ μ i0.toInt) (hat : μ.2.2.1 10 ((μ.1 11).toInt - 1).toNat = i0) (hlt : i0.toInt < (μ.2.2.1 9 ((μ.1 11).toInt - 1).toNat).toInt) (hR : RI μ) (hc : Xnest_look σ = 68) {rm : Int32 × MS} (hm : F_command μ i0 = rm) : RI rm.2 := by
  have b := nx_b hn
  have hL := lvN b.2.2.2.1 b.2.2.2.2
  have r1 : RI (sa μ 10 ((μ.1 11).toInt - 1).toNat (i0 + 1)) := ri_at (by rw [i_p1 b.1 (Int.le_trans b.2.1 b.2.2.1)]; exact Int.le_trans b.1 (Int.le_of_lt (Int.lt_succ _))) hR
  have r2 : RI (sa μ 10 ((μ.1 11).toInt - 1).toNat (i0 + 2)) := ri_at (by rw [i_p2 b.1 (Int.le_trans b.2.1 b.2.2.1)]; exact Int.le_trans b.1 (Int.le_add_of_nonneg_right (by decide))) hR
  rw [cm_68 ((look_M hr hn).trans hc), hL] at hm
  have e0 := arr_rel (s1_of (v := i0 + 1) h) (pass_wf hw) h16
  have f0 := moves_fs (s1_of (v := i0 + 1) h)
  rw [hm] at e0 f0
  exact RI_cres r1 e0.1 f0.1
theorem ric_75 {σ : XS} {μ : MS} {i0 : Int32} (h : ST σ μ) (hw : xWF σ) (hr : rok σ) (h16 : μ.1 16 = 0) (hn : NX σ μ i0.toInt) (hat : μ.2.2.1 10 ((μ.1 11).toInt - 1).toNat = i0) (hlt : i0.toInt < (μ.2.2.1 9 ((μ.1 11).toInt - 1).toNat).toInt) (hR : RI μ) (hc : Xnest_look σ = 75) {rm : Int32 × MS} (hm : F_command μ i0 = rm) : RI rm.2 := by
  have b := nx_b hn
  have hL := lvN b.2.2.2.1 b.2.2.2.2
  have r1 : RI (sa μ 10 ((μ.1 11).toInt - 1).toNat (i0 + 1)) := ri_at (by rw [i_p1 b.1 (Int.le_trans b.2.1 b.2.2.1)]; exact Int.le_trans b.1 (Int.le_of_lt (Int.lt_succ _))) hR
  have r2 : RI (sa μ 10 ((μ.1 11).toInt - 1).toNat (i0 + 2)) := ri_at (by rw [i_p2 b.1 (Int.le_trans b.2.1 b.2.2.1)]; exact Int.le_trans b.1 (Int.le_add_of_nonneg_right (by decide))) hR
  rw [cm_75 ((look_M hr hn).trans hc), hL] at hm
  have e0 := arr_rel (s1_of (v := i0 + 1) h) (pass_wf hw) h16
  have f0 := moves_fs (s1_of (v := i0 + 1) h)
  rw [hm] at e0 f0
  exact RI_cres r1 e0.2.1 f0.2.1
theorem ric_99 {σ : XS} {μ : MS} {i0 : Int32} (h : ST σ μ) (hw : xWF σ) (hr : rok σ) (h16 : μ.1 16 = 0) (hn : NX σ μ i0.toInt) (hat : μ.2.2.1 10 ((μ.1 11).toInt - 1).toNat = i0) (hlt : i0.toInt < (μ.2.2.1 9 ((μ.1 11).toInt - 1).toNat).toInt) (hR : RI μ) (hc : Xnest_look σ = 99) {rm : Int32 × MS} (hm : F_command μ i0 = rm) : RI rm.2 := by
  have b := nx_b hn
  have hL := lvN b.2.2.2.1 b.2.2.2.2
  have r1 : RI (sa μ 10 ((μ.1 11).toInt - 1).toNat (i0 + 1)) := ri_at (by rw [i_p1 b.1 (Int.le_trans b.2.1 b.2.2.1)]; exact Int.le_trans b.1 (Int.le_of_lt (Int.lt_succ _))) hR
  have r2 : RI (sa μ 10 ((μ.1 11).toInt - 1).toNat (i0 + 2)) := ri_at (by rw [i_p2 b.1 (Int.le_trans b.2.1 b.2.2.1)]; exact Int.le_trans b.1 (Int.le_add_of_nonneg_right (by decide))) hR
  rw [cm_99 ((look_M hr hn).trans hc), hL] at hm
  have e0 := arr_rel (s1_of (v := i0 + 1) h) (pass_wf hw) h16
  have f0 := moves_fs (s1_of (v := i0 + 1) h)
  rw [hm] at e0 f0
  exact RI_cres r1 e0.2.2.1 f0.2.2.1
theorem ric_100 {σ : XS} {μ : MS} {i0 : Int32} (h : ST σ μ) (hw : xWF σ) (hr : rok σ) (h16 : μ.1 16 = 0) (hn : NX σ μ i0.toInt) (hat : μ.2.2.1 10 ((μ.1 11).toInt - 1).toNat = i0) (hlt : i0.toInt < (μ.2.2.1 9 ((μ.1 11).toInt - 1).toNat).toInt) (hR : RI μ) (hc : Xnest_look σ = 100) {rm : Int32 × MS} (hm : F_command μ i0 = rm) : RI rm.2 := by
  have b := nx_b hn
  have hL := lvN b.2.2.2.1 b.2.2.2.2
  have r1 : RI (sa μ 10 ((μ.1 11).toInt - 1).toNat (i0 + 1)) := ri_at (by rw [i_p1 b.1 (Int.le_trans b.2.1 b.2.2.1)]; exact Int.le_trans b.1 (Int.le_of_lt (Int.lt_succ _))) hR
  have r2 : RI (sa μ 10 ((μ.1 11).toInt - 1).toNat (i0 + 2)) := ri_at (by rw [i_p2 b.1 (Int.le_trans b.2.1 b.2.2.1)]; exact Int.le_trans b.1 (Int.le_add_of_nonneg_right (by decide))) hR
  rw [cm_100 ((look_M hr hn).trans hc), hL] at hm
  have e0 := arr_rel (s1_of (v := i0 + 1) h) (pass_wf hw) h16
  have f0 := moves_fs (s1_of (v := i0 + 1) h)
  rw [hm] at e0 f0
  exact RI_cres r1 e0.2.2.2.1 f0.2.2.2.1
theorem ric_112 {σ : XS} {μ : MS} {i0 : Int32} (h : ST σ μ) (hw : xWF σ) (hr : rok σ) (h16 : μ.1 16 = 0) (hn : NX σ μ i0.toInt) (hat : μ.2.2.1 10 ((μ.1 11).toInt - 1).toNat = i0) (hlt : i0.toInt < (μ.2.2.1 9 ((μ.1 11).toInt - 1).toNat).toInt) (hR : RI μ) (hc : Xnest_look σ = 112) {rm : Int32 × MS} (hm : F_command μ i0 = rm) : RI rm.2 := by
  have b := nx_b hn
  have hL := lvN b.2.2.2.1 b.2.2.2.2
  have r1 : RI (sa μ 10 ((μ.1 11).toInt - 1).toNat (i0 + 1)) := ri_at (by rw [i_p1 b.1 (Int.le_trans b.2.1 b.2.2.1)]; exact Int.le_trans b.1 (Int.le_of_lt (Int.lt_succ _))) hR
  have r2 : RI (sa μ 10 ((μ.1 11).toInt - 1).toNat (i0 + 2)) := ri_at (by rw [i_p2 b.1 (Int.le_trans b.2.1 b.2.2.1)]; exact Int.le_trans b.1 (Int.le_add_of_nonneg_right (by decide))) hR
  rw [cm_112 ((look_M hr hn).trans hc), hL] at hm
  have e0 := arr_rel (s1_of (v := i0 + 1) h) (pass_wf hw) h16
  have f0 := moves_fs (s1_of (v := i0 + 1) h)
  rw [hm] at e0 f0
  exact RI_cres r1 e0.2.2.2.2.1 f0.2.2.2.2.1
theorem ric_114 {σ : XS} {μ : MS} {i0 : Int32} (h : ST σ μ) (hw : xWF σ) (hr : rok σ) (h16 : μ.1 16 = 0) (hn : NX σ μ i0.toInt) (hat : μ.2.2.1 10 ((μ.1 11).toInt - 1).toNat = i0) (hlt : i0.toInt < (μ.2.2.1 9 ((μ.1 11).toInt - 1).toNat).toInt) (hR : RI μ) (hc : Xnest_look σ = 114) {rm : Int32 × MS} (hm : F_command μ i0 = rm) : RI rm.2 := by
  have b := nx_b hn
  have hL := lvN b.2.2.2.1 b.2.2.2.2
  have r1 : RI (sa μ 10 ((μ.1 11).toInt - 1).toNat (i0 + 1)) := ri_at (by rw [i_p1 b.1 (Int.le_trans b.2.1 b.2.2.1)]; exact Int.le_trans b.1 (Int.le_of_lt (Int.lt_succ _))) hR
  have r2 : RI (sa μ 10 ((μ.1 11).toInt - 1).toNat (i0 + 2)) := ri_at (by rw [i_p2 b.1 (Int.le_trans b.2.1 b.2.2.1)]; exact Int.le_trans b.1 (Int.le_add_of_nonneg_right (by decide))) hR
  rw [cm_114 ((look_M hr hn).trans hc), hL] at hm
  have e0 := arr_rel (s1_of (v := i0 + 1) h) (pass_wf hw) h16
  have f0 := moves_fs (s1_of (v := i0 + 1) h)
  rw [hm] at e0 f0
  exact RI_cres r1 e0.2.2.2.2.2.1 f0.2.2.2.2.2.1
theorem ric_122 {σ : XS} {μ : MS} {i0 : Int32} (h : ST σ μ) (hw : xWF σ) (hr : rok σ) (h16 : μ.1 16 = 0) (hn : NX σ μ i0.toInt) (hat : μ.2.2.1 10 ((μ.1 11).toInt - 1).toNat = i0) (hlt : i0.toInt < (μ.2.2.1 9 ((μ.1 11).toInt - 1).toNat).toInt) (hR : RI μ) (hc : Xnest_look σ = 122) {rm : Int32 × MS} (hm : F_command μ i0 = rm) : RI rm.2 := by
  have b := nx_b hn
  have hL := lvN b.2.2.2.1 b.2.2.2.2
  have r1 : RI (sa μ 10 ((μ.1 11).toInt - 1).toNat (i0 + 1)) := ri_at (by rw [i_p1 b.1 (Int.le_trans b.2.1 b.2.2.1)]; exact Int.le_trans b.1 (Int.le_of_lt (Int.lt_succ _))) hR
  have r2 : RI (sa μ 10 ((μ.1 11).toInt - 1).toNat (i0 + 2)) := ri_at (by rw [i_p2 b.1 (Int.le_trans b.2.1 b.2.2.1)]; exact Int.le_trans b.1 (Int.le_add_of_nonneg_right (by decide))) hR
  rw [cm_122 ((look_M hr hn).trans hc), hL] at hm
  have e0 := arr_rel (s1_of (v := i0 + 1) h) (pass_wf hw) h16
  have f0 := moves_fs (s1_of (v := i0 + 1) h)
  rw [hm] at e0 f0
  exact RI_cres r1 e0.2.2.2.2.2.2 f0.2.2.2.2.2.2
theorem ric_115 {σ : XS} {μ : MS} {i0 : Int32} (h : ST σ μ) (hw : xWF σ) (hr : rok σ) (h16 : μ.1 16 = 0) (hn : NX σ μ i0.toInt) (hat : μ.2.2.1 10 ((μ.1 11).toInt - 1).toNat = i0) (hlt : i0.toInt < (μ.2.2.1 9 ((μ.1 11).toInt - 1).toNat).toInt) (hR : RI μ) (hc : Xnest_look σ = 115) {rm : Int32 × MS} (hm : F_command μ i0 = rm) : RI rm.2 := by
  have b := nx_b hn
  have hL := lvN b.2.2.2.1 b.2.2.2.2
  have r1 : RI (sa μ 10 ((μ.1 11).toInt - 1).toNat (i0 + 1)) := ri_at (by rw [i_p1 b.1 (Int.le_trans b.2.1 b.2.2.1)]; exact Int.le_trans b.1 (Int.le_of_lt (Int.lt_succ _))) hR
  have r2 : RI (sa μ 10 ((μ.1 11).toInt - 1).toNat (i0 + 2)) := ri_at (by rw [i_p2 b.1 (Int.le_trans b.2.1 b.2.2.1)]; exact Int.le_trans b.1 (Int.le_add_of_nonneg_right (by decide))) hR
  rw [cm_115 ((look_M hr hn).trans hc), look_M (rok_rs (pass_kp (σ := σ)).1 hr) (n1_of h hw hr h16 hn hat hlt), hL] at hm
  by_cases ht : 97 ≤ (Xnest_look (Xnest_pass σ)).toInt ∧ (Xnest_look (Xnest_pass σ)).toInt ≤ 100
  · obtain ⟨q, g1, g2, g3⟩ := reg_ex ht
    rw [if_neg g3] at hm
    have e0 := sto_rel g1 g2 (s2_of (v := i0 + 2) h) (pass_wf (pass_wf hw)) h16
    generalize Xdesk_moveToOrFromRegister (Xnest_pass σ) 115 = rx at e0
    rw [hm] at e0
    have f0 := stores_fs g2 (s2_of (v := i0 + 2) h)
    rw [hm] at f0
    exact RI_cres r2 e0.1 f0.1
  · have g := reg_no ht (look_b h hw hr h16 hn hat hlt)
    rw [if_pos g.2] at hm
    rw [← hm]
    exact ri_si (Or.inr (Or.inl rfl)) hR
theorem ric_83 {σ : XS} {μ : MS} {i0 : Int32} (h : ST σ μ) (hw : xWF σ) (hr : rok σ) (h16 : μ.1 16 = 0) (hn : NX σ μ i0.toInt) (hat : μ.2.2.1 10 ((μ.1 11).toInt - 1).toNat = i0) (hlt : i0.toInt < (μ.2.2.1 9 ((μ.1 11).toInt - 1).toNat).toInt) (hR : RI μ) (hc : Xnest_look σ = 83) {rm : Int32 × MS} (hm : F_command μ i0 = rm) : RI rm.2 := by
  have b := nx_b hn
  have hL := lvN b.2.2.2.1 b.2.2.2.2
  have r1 : RI (sa μ 10 ((μ.1 11).toInt - 1).toNat (i0 + 1)) := ri_at (by rw [i_p1 b.1 (Int.le_trans b.2.1 b.2.2.1)]; exact Int.le_trans b.1 (Int.le_of_lt (Int.lt_succ _))) hR
  have r2 : RI (sa μ 10 ((μ.1 11).toInt - 1).toNat (i0 + 2)) := ri_at (by rw [i_p2 b.1 (Int.le_trans b.2.1 b.2.2.1)]; exact Int.le_trans b.1 (Int.le_add_of_nonneg_right (by decide))) hR
  rw [cm_83 ((look_M hr hn).trans hc), look_M (rok_rs (pass_kp (σ := σ)).1 hr) (n1_of h hw hr h16 hn hat hlt), hL] at hm
  by_cases ht : 97 ≤ (Xnest_look (Xnest_pass σ)).toInt ∧ (Xnest_look (Xnest_pass σ)).toInt ≤ 100
  · obtain ⟨q, g1, g2, g3⟩ := reg_ex ht
    rw [if_neg g3] at hm
    have e0 := sto_rel g1 g2 (s2_of (v := i0 + 2) h) (pass_wf (pass_wf hw)) h16
    generalize Xdesk_moveToOrFromRegister (Xnest_pass σ) 83 = rx at e0
    rw [hm] at e0
    have f0 := stores_fs g2 (s2_of (v := i0 + 2) h)
    rw [hm] at f0
    exact RI_cres r2 e0.2.1 f0.2.1
  · have g := reg_no ht (look_b h hw hr h16 hn hat hlt)
    rw [if_pos g.2] at hm
    rw [← hm]
    exact ri_si (Or.inr (Or.inl rfl)) hR
theorem ric_108 {σ : XS} {μ : MS} {i0 : Int32} (h : ST σ μ) (hw : xWF σ) (hr : rok σ) (h16 : μ.1 16 = 0) (hn : NX σ μ i0.toInt) (hat : μ.2.2.1 10 ((μ.1 11).toInt - 1).toNat = i0) (hlt : i0.toInt < (μ.2.2.1 9 ((μ.1 11).toInt - 1).toNat).toInt) (hR : RI μ) (hc : Xnest_look σ = 108) {rm : Int32 × MS} (hm : F_command μ i0 = rm) : RI rm.2 := by
  have b := nx_b hn
  have hL := lvN b.2.2.2.1 b.2.2.2.2
  have r1 : RI (sa μ 10 ((μ.1 11).toInt - 1).toNat (i0 + 1)) := ri_at (by rw [i_p1 b.1 (Int.le_trans b.2.1 b.2.2.1)]; exact Int.le_trans b.1 (Int.le_of_lt (Int.lt_succ _))) hR
  have r2 : RI (sa μ 10 ((μ.1 11).toInt - 1).toNat (i0 + 2)) := ri_at (by rw [i_p2 b.1 (Int.le_trans b.2.1 b.2.2.1)]; exact Int.le_trans b.1 (Int.le_add_of_nonneg_right (by decide))) hR
  rw [cm_108 ((look_M hr hn).trans hc), look_M (rok_rs (pass_kp (σ := σ)).1 hr) (n1_of h hw hr h16 hn hat hlt), hL] at hm
  by_cases ht : 97 ≤ (Xnest_look (Xnest_pass σ)).toInt ∧ (Xnest_look (Xnest_pass σ)).toInt ≤ 100
  · obtain ⟨q, g1, g2, g3⟩ := reg_ex ht
    rw [if_neg g3] at hm
    have e0 := sto_rel g1 g2 (s2_of (v := i0 + 2) h) (pass_wf (pass_wf hw)) h16
    generalize Xdesk_moveToOrFromRegister (Xnest_pass σ) 108 = rx at e0
    rw [hm] at e0
    have f0 := stores_fs g2 (s2_of (v := i0 + 2) h)
    rw [hm] at f0
    exact RI_cres r2 e0.2.2.1 f0.2.2.1
  · have g := reg_no ht (look_b h hw hr h16 hn hat hlt)
    rw [if_pos g.2] at hm
    rw [← hm]
    exact ri_si (Or.inr (Or.inl rfl)) hR
theorem ric_76 {σ : XS} {μ : MS} {i0 : Int32} (h : ST σ μ) (hw : xWF σ) (hr : rok σ) (h16 : μ.1 16 = 0) (hn : NX σ μ i0.toInt) (hat : μ.2.2.1 10 ((μ.1 11).toInt - 1).toNat = i0) (hlt : i0.toInt < (μ.2.2.1 9 ((μ.1 11).toInt - 1).toNat).toInt) (hR : RI μ) (hc : Xnest_look σ = 76) {rm : Int32 × MS} (hm : F_command μ i0 = rm) : RI rm.2 := by
  have b := nx_b hn
  have hL := lvN b.2.2.2.1 b.2.2.2.2
  have r1 : RI (sa μ 10 ((μ.1 11).toInt - 1).toNat (i0 + 1)) := ri_at (by rw [i_p1 b.1 (Int.le_trans b.2.1 b.2.2.1)]; exact Int.le_trans b.1 (Int.le_of_lt (Int.lt_succ _))) hR
  have r2 : RI (sa μ 10 ((μ.1 11).toInt - 1).toNat (i0 + 2)) := ri_at (by rw [i_p2 b.1 (Int.le_trans b.2.1 b.2.2.1)]; exact Int.le_trans b.1 (Int.le_add_of_nonneg_right (by decide))) hR
  rw [cm_76 ((look_M hr hn).trans hc), look_M (rok_rs (pass_kp (σ := σ)).1 hr) (n1_of h hw hr h16 hn hat hlt), hL] at hm
  by_cases ht : 97 ≤ (Xnest_look (Xnest_pass σ)).toInt ∧ (Xnest_look (Xnest_pass σ)).toInt ≤ 100
  · obtain ⟨q, g1, g2, g3⟩ := reg_ex ht
    rw [if_neg g3] at hm
    have e0 := sto_rel g1 g2 (s2_of (v := i0 + 2) h) (pass_wf (pass_wf hw)) h16
    generalize Xdesk_moveToOrFromRegister (Xnest_pass σ) 76 = rx at e0
    rw [hm] at e0
    have f0 := stores_fs g2 (s2_of (v := i0 + 2) h)
    rw [hm] at f0
    exact RI_cres r2 e0.2.2.2 f0.2.2.2
  · have g := reg_no ht (look_b h hw hr h16 hn hat hlt)
    rw [if_pos g.2] at hm
    rw [← hm]
    exact ri_si (Or.inr (Or.inl rfl)) hR
theorem ric_60 {σ : XS} {μ : MS} {i0 : Int32} (h : ST σ μ) (hw : xWF σ) (hr : rok σ) (h16 : μ.1 16 = 0) (hn : NX σ μ i0.toInt) (hat : μ.2.2.1 10 ((μ.1 11).toInt - 1).toNat = i0) (hlt : i0.toInt < (μ.2.2.1 9 ((μ.1 11).toInt - 1).toNat).toInt) (hR : RI μ) (hc : Xnest_look σ = 60) {rm : Int32 × MS} (hm : F_command μ i0 = rm) : RI rm.2 := by
  have b := nx_b hn
  have hL := lvN b.2.2.2.1 b.2.2.2.2
  have r1 : RI (sa μ 10 ((μ.1 11).toInt - 1).toNat (i0 + 1)) := ri_at (by rw [i_p1 b.1 (Int.le_trans b.2.1 b.2.2.1)]; exact Int.le_trans b.1 (Int.le_of_lt (Int.lt_succ _))) hR
  have r2 : RI (sa μ 10 ((μ.1 11).toInt - 1).toNat (i0 + 2)) := ri_at (by rw [i_p2 b.1 (Int.le_trans b.2.1 b.2.2.1)]; exact Int.le_trans b.1 (Int.le_add_of_nonneg_right (by decide))) hR
  rw [cm_60 ((look_M hr hn).trans hc), look_M (rok_rs (pass_kp (σ := σ)).1 hr) (n1_of h hw hr h16 hn hat hlt), hL] at hm
  by_cases ht : 97 ≤ (Xnest_look (Xnest_pass σ)).toInt ∧ (Xnest_look (Xnest_pass σ)).toInt ≤ 100
  · obtain ⟨q, g1, g2, g3⟩ := reg_ex ht
    rw [if_neg g3] at hm
    have e0 := tests_rel g1 g2 (s2_of (v := i0 + 2) h) (pass_wf (pass_wf hw)) (rok_rs (pass_kp (σ := Xnest_pass σ)).1 (rok_rs (pass_kp (σ := σ)).1 hr)) h16 (n2_of h hw hr h16 hn hat hlt ht) sa_at
    generalize Xdesk_runIfOrdered (Xnest_pass σ) 60 = rx at e0
    rw [hm] at e0
    exact RI_mres r2 e0.1
  · have g := reg_no ht (look_b h hw hr h16 hn hat hlt)
    rw [if_pos g.2] at hm
    rw [← hm]
    exact ri_si (Or.inr (Or.inl rfl)) hR
theorem ric_62 {σ : XS} {μ : MS} {i0 : Int32} (h : ST σ μ) (hw : xWF σ) (hr : rok σ) (h16 : μ.1 16 = 0) (hn : NX σ μ i0.toInt) (hat : μ.2.2.1 10 ((μ.1 11).toInt - 1).toNat = i0) (hlt : i0.toInt < (μ.2.2.1 9 ((μ.1 11).toInt - 1).toNat).toInt) (hR : RI μ) (hc : Xnest_look σ = 62) {rm : Int32 × MS} (hm : F_command μ i0 = rm) : RI rm.2 := by
  have b := nx_b hn
  have hL := lvN b.2.2.2.1 b.2.2.2.2
  have r1 : RI (sa μ 10 ((μ.1 11).toInt - 1).toNat (i0 + 1)) := ri_at (by rw [i_p1 b.1 (Int.le_trans b.2.1 b.2.2.1)]; exact Int.le_trans b.1 (Int.le_of_lt (Int.lt_succ _))) hR
  have r2 : RI (sa μ 10 ((μ.1 11).toInt - 1).toNat (i0 + 2)) := ri_at (by rw [i_p2 b.1 (Int.le_trans b.2.1 b.2.2.1)]; exact Int.le_trans b.1 (Int.le_add_of_nonneg_right (by decide))) hR
  rw [cm_62 ((look_M hr hn).trans hc), look_M (rok_rs (pass_kp (σ := σ)).1 hr) (n1_of h hw hr h16 hn hat hlt), hL] at hm
  by_cases ht : 97 ≤ (Xnest_look (Xnest_pass σ)).toInt ∧ (Xnest_look (Xnest_pass σ)).toInt ≤ 100
  · obtain ⟨q, g1, g2, g3⟩ := reg_ex ht
    rw [if_neg g3] at hm
    have e0 := tests_rel g1 g2 (s2_of (v := i0 + 2) h) (pass_wf (pass_wf hw)) (rok_rs (pass_kp (σ := Xnest_pass σ)).1 (rok_rs (pass_kp (σ := σ)).1 hr)) h16 (n2_of h hw hr h16 hn hat hlt ht) sa_at
    generalize Xdesk_runIfOrdered (Xnest_pass σ) 62 = rx at e0
    rw [hm] at e0
    exact RI_mres r2 e0.2.1
  · have g := reg_no ht (look_b h hw hr h16 hn hat hlt)
    rw [if_pos g.2] at hm
    rw [← hm]
    exact ri_si (Or.inr (Or.inl rfl)) hR
theorem ric_61 {σ : XS} {μ : MS} {i0 : Int32} (h : ST σ μ) (hw : xWF σ) (hr : rok σ) (h16 : μ.1 16 = 0) (hn : NX σ μ i0.toInt) (hat : μ.2.2.1 10 ((μ.1 11).toInt - 1).toNat = i0) (hlt : i0.toInt < (μ.2.2.1 9 ((μ.1 11).toInt - 1).toNat).toInt) (hR : RI μ) (hc : Xnest_look σ = 61) {rm : Int32 × MS} (hm : F_command μ i0 = rm) : RI rm.2 := by
  have b := nx_b hn
  have hL := lvN b.2.2.2.1 b.2.2.2.2
  have r1 : RI (sa μ 10 ((μ.1 11).toInt - 1).toNat (i0 + 1)) := ri_at (by rw [i_p1 b.1 (Int.le_trans b.2.1 b.2.2.1)]; exact Int.le_trans b.1 (Int.le_of_lt (Int.lt_succ _))) hR
  have r2 : RI (sa μ 10 ((μ.1 11).toInt - 1).toNat (i0 + 2)) := ri_at (by rw [i_p2 b.1 (Int.le_trans b.2.1 b.2.2.1)]; exact Int.le_trans b.1 (Int.le_add_of_nonneg_right (by decide))) hR
  rw [cm_61 ((look_M hr hn).trans hc), look_M (rok_rs (pass_kp (σ := σ)).1 hr) (n1_of h hw hr h16 hn hat hlt), hL] at hm
  by_cases ht : 97 ≤ (Xnest_look (Xnest_pass σ)).toInt ∧ (Xnest_look (Xnest_pass σ)).toInt ≤ 100
  · obtain ⟨q, g1, g2, g3⟩ := reg_ex ht
    rw [if_neg g3] at hm
    have e0 := tests_rel g1 g2 (s2_of (v := i0 + 2) h) (pass_wf (pass_wf hw)) (rok_rs (pass_kp (σ := Xnest_pass σ)).1 (rok_rs (pass_kp (σ := σ)).1 hr)) h16 (n2_of h hw hr h16 hn hat hlt ht) sa_at
    generalize Xdesk_runIfOrdered (Xnest_pass σ) 61 = rx at e0
    rw [hm] at e0
    exact RI_mres r2 e0.2.2
  · have g := reg_no ht (look_b h hw hr h16 hn hat hlt)
    rw [if_pos g.2] at hm
    rw [← hm]
    exact ri_si (Or.inr (Or.inl rfl)) hR
theorem ric_91 {σ : XS} {μ : MS} {i0 : Int32} (h : ST σ μ) (hw : xWF σ) (hr : rok σ) (h16 : μ.1 16 = 0) (hn : NX σ μ i0.toInt) (hat : μ.2.2.1 10 ((μ.1 11).toInt - 1).toNat = i0) (hlt : i0.toInt < (μ.2.2.1 9 ((μ.1 11).toInt - 1).toNat).toInt) (hR : RI μ) (hc : Xnest_look σ = 91) {rm : Int32 × MS} (hm : F_command μ i0 = rm) : RI rm.2 := by
  have b := nx_b hn
  have hL := lvN b.2.2.2.1 b.2.2.2.2
  have r1 : RI (sa μ 10 ((μ.1 11).toInt - 1).toNat (i0 + 1)) := ri_at (by rw [i_p1 b.1 (Int.le_trans b.2.1 b.2.2.1)]; exact Int.le_trans b.1 (Int.le_of_lt (Int.lt_succ _))) hR
  have r2 : RI (sa μ 10 ((μ.1 11).toInt - 1).toNat (i0 + 2)) := ri_at (by rw [i_p2 b.1 (Int.le_trans b.2.1 b.2.2.1)]; exact Int.le_trans b.1 (Int.le_add_of_nonneg_right (by decide))) hR
  rw [cm_91 ((look_M hr hn).trans hc)] at hm
  have e0 := txt_rel h hw hr h16 hn hat hlt
  have f0 := brackets_df (μ := μ) (f0 := i0)
  generalize Xdesk_putWrittenText (Xnest_pass σ) = rx at e0
  rw [hm] at e0 f0
  exact RI_dres hR b.2.2.2.1 e0 f0
theorem ric_120 {σ : XS} {μ : MS} {i0 : Int32} (h : ST σ μ) (hw : xWF σ) (hr : rok σ) (h16 : μ.1 16 = 0) (hn : NX σ μ i0.toInt) (hat : μ.2.2.1 10 ((μ.1 11).toInt - 1).toNat = i0) (hlt : i0.toInt < (μ.2.2.1 9 ((μ.1 11).toInt - 1).toNat).toInt) (hR : RI μ) (hc : Xnest_look σ = 120) {rm : Int32 × MS} (hm : F_command μ i0 = rm) : RI rm.2 := by
  have b := nx_b hn
  have hL := lvN b.2.2.2.1 b.2.2.2.2
  have r1 : RI (sa μ 10 ((μ.1 11).toInt - 1).toNat (i0 + 1)) := ri_at (by rw [i_p1 b.1 (Int.le_trans b.2.1 b.2.2.1)]; exact Int.le_trans b.1 (Int.le_of_lt (Int.lt_succ _))) hR
  have r2 : RI (sa μ 10 ((μ.1 11).toInt - 1).toNat (i0 + 2)) := ri_at (by rw [i_p2 b.1 (Int.le_trans b.2.1 b.2.2.1)]; exact Int.le_trans b.1 (Int.le_add_of_nonneg_right (by decide))) hR
  rw [cm_120 ((look_M hr hn).trans hc), hL] at hm
  have e0 := runs_rel (s1_of (v := i0 + 1) h) (pass_wf hw) (rok_rs (pass_kp (σ := σ)).1 hr) h16 (NX_sa10 (n1_of h hw hr h16 hn hat hlt)) sa_at
  generalize Xdesk_runTop (Xnest_pass σ) = rx at e0
  rw [hm] at e0
  exact RI_mres r1 e0
theorem ric_113 {σ : XS} {μ : MS} {i0 : Int32} (h : ST σ μ) (hw : xWF σ) (hr : rok σ) (h16 : μ.1 16 = 0) (hn : NX σ μ i0.toInt) (hat : μ.2.2.1 10 ((μ.1 11).toInt - 1).toNat = i0) (hlt : i0.toInt < (μ.2.2.1 9 ((μ.1 11).toInt - 1).toNat).toInt) (hR : RI μ) (hc : Xnest_look σ = 113) {rm : Int32 × MS} (hm : F_command μ i0 = rm) : RI rm.2 := by
  have b := nx_b hn
  have hL := lvN b.2.2.2.1 b.2.2.2.2
  have r1 : RI (sa μ 10 ((μ.1 11).toInt - 1).toNat (i0 + 1)) := ri_at (by rw [i_p1 b.1 (Int.le_trans b.2.1 b.2.2.1)]; exact Int.le_trans b.1 (Int.le_of_lt (Int.lt_succ _))) hR
  have r2 : RI (sa μ 10 ((μ.1 11).toInt - 1).toNat (i0 + 2)) := ri_at (by rw [i_p2 b.1 (Int.le_trans b.2.1 b.2.2.1)]; exact Int.le_trans b.1 (Int.le_add_of_nonneg_right (by decide))) hR
  rw [cm_113 ((look_M hr hn).trans hc), hL] at hm
  rw [← hm]
  exact ri_si (by decide) r1
/-- a command keeps them -/
theorem RI_cmd {σ : XS} {μ : MS} {i0 : Int32} (h : ST σ μ) (hw : xWF σ) (hr : rok σ) (h16 : μ.1 16 = 0) (hn : NX σ μ i0.toInt) (hat : μ.2.2.1 10 ((μ.1 11).toInt - 1).toNat = i0) (hlt : i0.toInt < (μ.2.2.1 9 ((μ.1 11).toInt - 1).toNat).toInt) (hR : RI μ) {rm : Int32 × MS} (hm : F_command μ i0 = rm) : RI rm.2 := by
  by_cases hb : Xd_beginsNumber (Xnest_look σ) = 0
  · have b1 := (bg_no hb).1
    have b2 := (bg_no hb).2.1
    have b3 := (bg_no hb).2.2
    by_cases c37 : Xnest_look σ = 37
    · exact ric_37 h hw hr h16 hn hat hlt hR c37 hm
    by_cases c42 : Xnest_look σ = 42
    · exact ric_42 h hw hr h16 hn hat hlt hR c42 hm
    by_cases c43 : Xnest_look σ = 43
    · exact ric_43 h hw hr h16 hn hat hlt hR c43 hm
    by_cases c45 : Xnest_look σ = 45
    · exact ric_45 h hw hr h16 hn hat hlt hR c45 hm
    by_cases c47 : Xnest_look σ = 47
    · exact ric_47 h hw hr h16 hn hat hlt hR c47 hm
    by_cases c60 : Xnest_look σ = 60
    · exact ric_60 h hw hr h16 hn hat hlt hR c60 hm
    by_cases c61 : Xnest_look σ = 61
    · exact ric_61 h hw hr h16 hn hat hlt hR c61 hm
    by_cases c62 : Xnest_look σ = 62
    · exact ric_62 h hw hr h16 hn hat hlt hR c62 hm
    by_cases c76 : Xnest_look σ = 76
    · exact ric_76 h hw hr h16 hn hat hlt hR c76 hm
    by_cases c83 : Xnest_look σ = 83
    · exact ric_83 h hw hr h16 hn hat hlt hR c83 hm
    by_cases c88 : Xnest_look σ = 88
    · exact ric_88 h hw hr h16 hn hat hlt hR c88 hm
    by_cases c91 : Xnest_look σ = 91
    · exact ric_91 h hw hr h16 hn hat hlt hR c91 hm
    by_cases c107 : Xnest_look σ = 107
    · exact ric_107 h hw hr h16 hn hat hlt hR c107 hm
    by_cases c108 : Xnest_look σ = 108
    · exact ric_108 h hw hr h16 hn hat hlt hR c108 hm
    by_cases c115 : Xnest_look σ = 115
    · exact ric_115 h hw hr h16 hn hat hlt hR c115 hm
    by_cases c118 : Xnest_look σ = 118
    · exact ric_118 h hw hr h16 hn hat hlt hR c118 hm
    by_cases c120 : Xnest_look σ = 120
    · exact ric_120 h hw hr h16 hn hat hlt hR c120 hm
    by_cases c126 : Xnest_look σ = 126
    · exact ric_126 h hw hr h16 hn hat hlt hR c126 hm
    by_cases c68 : Xnest_look σ = 68
    · exact ric_68 h hw hr h16 hn hat hlt hR c68 hm
    by_cases c75 : Xnest_look σ = 75
    · exact ric_75 h hw hr h16 hn hat hlt hR c75 hm
    by_cases c99 : Xnest_look σ = 99
    · exact ric_99 h hw hr h16 hn hat hlt hR c99 hm
    by_cases c100 : Xnest_look σ = 100
    · exact ric_100 h hw hr h16 hn hat hlt hR c100 hm
    by_cases c112 : Xnest_look σ = 112
    · exact ric_112 h hw hr h16 hn hat hlt hR c112 hm
    by_cases c114 : Xnest_look σ = 114
    · exact ric_114 h hw hr h16 hn hat hlt hR c114 hm
    by_cases c122 : Xnest_look σ = 122
    · exact ric_122 h hw hr h16 hn hat hlt hR c122 hm
    by_cases c113 : Xnest_look σ = 113
    · exact ric_113 h hw hr h16 hn hat hlt hR c113 hm
    have hC : ∀ k ∈ ([95, 46, 37, 42, 43, 45, 47, 60, 61, 62, 76, 83, 88, 91, 107, 108, 113, 115, 118, 120, 126, 68, 75, 99, 100, 112, 114, 122] : List Int32), Xnest_look σ ≠ k := by
      intro k hk
      simp only [List.mem_cons, List.not_mem_nil, or_false] at hk
      rcases hk with rfl | rfl | rfl | rfl | rfl | rfl | rfl | rfl | rfl | rfl | rfl | rfl | rfl | rfl | rfl | rfl | rfl | rfl | rfl | rfl | rfl | rfl | rfl | rfl | rfl | rfl | rfl | rfl <;> assumption
    have b := nx_b hn
    rw [cmd_none (look_M hr hn) (wd_eq.mpr b1) hC, lvN b.2.2.2.1 b.2.2.2.2] at hm
    rw [← hm]
    exact ri_si (by decide) (ri_at (by rw [i_p1 b.1 (Int.le_trans b.2.1 b.2.2.1)]; exact Int.le_trans b.1 (Int.le_of_lt (Int.lt_succ _))) hR)
  · have e0 := num_rel h hw hr h16 hn hat hlt
    have f0 := digits_df (μ := μ) (f0 := i0)
    rw [cm_dig (look_M hr hn) (by
      rcases bg_yes hb with q | q | q
      · exact Or.inl (fun e => q (wd_eq.mp e))
      · exact Or.inr (Or.inl q)
      · exact Or.inr (Or.inr q))] at hm
    generalize Xdesk_putWrittenNumber σ = rx at e0
    rw [hm] at e0 f0
    exact RI_dres hR (nx_b hn).2.2.2.1 e0 f0
