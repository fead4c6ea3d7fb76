theorem do_37 {σ : XS} (hl : Xnest_look σ = 37) : Xdesk_doCommand σ = Xdesk_calculate (Xnest_pass σ) 37 := by
  unfold Xdesk_doCommand
  rw [hl, if_pos (show Xd_beginsNumber 37 = 0 by decide)]
  dsimp only
  rw [if_pos (rfl : (37 : Int32) = 37)]
  cases Xdesk_calculate (Xnest_pass σ) 37 <;> rfl
theorem do_42 {σ : XS} (hl : Xnest_look σ = 42) : Xdesk_doCommand σ = Xdesk_calculate (Xnest_pass σ) 42 := by
  unfold Xdesk_doCommand
  rw [hl, if_pos (show Xd_beginsNumber 42 = 0 by decide)]
  dsimp only
  rw [if_neg (show ¬ (42 : Int32) = 37 by decide), if_pos (rfl : (42 : Int32) = 42)]
  cases Xdesk_calculate (Xnest_pass σ) 42 <;> rfl
theorem do_43 {σ : XS} (hl : Xnest_look σ = 43) : Xdesk_doCommand σ = Xdesk_calculate (Xnest_pass σ) 43 := by
  unfold Xdesk_doCommand
  rw [hl, if_pos (show Xd_beginsNumber 43 = 0 by decide)]
  dsimp only
  rw [if_neg (show ¬ (43 : Int32) = 37 by decide), if_neg (show ¬ (43 : Int32) = 42 by decide), if_pos (rfl : (43 : Int32) = 43)]
  cases Xdesk_calculate (Xnest_pass σ) 43 <;> rfl
theorem do_45 {σ : XS} (hl : Xnest_look σ = 45) : Xdesk_doCommand σ = Xdesk_calculate (Xnest_pass σ) 45 := by
  unfold Xdesk_doCommand
  rw [hl, if_pos (show Xd_beginsNumber 45 = 0 by decide)]
  dsimp only
  rw [if_neg (show ¬ (45 : Int32) = 37 by decide), if_neg (show ¬ (45 : Int32) = 42 by decide), if_neg (show ¬ (45 : Int32) = 43 by decide), if_pos (rfl : (45 : Int32) = 45)]
  cases Xdesk_calculate (Xnest_pass σ) 45 <;> rfl
theorem do_47 {σ : XS} (hl : Xnest_look σ = 47) : Xdesk_doCommand σ = Xdesk_calculate (Xnest_pass σ) 47 := by
  unfold Xdesk_doCommand
  rw [hl, if_pos (show Xd_beginsNumber 47 = 0 by decide)]
  dsimp only
  rw [if_neg (show ¬ (47 : Int32) = 37 by decide), if_neg (show ¬ (47 : Int32) = 42 by decide), if_neg (show ¬ (47 : Int32) = 43 by decide), if_neg (show ¬ (47 : Int32) = 45 by decide), if_pos (rfl : (47 : Int32) = 47)]
  cases Xdesk_calculate (Xnest_pass σ) 47 <;> rfl
theorem do_60 {σ : XS} (hl : Xnest_look σ = 60) : Xdesk_doCommand σ = Xdesk_runIfOrdered (Xnest_pass σ) 60 := by
  unfold Xdesk_doCommand
  rw [hl, if_pos (show Xd_beginsNumber 60 = 0 by decide)]
  dsimp only
  rw [if_neg (show ¬ (60 : Int32) = 37 by decide), if_neg (show ¬ (60 : Int32) = 42 by decide), if_neg (show ¬ (60 : Int32) = 43 by decide), if_neg (show ¬ (60 : Int32) = 45 by decide), if_neg (show ¬ (60 : Int32) = 47 by decide), if_pos (rfl : (60 : Int32) = 60)]
  cases Xdesk_runIfOrdered (Xnest_pass σ) 60 <;> rfl
theorem do_61 {σ : XS} (hl : Xnest_look σ = 61) : Xdesk_doCommand σ = Xdesk_runIfOrdered (Xnest_pass σ) 61 := by
  unfold Xdesk_doCommand
  rw [hl, if_pos (show Xd_beginsNumber 61 = 0 by decide)]
  dsimp only
  rw [if_neg (show ¬ (61 : Int32) = 37 by decide), if_neg (show ¬ (61 : Int32) = 42 by decide), if_neg (show ¬ (61 : Int32) = 43 by decide), if_neg (show ¬ (61 : Int32) = 45 by decide), if_neg (show ¬ (61 : Int32) = 47 by decide), if_neg (show ¬ (61 : Int32) = 60 by decide), if_pos (rfl : (61 : Int32) = 61)]
  cases Xdesk_runIfOrdered (Xnest_pass σ) 61 <;> rfl
theorem do_62 {σ : XS} (hl : Xnest_look σ = 62) : Xdesk_doCommand σ = Xdesk_runIfOrdered (Xnest_pass σ) 62 := by
  unfold Xdesk_doCommand
  rw [hl, if_pos (show Xd_beginsNumber 62 = 0 by decide)]
  dsimp only
  rw [if_neg (show ¬ (62 : Int32) = 37 by decide), if_neg (show ¬ (62 : Int32) = 42 by decide), if_neg (show ¬ (62 : Int32) = 43 by decide), if_neg (show ¬ (62 : Int32) = 45 by decide), if_neg (show ¬ (62 : Int32) = 47 by decide), if_neg (show ¬ (62 : Int32) = 60 by decide), if_neg (show ¬ (62 : Int32) = 61 by decide), if_pos (rfl : (62 : Int32) = 62)]
  cases Xdesk_runIfOrdered (Xnest_pass σ) 62 <;> rfl
theorem do_76 {σ : XS} (hl : Xnest_look σ = 76) : Xdesk_doCommand σ = Xdesk_moveToOrFromRegister (Xnest_pass σ) 76 := by
  unfold Xdesk_doCommand
  rw [hl, if_pos (show Xd_beginsNumber 76 = 0 by decide)]
  dsimp only
  rw [if_neg (show ¬ (76 : Int32) = 37 by decide), if_neg (show ¬ (76 : Int32) = 42 by decide), if_neg (show ¬ (76 : Int32) = 43 by decide), if_neg (show ¬ (76 : Int32) = 45 by decide), if_neg (show ¬ (76 : Int32) = 47 by decide), if_neg (show ¬ (76 : Int32) = 60 by decide), if_neg (show ¬ (76 : Int32) = 61 by decide), if_neg (show ¬ (76 : Int32) = 62 by decide), if_pos (rfl : (76 : Int32) = 76)]
  cases Xdesk_moveToOrFromRegister (Xnest_pass σ) 76 <;> rfl
theorem do_83 {σ : XS} (hl : Xnest_look σ = 83) : Xdesk_doCommand σ = Xdesk_moveToOrFromRegister (Xnest_pass σ) 83 := by
  unfold Xdesk_doCommand
  rw [hl, if_pos (show Xd_beginsNumber 83 = 0 by decide)]
  dsimp only
  rw [if_neg (show ¬ (83 : Int32) = 37 by decide), if_neg (show ¬ (83 : Int32) = 42 by decide), if_neg (show ¬ (83 : Int32) = 43 by decide), if_neg (show ¬ (83 : Int32) = 45 by decide), if_neg (show ¬ (83 : Int32) = 47 by decide), if_neg (show ¬ (83 : Int32) = 60 by decide), if_neg (show ¬ (83 : Int32) = 61 by decide), if_neg (show ¬ (83 : Int32) = 62 by decide), if_neg (show ¬ (83 : Int32) = 76 by decide), if_pos (rfl : (83 : Int32) = 83)]
  cases Xdesk_moveToOrFromRegister (Xnest_pass σ) 83 <;> rfl
theorem do_88 {σ : XS} (hl : Xnest_look σ = 88) : Xdesk_doCommand σ = Xdesk_changeNumber (Xnest_pass σ) 88 := by
  unfold Xdesk_doCommand
  rw [hl, if_pos (show Xd_beginsNumber 88 = 0 by decide)]
  dsimp only
  rw [if_neg (show ¬ (88 : Int32) = 37 by decide), if_neg (show ¬ (88 : Int32) = 42 by decide), if_neg (show ¬ (88 : Int32) = 43 by decide), if_neg (show ¬ (88 : Int32) = 45 by decide), if_neg (show ¬ (88 : Int32) = 47 by decide), if_neg (show ¬ (88 : Int32) = 60 by decide), if_neg (show ¬ (88 : Int32) = 61 by decide), if_neg (show ¬ (88 : Int32) = 62 by decide), if_neg (show ¬ (88 : Int32) = 76 by decide), if_neg (show ¬ (88 : Int32) = 83 by decide), if_pos (rfl : (88 : Int32) = 88)]
  cases Xdesk_changeNumber (Xnest_pass σ) 88 <;> rfl
theorem do_91 {σ : XS} (hl : Xnest_look σ = 91) : Xdesk_doCommand σ = Xdesk_putWrittenText (Xnest_pass σ) := by
  unfold Xdesk_doCommand
  rw [hl, if_pos (show Xd_beginsNumber 91 = 0 by decide)]
  dsimp only
  rw [if_neg (show ¬ (91 : Int32) = 37 by decide), if_neg (show ¬ (91 : Int32) = 42 by decide), if_neg (show ¬ (91 : Int32) = 43 by decide), if_neg (show ¬ (91 : Int32) = 45 by decide), if_neg (show ¬ (91 : Int32) = 47 by decide), if_neg (show ¬ (91 : Int32) = 60 by decide), if_neg (show ¬ (91 : Int32) = 61 by decide), if_neg (show ¬ (91 : Int32) = 62 by decide), if_neg (show ¬ (91 : Int32) = 76 by decide), if_neg (show ¬ (91 : Int32) = 83 by decide), if_neg (show ¬ (91 : Int32) = 88 by decide), if_pos (rfl : (91 : Int32) = 91)]
  cases Xdesk_putWrittenText (Xnest_pass σ) <;> rfl
theorem do_107 {σ : XS} (hl : Xnest_look σ = 107) : Xdesk_doCommand σ = Xdesk_changeNumber (Xnest_pass σ) 107 := by
  unfold Xdesk_doCommand
  rw [hl, if_pos (show Xd_beginsNumber 107 = 0 by decide)]
  dsimp only
  rw [if_neg (show ¬ (107 : Int32) = 37 by decide), if_neg (show ¬ (107 : Int32) = 42 by decide), if_neg (show ¬ (107 : Int32) = 43 by decide), if_neg (show ¬ (107 : Int32) = 45 by decide), if_neg (show ¬ (107 : Int32) = 47 by decide), if_neg (show ¬ (107 : Int32) = 60 by decide), if_neg (show ¬ (107 : Int32) = 61 by decide), if_neg (show ¬ (107 : Int32) = 62 by decide), if_neg (show ¬ (107 : Int32) = 76 by decide), if_neg (show ¬ (107 : Int32) = 83 by decide), if_neg (show ¬ (107 : Int32) = 88 by decide), if_neg (show ¬ (107 : Int32) = 91 by decide), if_pos (rfl : (107 : Int32) = 107)]
  cases Xdesk_changeNumber (Xnest_pass σ) 107 <;> rfl
theorem do_108 {σ : XS} (hl : Xnest_look σ = 108) : Xdesk_doCommand σ = Xdesk_moveToOrFromRegister (Xnest_pass σ) 108 := by
  unfold Xdesk_doCommand
  rw [hl, if_pos (show Xd_beginsNumber 108 = 0 by decide)]
  dsimp only
  rw [if_neg (show ¬ (108 : Int32) = 37 by decide), if_neg (show ¬ (108 : Int32) = 42 by decide), if_neg (show ¬ (108 : Int32) = 43 by decide), if_neg (show ¬ (108 : Int32) = 45 by decide), if_neg (show ¬ (108 : Int32) = 47 by decide), if_neg (show ¬ (108 : Int32) = 60 by decide), if_neg (show ¬ (108 : Int32) = 61 by decide), if_neg (show ¬ (108 : Int32) = 62 by decide), if_neg (show ¬ (108 : Int32) = 76 by decide), if_neg (show ¬ (108 : Int32) = 83 by decide), if_neg (show ¬ (108 : Int32) = 88 by decide), if_neg (show ¬ (108 : Int32) = 91 by decide), if_neg (show ¬ (108 : Int32) = 107 by decide), if_pos (rfl : (108 : Int32) = 108)]
  cases Xdesk_moveToOrFromRegister (Xnest_pass σ) 108 <;> rfl
theorem do_113 {σ : XS} (hl : Xnest_look σ = 113) : Xdesk_doCommand σ = .inr (Xnest_leaveAll (Xnest_pass σ)) := by
  unfold Xdesk_doCommand
  rw [hl, if_pos (show Xd_beginsNumber 113 = 0 by decide)]
  dsimp only
  rw [if_neg (show ¬ (113 : Int32) = 37 by decide), if_neg (show ¬ (113 : Int32) = 42 by decide), if_neg (show ¬ (113 : Int32) = 43 by decide), if_neg (show ¬ (113 : Int32) = 45 by decide), if_neg (show ¬ (113 : Int32) = 47 by decide), if_neg (show ¬ (113 : Int32) = 60 by decide), if_neg (show ¬ (113 : Int32) = 61 by decide), if_neg (show ¬ (113 : Int32) = 62 by decide), if_neg (show ¬ (113 : Int32) = 76 by decide), if_neg (show ¬ (113 : Int32) = 83 by decide), if_neg (show ¬ (113 : Int32) = 88 by decide), if_neg (show ¬ (113 : Int32) = 91 by decide), if_neg (show ¬ (113 : Int32) = 107 by decide), if_neg (show ¬ (113 : Int32) = 108 by decide), if_pos (rfl : (113 : Int32) = 113)]
theorem do_115 {σ : XS} (hl : Xnest_look σ = 115) : Xdesk_doCommand σ = Xdesk_moveToOrFromRegister (Xnest_pass σ) 115 := by
  unfold Xdesk_doCommand
  rw [hl, if_pos (show Xd_beginsNumber 115 = 0 by decide)]
  dsimp only
  rw [if_neg (show ¬ (115 : Int32) = 37 by decide), if_neg (show ¬ (115 : Int32) = 42 by decide), if_neg (show ¬ (115 : Int32) = 43 by decide), if_neg (show ¬ (115 : Int32) = 45 by decide), if_neg (show ¬ (115 : Int32) = 47 by decide), if_neg (show ¬ (115 : Int32) = 60 by decide), if_neg (show ¬ (115 : Int32) = 61 by decide), if_neg (show ¬ (115 : Int32) = 62 by decide), if_neg (show ¬ (115 : Int32) = 76 by decide), if_neg (show ¬ (115 : Int32) = 83 by decide), if_neg (show ¬ (115 : Int32) = 88 by decide), if_neg (show ¬ (115 : Int32) = 91 by decide), if_neg (show ¬ (115 : Int32) = 107 by decide), if_neg (show ¬ (115 : Int32) = 108 by decide), if_neg (show ¬ (115 : Int32) = 113 by decide), if_pos (rfl : (115 : Int32) = 115)]
  cases Xdesk_moveToOrFromRegister (Xnest_pass σ) 115 <;> rfl
theorem do_118 {σ : XS} (hl : Xnest_look σ = 118) : Xdesk_doCommand σ = Xdesk_changeNumber (Xnest_pass σ) 118 := by
  unfold Xdesk_doCommand
  rw [hl, if_pos (show Xd_beginsNumber 118 = 0 by decide)]
  dsimp only
  rw [if_neg (show ¬ (118 : Int32) = 37 by decide), if_neg (show ¬ (118 : Int32) = 42 by decide), if_neg (show ¬ (118 : Int32) = 43 by decide), if_neg (show ¬ (118 : Int32) = 45 by decide), if_neg (show ¬ (118 : Int32) = 47 by decide), if_neg (show ¬ (118 : Int32) = 60 by decide), if_neg (show ¬ (118 : Int32) = 61 by decide), if_neg (show ¬ (118 : Int32) = 62 by decide), if_neg (show ¬ (118 : Int32) = 76 by decide), if_neg (show ¬ (118 : Int32) = 83 by decide), if_neg (show ¬ (118 : Int32) = 88 by decide), if_neg (show ¬ (118 : Int32) = 91 by decide), if_neg (show ¬ (118 : Int32) = 107 by decide), if_neg (show ¬ (118 : Int32) = 108 by decide), if_neg (show ¬ (118 : Int32) = 113 by decide), if_neg (show ¬ (118 : Int32) = 115 by decide), if_pos (rfl : (118 : Int32) = 118)]
  cases Xdesk_changeNumber (Xnest_pass σ) 118 <;> rfl
theorem do_120 {σ : XS} (hl : Xnest_look σ = 120) : Xdesk_doCommand σ = Xdesk_runTop (Xnest_pass σ) := by
  unfold Xdesk_doCommand
  rw [hl, if_pos (show Xd_beginsNumber 120 = 0 by decide)]
  dsimp only
  rw [if_neg (show ¬ (120 : Int32) = 37 by decide), if_neg (show ¬ (120 : Int32) = 42 by decide), if_neg (show ¬ (120 : Int32) = 43 by decide), if_neg (show ¬ (120 : Int32) = 45 by decide), if_neg (show ¬ (120 : Int32) = 47 by decide), if_neg (show ¬ (120 : Int32) = 60 by decide), if_neg (show ¬ (120 : Int32) = 61 by decide), if_neg (show ¬ (120 : Int32) = 62 by decide), if_neg (show ¬ (120 : Int32) = 76 by decide), if_neg (show ¬ (120 : Int32) = 83 by decide), if_neg (show ¬ (120 : Int32) = 88 by decide), if_neg (show ¬ (120 : Int32) = 91 by decide), if_neg (show ¬ (120 : Int32) = 107 by decide), if_neg (show ¬ (120 : Int32) = 108 by decide), if_neg (show ¬ (120 : Int32) = 113 by decide), if_neg (show ¬ (120 : Int32) = 115 by decide), if_neg (show ¬ (120 : Int32) = 118 by decide), if_pos (rfl : (120 : Int32) = 120)]
  cases Xdesk_runTop (Xnest_pass σ) <;> rfl
theorem do_126 {σ : XS} (hl : Xnest_look σ = 126) : Xdesk_doCommand σ = Xdesk_changeNumber (Xnest_pass σ) 126 := by
  unfold Xdesk_doCommand
  rw [hl, if_pos (show Xd_beginsNumber 126 = 0 by decide)]
  dsimp only
  rw [if_neg (show ¬ (126 : Int32) = 37 by decide), if_neg (show ¬ (126 : Int32) = 42 by decide), if_neg (show ¬ (126 : Int32) = 43 by decide), if_neg (show ¬ (126 : Int32) = 45 by decide), if_neg (show ¬ (126 : Int32) = 47 by decide), if_neg (show ¬ (126 : Int32) = 60 by decide), if_neg (show ¬ (126 : Int32) = 61 by decide), if_neg (show ¬ (126 : Int32) = 62 by decide), if_neg (show ¬ (126 : Int32) = 76 by decide), if_neg (show ¬ (126 : Int32) = 83 by decide), if_neg (show ¬ (126 : Int32) = 88 by decide), if_neg (show ¬ (126 : Int32) = 91 by decide), if_neg (show ¬ (126 : Int32) = 107 by decide), if_neg (show ¬ (126 : Int32) = 108 by decide), if_neg (show ¬ (126 : Int32) = 113 by decide), if_neg (show ¬ (126 : Int32) = 115 by decide), if_neg (show ¬ (126 : Int32) = 118 by decide), if_neg (show ¬ (126 : Int32) = 120 by decide), if_pos (rfl : (126 : Int32) = 126)]
  cases Xdesk_changeNumber (Xnest_pass σ) 126 <;> rfl
theorem do_arr {σ : XS} (hb : Xd_beginsNumber (Xnest_look σ) = 0) (hn : ∀ k ∈ ([37, 42, 43, 45, 47, 60, 61, 62, 76, 83, 88, 91, 107, 108, 113, 115, 118, 120, 126] : List Int32), Xnest_look σ ≠ k) : Xdesk_doCommand σ = Xdesk_arrangeStack (Xnest_pass σ) (Xnest_look σ) := by
  unfold Xdesk_doCommand
  rw [if_pos hb]
  dsimp only
  rw [if_neg (hn 37 (by decide)), if_neg (hn 42 (by decide)), if_neg (hn 43 (by decide)), if_neg (hn 45 (by decide)), if_neg (hn 47 (by decide)), if_neg (hn 60 (by decide)), if_neg (hn 61 (by decide)), if_neg (hn 62 (by decide)), if_neg (hn 76 (by decide)), if_neg (hn 83 (by decide)), if_neg (hn 88 (by decide)), if_neg (hn 91 (by decide)), if_neg (hn 107 (by decide)), if_neg (hn 108 (by decide)), if_neg (hn 113 (by decide)), if_neg (hn 115 (by decide)), if_neg (hn 118 (by decide)), if_neg (hn 120 (by decide)), if_neg (hn 126 (by decide))]
  cases Xdesk_arrangeStack (Xnest_pass σ) (Xnest_look σ) <;> rfl
theorem do_num {σ : XS} (hb : ¬ Xd_beginsNumber (Xnest_look σ) = 0) : Xdesk_doCommand σ = Xdesk_putWrittenNumber σ := by
  unfold Xdesk_doCommand
  rw [if_neg hb]
  cases Xdesk_putWrittenNumber σ <;> rfl
theorem cm_37 {μ : MS} {i0 : Int32} (hc : F_charAt μ (μ.1 11 - 1) i0 = 37) : F_command μ i0 = F_calculates (sa μ 10 (μ.1 11 - 1).toNatClampNeg (i0 + 1)) 37 := by
  unfold F_command
  rw [hc, if_pos (show f_within (Int32.toInt64 37) 48 57 = 0 by decide), if_neg (show ¬ (37 : Int32) = 95 by decide), if_neg (show ¬ (37 : Int32) = 46 by decide), if_neg (show ¬ (37 : Int32) = 91 by decide), if_pos (show f_isOne 37 115 108 83 76 = 0 by decide), if_pos (show f_isOne 37 60 62 61 60 = 0 by decide), if_neg (show ¬ (37 : Int32) = 120 by decide), if_neg (show ¬ (37 : Int32) = 113 by decide), if_pos (show f_isOne 37 43 45 42 47 = 0 by decide), if_neg (show ¬ f_isOne 37 37 118 126 107 = 0 by decide)]
theorem cm_42 {μ : MS} {i0 : Int32} (hc : F_charAt μ (μ.1 11 - 1) i0 = 42) : F_command μ i0 = F_calculates (sa μ 10 (μ.1 11 - 1).toNatClampNeg (i0 + 1)) 42 := by
  unfold F_command
  rw [hc, if_pos (show f_within (Int32.toInt64 42) 48 57 = 0 by decide), if_neg (show ¬ (42 : Int32) = 95 by decide), if_neg (show ¬ (42 : Int32) = 46 by decide), if_neg (show ¬ (42 : Int32) = 91 by decide), if_pos (show f_isOne 42 115 108 83 76 = 0 by decide), if_pos (show f_isOne 42 60 62 61 60 = 0 by decide), if_neg (show ¬ (42 : Int32) = 120 by decide), if_neg (show ¬ (42 : Int32) = 113 by decide), if_neg (show ¬ f_isOne 42 43 45 42 47 = 0 by decide)]
theorem cm_43 {μ : MS} {i0 : Int32} (hc : F_charAt μ (μ.1 11 - 1) i0 = 43) : F_command μ i0 = F_calculates (sa μ 10 (μ.1 11 - 1).toNatClampNeg (i0 + 1)) 43 := by
  unfold F_command
  rw [hc, if_pos (show f_within (Int32.toInt64 43) 48 57 = 0 by decide), if_neg (show ¬ (43 : Int32) = 95 by decide), if_neg (show ¬ (43 : Int32) = 46 by decide), if_neg (show ¬ (43 : Int32) = 91 by decide), if_pos (show f_isOne 43 115 108 83 76 = 0 by decide), if_pos (show f_isOne 43 60 62 61 60 = 0 by decide), if_neg (show ¬ (43 : Int32) = 120 by decide), if_neg (show ¬ (43 : Int32) = 113 by decide), if_neg (show ¬ f_isOne 43 43 45 42 47 = 0 by decide)]
theorem cm_45 {μ : MS} {i0 : Int32} (hc : F_charAt μ (μ.1 11 - 1) i0 = 45) : F_command μ i0 = F_calculates (sa μ 10 (μ.1 11 - 1).toNatClampNeg (i0 + 1)) 45 := by
  unfold F_command
  rw [hc, if_pos (show f_within (Int32.toInt64 45) 48 57 = 0 by decide), if_neg (show ¬ (45 : Int32) = 95 by decide), if_neg (show ¬ (45 : Int32) = 46 by decide), if_neg (show ¬ (45 : Int32) = 91 by decide), if_pos (show f_isOne 45 115 108 83 76 = 0 by decide), if_pos (show f_isOne 45 60 62 61 60 = 0 by decide), if_neg (show ¬ (45 : Int32) = 120 by decide), if_neg (show ¬ (45 : Int32) = 113 by decide), if_neg (show ¬ f_isOne 45 43 45 42 47 = 0 by decide)]
theorem cm_47 {μ : MS} {i0 : Int32} (hc : F_charAt μ (μ.1 11 - 1) i0 = 47) : F_command μ i0 = F_calculates (sa μ 10 (μ.1 11 - 1).toNatClampNeg (i0 + 1)) 47 := by
  unfold F_command
  rw [hc, if_pos (show f_within (Int32.toInt64 47) 48 57 = 0 by decide), if_neg (show ¬ (47 : Int32) = 95 by decide), if_neg (show ¬ (47 : Int32) = 46 by decide), if_neg (show ¬ (47 : Int32) = 91 by decide), if_pos (show f_isOne 47 115 108 83 76 = 0 by decide), if_pos (show f_isOne 47 60 62 61 60 = 0 by decide), if_neg (show ¬ (47 : Int32) = 120 by decide), if_neg (show ¬ (47 : Int32) = 113 by decide), if_neg (show ¬ f_isOne 47 43 45 42 47 = 0 by decide)]
theorem cm_60 {μ : MS} {i0 : Int32} (hc : F_charAt μ (μ.1 11 - 1) i0 = 60) : F_command μ i0 = if f_within ((F_charAt μ (μ.1 11 - 1) (i0 + 1)).toInt64) 97 100 = 0 then (0, si μ 16 1) else F_tests (sa μ 10 (μ.1 11 - 1).toNatClampNeg (i0 + 2)) 60 (f_register (F_charAt μ (μ.1 11 - 1) (i0 + 1))) (i0 + 2) := by
  unfold F_command
  rw [hc, if_pos (show f_within (Int32.toInt64 60) 48 57 = 0 by decide), if_neg (show ¬ (60 : Int32) = 95 by decide), if_neg (show ¬ (60 : Int32) = 46 by decide), if_neg (show ¬ (60 : Int32) = 91 by decide), if_pos (show f_isOne 60 115 108 83 76 = 0 by decide), if_neg (show ¬ f_isOne 60 60 62 61 60 = 0 by decide)]
theorem cm_61 {μ : MS} {i0 : Int32} (hc : F_charAt μ (μ.1 11 - 1) i0 = 61) : F_command μ i0 = if f_within ((F_charAt μ (μ.1 11 - 1) (i0 + 1)).toInt64) 97 100 = 0 then (0, si μ 16 1) else F_tests (sa μ 10 (μ.1 11 - 1).toNatClampNeg (i0 + 2)) 61 (f_register (F_charAt μ (μ.1 11 - 1) (i0 + 1))) (i0 + 2) := by
  unfold F_command
  rw [hc, if_pos (show f_within (Int32.toInt64 61) 48 57 = 0 by decide), if_neg (show ¬ (61 : Int32) = 95 by decide), if_neg (show ¬ (61 : Int32) = 46 by decide), if_neg (show ¬ (61 : Int32) = 91 by decide), if_pos (show f_isOne 61 115 108 83 76 = 0 by decide), if_neg (show ¬ f_isOne 61 60 62 61 60 = 0 by decide)]
theorem cm_62 {μ : MS} {i0 : Int32} (hc : F_charAt μ (μ.1 11 - 1) i0 = 62) : F_command μ i0 = if f_within ((F_charAt μ (μ.1 11 - 1) (i0 + 1)).toInt64) 97 100 = 0 then (0, si μ 16 1) else F_tests (sa μ 10 (μ.1 11 - 1).toNatClampNeg (i0 + 2)) 62 (f_register (F_charAt μ (μ.1 11 - 1) (i0 + 1))) (i0 + 2) := by
  unfold F_command
  rw [hc, if_pos (show f_within (Int32.toInt64 62) 48 57 = 0 by decide), if_neg (show ¬ (62 : Int32) = 95 by decide), if_neg (show ¬ (62 : Int32) = 46 by decide), if_neg (show ¬ (62 : Int32) = 91 by decide), if_pos (show f_isOne 62 115 108 83 76 = 0 by decide), if_neg (show ¬ f_isOne 62 60 62 61 60 = 0 by decide)]
theorem cm_76 {μ : MS} {i0 : Int32} (hc : F_charAt μ (μ.1 11 - 1) i0 = 76) : F_command μ i0 = if f_within ((F_charAt μ (μ.1 11 - 1) (i0 + 1)).toInt64) 97 100 = 0 then (0, si μ 16 1) else F_stores (sa μ 10 (μ.1 11 - 1).toNatClampNeg (i0 + 2)) 76 (f_register (F_charAt μ (μ.1 11 - 1) (i0 + 1))) := by
  unfold F_command
  rw [hc, if_pos (show f_within (Int32.toInt64 76) 48 57 = 0 by decide), if_neg (show ¬ (76 : Int32) = 95 by decide), if_neg (show ¬ (76 : Int32) = 46 by decide), if_neg (show ¬ (76 : Int32) = 91 by decide), if_neg (show ¬ f_isOne 76 115 108 83 76 = 0 by decide)]
theorem cm_83 {μ : MS} {i0 : Int32} (hc : F_charAt μ (μ.1 11 - 1) i0 = 83) : F_command μ i0 = if f_within ((F_charAt μ (μ.1 11 - 1) (i0 + 1)).toInt64) 97 100 = 0 then (0, si μ 16 1) else F_stores (sa μ 10 (μ.1 11 - 1).toNatClampNeg (i0 + 2)) 83 (f_register (F_charAt μ (μ.1 11 - 1) (i0 + 1))) := by
  unfold F_command
  rw [hc, if_pos (show f_within (Int32.toInt64 83) 48 57 = 0 by decide), if_neg (show ¬ (83 : Int32) = 95 by decide), if_neg (show ¬ (83 : Int32) = 46 by decide), if_neg (show ¬ (83 : Int32) = 91 by decide), if_neg (show ¬ f_isOne 83 115 108 83 76 = 0 by decide)]
theorem cm_88 {μ : MS} {i0 : Int32} (hc : F_charAt μ (μ.1 11 - 1) i0 = 88) : F_command μ i0 = F_calculates (sa μ 10 (μ.1 11 - 1).toNatClampNeg (i0 + 1)) 88 := by
  unfold F_command
  rw [hc, if_pos (show f_within (Int32.toInt64 88) 48 57 = 0 by decide), if_neg (show ¬ (88 : Int32) = 95 by decide), if_neg (show ¬ (88 : Int32) = 46 by decide), if_neg (show ¬ (88 : Int32) = 91 by decide), if_pos (show f_isOne 88 115 108 83 76 = 0 by decide), if_pos (show f_isOne 88 60 62 61 60 = 0 by decide), if_neg (show ¬ (88 : Int32) = 120 by decide), if_neg (show ¬ (88 : Int32) = 113 by decide), if_pos (show f_isOne 88 43 45 42 47 = 0 by decide), if_pos (show f_isOne 88 37 118 126 107 = 0 by decide), if_pos (rfl : (88 : Int32) = 88)]
theorem cm_91 {μ : MS} {i0 : Int32} (hc : F_charAt μ (μ.1 11 - 1) i0 = 91) : F_command μ i0 = F_brackets μ i0 := by
  unfold F_command
  rw [hc, if_pos (show f_within (Int32.toInt64 91) 48 57 = 0 by decide), if_neg (show ¬ (91 : Int32) = 95 by decide), if_neg (show ¬ (91 : Int32) = 46 by decide), if_pos (rfl : (91 : Int32) = 91)]
theorem cm_107 {μ : MS} {i0 : Int32} (hc : F_charAt μ (μ.1 11 - 1) i0 = 107) : F_command μ i0 = F_calculates (sa μ 10 (μ.1 11 - 1).toNatClampNeg (i0 + 1)) 107 := by
  unfold F_command
  rw [hc, if_pos (show f_within (Int32.toInt64 107) 48 57 = 0 by decide), if_neg (show ¬ (107 : Int32) = 95 by decide), if_neg (show ¬ (107 : Int32) = 46 by decide), if_neg (show ¬ (107 : Int32) = 91 by decide), if_pos (show f_isOne 107 115 108 83 76 = 0 by decide), if_pos (show f_isOne 107 60 62 61 60 = 0 by decide), if_neg (show ¬ (107 : Int32) = 120 by decide), if_neg (show ¬ (107 : Int32) = 113 by decide), if_pos (show f_isOne 107 43 45 42 47 = 0 by decide), if_neg (show ¬ f_isOne 107 37 118 126 107 = 0 by decide)]
theorem cm_108 {μ : MS} {i0 : Int32} (hc : F_charAt μ (μ.1 11 - 1) i0 = 108) : F_command μ i0 = if f_within ((F_charAt μ (μ.1 11 - 1) (i0 + 1)).toInt64) 97 100 = 0 then (0, si μ 16 1) else F_stores (sa μ 10 (μ.1 11 - 1).toNatClampNeg (i0 + 2)) 108 (f_register (F_charAt μ (μ.1 11 - 1) (i0 + 1))) := by
  unfold F_command
  rw [hc, if_pos (show f_within (Int32.toInt64 108) 48 57 = 0 by decide), if_neg (show ¬ (108 : Int32) = 95 by decide), if_neg (show ¬ (108 : Int32) = 46 by decide), if_neg (show ¬ (108 : Int32) = 91 by decide), if_neg (show ¬ f_isOne 108 115 108 83 76 = 0 by decide)]
theorem cm_113 {μ : MS} {i0 : Int32} (hc : F_charAt μ (μ.1 11 - 1) i0 = 113) : F_command μ i0 = (1, si (sa μ 10 (μ.1 11 - 1).toNatClampNeg (i0 + 1)) 18 1) := by
  unfold F_command
  rw [hc, if_pos (show f_within (Int32.toInt64 113) 48 57 = 0 by decide), if_neg (show ¬ (113 : Int32) = 95 by decide), if_neg (show ¬ (113 : Int32) = 46 by decide), if_neg (show ¬ (113 : Int32) = 91 by decide), if_pos (show f_isOne 113 115 108 83 76 = 0 by decide), if_pos (show f_isOne 113 60 62 61 60 = 0 by decide), if_neg (show ¬ (113 : Int32) = 120 by decide), if_pos (rfl : (113 : Int32) = 113)]
theorem cm_115 {μ : MS} {i0 : Int32} (hc : F_charAt μ (μ.1 11 - 1) i0 = 115) : F_command μ i0 = if f_within ((F_charAt μ (μ.1 11 - 1) (i0 + 1)).toInt64) 97 100 = 0 then (0, si μ 16 1) else F_stores (sa μ 10 (μ.1 11 - 1).toNatClampNeg (i0 + 2)) 115 (f_register (F_charAt μ (μ.1 11 - 1) (i0 + 1))) := by
  unfold F_command
  rw [hc, if_pos (show f_within (Int32.toInt64 115) 48 57 = 0 by decide), if_neg (show ¬ (115 : Int32) = 95 by decide), if_neg (show ¬ (115 : Int32) = 46 by decide), if_neg (show ¬ (115 : Int32) = 91 by decide), if_neg (show ¬ f_isOne 115 115 108 83 76 = 0 by decide)]
theorem cm_118 {μ : MS} {i0 : Int32} (hc : F_charAt μ (μ.1 11 - 1) i0 = 118) : F_command μ i0 = F_calculates (sa μ 10 (μ.1 11 - 1).toNatClampNeg (i0 + 1)) 118 := by
  unfold F_command
  rw [hc, if_pos (show f_within (Int32.toInt64 118) 48 57 = 0 by decide), if_neg (show ¬ (118 : Int32) = 95 by decide), if_neg (show ¬ (118 : Int32) = 46 by decide), if_neg (show ¬ (118 : Int32) = 91 by decide), if_pos (show f_isOne 118 115 108 83 76 = 0 by decide), if_pos (show f_isOne 118 60 62 61 60 = 0 by decide), if_neg (show ¬ (118 : Int32) = 120 by decide), if_neg (show ¬ (118 : Int32) = 113 by decide), if_pos (show f_isOne 118 43 45 42 47 = 0 by decide), if_neg (show ¬ f_isOne 118 37 118 126 107 = 0 by decide)]
theorem cm_120 {μ : MS} {i0 : Int32} (hc : F_charAt μ (μ.1 11 - 1) i0 = 120) : F_command μ i0 = F_runs (sa μ 10 (μ.1 11 - 1).toNatClampNeg (i0 + 1)) (i0 + 1) := by
  unfold F_command
  rw [hc, if_pos (show f_within (Int32.toInt64 120) 48 57 = 0 by decide), if_neg (show ¬ (120 : Int32) = 95 by decide), if_neg (show ¬ (120 : Int32) = 46 by decide), if_neg (show ¬ (120 : Int32) = 91 by decide), if_pos (show f_isOne 120 115 108 83 76 = 0 by decide), if_pos (show f_isOne 120 60 62 61 60 = 0 by decide), if_pos (rfl : (120 : Int32) = 120)]
theorem cm_126 {μ : MS} {i0 : Int32} (hc : F_charAt μ (μ.1 11 - 1) i0 = 126) : F_command μ i0 = F_calculates (sa μ 10 (μ.1 11 - 1).toNatClampNeg (i0 + 1)) 126 := by
  unfold F_command
  rw [hc, if_pos (show f_within (Int32.toInt64 126) 48 57 = 0 by decide), if_neg (show ¬ (126 : Int32) = 95 by decide), if_neg (show ¬ (126 : Int32) = 46 by decide), if_neg (show ¬ (126 : Int32) = 91 by decide), if_pos (show f_isOne 126 115 108 83 76 = 0 by decide), if_pos (show f_isOne 126 60 62 61 60 = 0 by decide), if_neg (show ¬ (126 : Int32) = 120 by decide), if_neg (show ¬ (126 : Int32) = 113 by decide), if_pos (show f_isOne 126 43 45 42 47 = 0 by decide), if_neg (show ¬ f_isOne 126 37 118 126 107 = 0 by decide)]
theorem cm_68 {μ : MS} {i0 : Int32} (hc : F_charAt μ (μ.1 11 - 1) i0 = 68) : F_command μ i0 = F_moves (sa μ 10 (μ.1 11 - 1).toNatClampNeg (i0 + 1)) 68 := by
  unfold F_command
  rw [hc, if_pos (show f_within (Int32.toInt64 68) 48 57 = 0 by decide), if_neg (show ¬ (68 : Int32) = 95 by decide), if_neg (show ¬ (68 : Int32) = 46 by decide), if_neg (show ¬ (68 : Int32) = 91 by decide), if_pos (show f_isOne 68 115 108 83 76 = 0 by decide), if_pos (show f_isOne 68 60 62 61 60 = 0 by decide), if_neg (show ¬ (68 : Int32) = 120 by decide), if_neg (show ¬ (68 : Int32) = 113 by decide), if_pos (show f_isOne 68 43 45 42 47 = 0 by decide), if_pos (show f_isOne 68 37 118 126 107 = 0 by decide), if_neg (show ¬ (68 : Int32) = 88 by decide), if_neg (show ¬ f_isOne 68 100 114 68 99 = 0 by decide)]
theorem cm_75 {μ : MS} {i0 : Int32} (hc : F_charAt μ (μ.1 11 - 1) i0 = 75) : F_command μ i0 = F_moves (sa μ 10 (μ.1 11 - 1).toNatClampNeg (i0 + 1)) 75 := by
  unfold F_command
  rw [hc, if_pos (show f_within (Int32.toInt64 75) 48 57 = 0 by decide), if_neg (show ¬ (75 : Int32) = 95 by decide), if_neg (show ¬ (75 : Int32) = 46 by decide), if_neg (show ¬ (75 : Int32) = 91 by decide), if_pos (show f_isOne 75 115 108 83 76 = 0 by decide), if_pos (show f_isOne 75 60 62 61 60 = 0 by decide), if_neg (show ¬ (75 : Int32) = 120 by decide), if_neg (show ¬ (75 : Int32) = 113 by decide), if_pos (show f_isOne 75 43 45 42 47 = 0 by decide), if_pos (show f_isOne 75 37 118 126 107 = 0 by decide), if_neg (show ¬ (75 : Int32) = 88 by decide), if_pos (show f_isOne 75 100 114 68 99 = 0 by decide), if_neg (show ¬ f_isOne 75 122 75 112 112 = 0 by decide)]
theorem cm_99 {μ : MS} {i0 : Int32} (hc : F_charAt μ (μ.1 11 - 1) i0 = 99) : F_command μ i0 = F_moves (sa μ 10 (μ.1 11 - 1).toNatClampNeg (i0 + 1)) 99 := by
  unfold F_command
  rw [hc, if_pos (show f_within (Int32.toInt64 99) 48 57 = 0 by decide), if_neg (show ¬ (99 : Int32) = 95 by decide), if_neg (show ¬ (99 : Int32) = 46 by decide), if_neg (show ¬ (99 : Int32) = 91 by decide), if_pos (show f_isOne 99 115 108 83 76 = 0 by decide), if_pos (show f_isOne 99 60 62 61 60 = 0 by decide), if_neg (show ¬ (99 : Int32) = 120 by decide), if_neg (show ¬ (99 : Int32) = 113 by decide), if_pos (show f_isOne 99 43 45 42 47 = 0 by decide), if_pos (show f_isOne 99 37 118 126 107 = 0 by decide), if_neg (show ¬ (99 : Int32) = 88 by decide), if_neg (show ¬ f_isOne 99 100 114 68 99 = 0 by decide)]
theorem cm_100 {μ : MS} {i0 : Int32} (hc : F_charAt μ (μ.1 11 - 1) i0 = 100) : F_command μ i0 = F_moves (sa μ 10 (μ.1 11 - 1).toNatClampNeg (i0 + 1)) 100 := by
  unfold F_command
  rw [hc, if_pos (show f_within (Int32.toInt64 100) 48 57 = 0 by decide), if_neg (show ¬ (100 : Int32) = 95 by decide), if_neg (show ¬ (100 : Int32) = 46 by decide), if_neg (show ¬ (100 : Int32) = 91 by decide), if_pos (show f_isOne 100 115 108 83 76 = 0 by decide), if_pos (show f_isOne 100 60 62 61 60 = 0 by decide), if_neg (show ¬ (100 : Int32) = 120 by decide), if_neg (show ¬ (100 : Int32) = 113 by decide), if_pos (show f_isOne 100 43 45 42 47 = 0 by decide), if_pos (show f_isOne 100 37 118 126 107 = 0 by decide), if_neg (show ¬ (100 : Int32) = 88 by decide), if_neg (show ¬ f_isOne 100 100 114 68 99 = 0 by decide)]
theorem cm_112 {μ : MS} {i0 : Int32} (hc : F_charAt μ (μ.1 11 - 1) i0 = 112) : F_command μ i0 = F_moves (sa μ 10 (μ.1 11 - 1).toNatClampNeg (i0 + 1)) 112 := by
  unfold F_command
  rw [hc, if_pos (show f_within (Int32.toInt64 112) 48 57 = 0 by decide), if_neg (show ¬ (112 : Int32) = 95 by decide), if_neg (show ¬ (112 : Int32) = 46 by decide), if_neg (show ¬ (112 : Int32) = 91 by decide), if_pos (show f_isOne 112 115 108 83 76 = 0 by decide), if_pos (show f_isOne 112 60 62 61 60 = 0 by decide), if_neg (show ¬ (112 : Int32) = 120 by decide), if_neg (show ¬ (112 : Int32) = 113 by decide), if_pos (show f_isOne 112 43 45 42 47 = 0 by decide), if_pos (show f_isOne 112 37 118 126 107 = 0 by decide), if_neg (show ¬ (112 : Int32) = 88 by decide), if_pos (show f_isOne 112 100 114 68 99 = 0 by decide), if_neg (show ¬ f_isOne 112 122 75 112 112 = 0 by decide)]
theorem cm_114 {μ : MS} {i0 : Int32} (hc : F_charAt μ (μ.1 11 - 1) i0 = 114) : F_command μ i0 = F_moves (sa μ 10 (μ.1 11 - 1).toNatClampNeg (i0 + 1)) 114 := by
  unfold F_command
  rw [hc, if_pos (show f_within (Int32.toInt64 114) 48 57 = 0 by decide), if_neg (show ¬ (114 : Int32) = 95 by decide), if_neg (show ¬ (114 : Int32) = 46 by decide), if_neg (show ¬ (114 : Int32) = 91 by decide), if_pos (show f_isOne 114 115 108 83 76 = 0 by decide), if_pos (show f_isOne 114 60 62 61 60 = 0 by decide), if_neg (show ¬ (114 : Int32) = 120 by decide), if_neg (show ¬ (114 : Int32) = 113 by decide), if_pos (show f_isOne 114 43 45 42 47 = 0 by decide), if_pos (show f_isOne 114 37 118 126 107 = 0 by decide), if_neg (show ¬ (114 : Int32) = 88 by decide), if_neg (show ¬ f_isOne 114 100 114 68 99 = 0 by decide)]
theorem cm_122 {μ : MS} {i0 : Int32} (hc : F_charAt μ (μ.1 11 - 1) i0 = 122) : F_command μ i0 = F_moves (sa μ 10 (μ.1 11 - 1).toNatClampNeg (i0 + 1)) 122 := by
  unfold F_command
  rw [hc, if_pos (show f_within (Int32.toInt64 122) 48 57 = 0 by decide), if_neg (show ¬ (122 : Int32) = 95 by decide), if_neg (show ¬ (122 : Int32) = 46 by decide), if_neg (show ¬ (122 : Int32) = 91 by decide), if_pos (show f_isOne 122 115 108 83 76 = 0 by decide), if_pos (show f_isOne 122 60 62 61 60 = 0 by decide), if_neg (show ¬ (122 : Int32) = 120 by decide), if_neg (show ¬ (122 : Int32) = 113 by decide), if_pos (show f_isOne 122 43 45 42 47 = 0 by decide), if_pos (show f_isOne 122 37 118 126 107 = 0 by decide), if_neg (show ¬ (122 : Int32) = 88 by decide), if_pos (show f_isOne 122 100 114 68 99 = 0 by decide), if_neg (show ¬ f_isOne 122 122 75 112 112 = 0 by decide)]
theorem one_no {c a b d e : Int32} (h1 : c ≠ a) (h2 : c ≠ b) (h3 : c ≠ d) (h4 : c ≠ e) : f_isOne c a b d e = 0 := by unfold f_isOne; rw [if_neg h1, if_neg h2, if_neg h3, if_neg h4]
theorem cmd_none {μ : MS} {i0 c : Int32} (hc : F_charAt μ (μ.1 11 - 1) i0 = c) (hw : f_within c.toInt64 48 57 = 0) (hn : ∀ k ∈ ([95, 46, 37, 42, 43, 45, 47, 60, 61, 62, 76, 83, 88, 91, 107, 108, 113, 115, 118, 120, 126, 68, 75, 99, 100, 112, 114, 122] : List Int32), c ≠ k) : F_command μ i0 = (0, si (sa μ 10 (μ.1 11 - 1).toNatClampNeg (i0 + 1)) 16 1) := by
  unfold F_command
  rw [hc, if_pos hw, if_neg (hn 95 (by decide)), if_neg (hn 46 (by decide)), if_neg (hn 91 (by decide)), if_pos (one_no (hn 115 (by decide)) (hn 108 (by decide)) (hn 83 (by decide)) (hn 76 (by decide))), if_pos (one_no (hn 60 (by decide)) (hn 62 (by decide)) (hn 61 (by decide)) (hn 60 (by decide))), if_neg (hn 120 (by decide)), if_neg (hn 113 (by decide)), if_pos (one_no (hn 43 (by decide)) (hn 45 (by decide)) (hn 42 (by decide)) (hn 47 (by decide))), if_pos (one_no (hn 37 (by decide)) (hn 118 (by decide)) (hn 126 (by decide)) (hn 107 (by decide))), if_neg (hn 88 (by decide)), if_pos (one_no (hn 100 (by decide)) (hn 114 (by decide)) (hn 68 (by decide)) (hn 99 (by decide))), if_pos (one_no (hn 122 (by decide)) (hn 75 (by decide)) (hn 112 (by decide)) (hn 112 (by decide)))]
theorem cm_dig {μ : MS} {i0 c : Int32} (hc : F_charAt μ (μ.1 11 - 1) i0 = c) (h : ¬ f_within c.toInt64 48 57 = 0 ∨ c = 95 ∨ c = 46) : F_command μ i0 = F_digits μ i0 := by
  unfold F_command
  rw [hc]
  by_cases h1 : f_within c.toInt64 48 57 = 0
  · rw [if_pos h1]
    by_cases h2 : c = 95
    · rw [if_pos h2]
    · rw [if_neg h2]
      rcases h with h | h | h
      · exact absurd h1 h
      · exact absurd h h2
      · rw [if_pos h]
  · rw [if_neg h1]
theorem arr_none {σ : XS} {k : Int32} (hn : ∀ c ∈ ([68, 75, 99, 100, 112, 114, 122] : List Int32), k ≠ c) : Xdesk_arrangeStack σ k = .inl ("java/lang/IllegalArgumentException", σ) := by
  unfold Xdesk_arrangeStack
  rw [if_neg (hn 68 (by decide)), if_neg (hn 75 (by decide)), if_neg (hn 99 (by decide)), if_neg (hn 100 (by decide)), if_neg (hn 112 (by decide)), if_neg (hn 114 (by decide)), if_neg (hn 122 (by decide))]
