theorem cr_91 {σ : XS} {μ : MS} {i0 : Int32} (h : ST σ μ) (hw : xWF σ) (hr : rok σ) (h16 : μ.1 16 = 0) (hn : NX σ μ i0.toInt) (hat : μ.2.2.1 10 ((μ.1 11).toInt - 1).toNat = i0) (hlt : i0.toInt < (μ.2.2.1 9 ((μ.1 11).toInt - 1).toNat).toInt) (hc : Xnest_look σ = 91) {rx : (String × XS) ⊕ XS} {rm : Int32 × MS} (hx : Xdesk_doCommand σ = rx) (hm : F_command μ i0 = rm) : dres σ μ rx rm := by
  have hL := lvN (nx_b hn).2.2.2.1 (nx_b hn).2.2.2.2
  rw [do_91 hc] at hx
  rw [cm_91 ((look_M hr hn).trans hc)] at hm
  have e := txt_rel h hw hr h16 hn hat hlt
  rw [hx, hm] at e
  exact e
theorem cr_120 {σ : XS} {μ : MS} {i0 : Int32} (h : ST σ μ) (hw : xWF σ) (hr : rok σ) (h16 : μ.1 16 = 0) (hn : NX σ μ i0.toInt) (hat : μ.2.2.1 10 ((μ.1 11).toInt - 1).toNat = i0) (hlt : i0.toInt < (μ.2.2.1 9 ((μ.1 11).toInt - 1).toNat).toInt) (hc : Xnest_look σ = 120) {rx : (String × XS) ⊕ XS} {rm : Int32 × MS} (hx : Xdesk_doCommand σ = rx) (hm : F_command μ i0 = rm) : dres σ μ rx rm := by
  have hL := lvN (nx_b hn).2.2.2.1 (nx_b hn).2.2.2.2
  rw [do_120 hc] at hx
  rw [cm_120 ((look_M hr hn).trans hc), hL] at hm
  have e0 := (runs_rel (s1_of (v := i0 + 1) h) (pass_wf hw) (rok_rs (pass_kp (σ := σ)).1 hr) h16 (NX_sa10 (n1_of h hw hr h16 hn hat hlt)) sa_at)
  rw [hx, hm] at e0
  exact lift1m h hw hr h16 hn hat hlt e0
/-- a command, in both -/
theorem cmd_rel {σ : XS} {μ : MS} {i0 : Int32} (h : ST σ μ) (hw : xWF σ) (hr : rok σ) (h16 : μ.1 16 = 0) (hn : NX σ μ i0.toInt) (hat : μ.2.2.1 10 ((μ.1 11).toInt - 1).toNat = i0) (hlt : i0.toInt < (μ.2.2.1 9 ((μ.1 11).toInt - 1).toNat).toInt) (hq : Xnest_look σ ≠ 113) {rx : (String × XS) ⊕ XS} {rm : Int32 × MS} (hx : Xdesk_doCommand σ = rx) (hm : F_command μ i0 = rm) : dres σ μ rx rm := by
  by_cases hb : Xd_beginsNumber (Xnest_look σ) = 0
  · have b1 := (bg_no hb).1
    have b2 := (bg_no hb).2.1
    have b3 := (bg_no hb).2.2
    by_cases c37 : Xnest_look σ = 37
    · exact cr_37 h hw hr h16 hn hat hlt c37 hx hm
    by_cases c42 : Xnest_look σ = 42
    · exact cr_42 h hw hr h16 hn hat hlt c42 hx hm
    by_cases c43 : Xnest_look σ = 43
    · exact cr_43 h hw hr h16 hn hat hlt c43 hx hm
    by_cases c45 : Xnest_look σ = 45
    · exact cr_45 h hw hr h16 hn hat hlt c45 hx hm
    by_cases c47 : Xnest_look σ = 47
    · exact cr_47 h hw hr h16 hn hat hlt c47 hx hm
    by_cases c60 : Xnest_look σ = 60
    · exact cr_60 h hw hr h16 hn hat hlt c60 hx hm
    by_cases c61 : Xnest_look σ = 61
    · exact cr_61 h hw hr h16 hn hat hlt c61 hx hm
    by_cases c62 : Xnest_look σ = 62
    · exact cr_62 h hw hr h16 hn hat hlt c62 hx hm
    by_cases c76 : Xnest_look σ = 76
    · exact cr_76 h hw hr h16 hn hat hlt c76 hx hm
    by_cases c83 : Xnest_look σ = 83
    · exact cr_83 h hw hr h16 hn hat hlt c83 hx hm
    by_cases c88 : Xnest_look σ = 88
    · exact cr_88 h hw hr h16 hn hat hlt c88 hx hm
    by_cases c91 : Xnest_look σ = 91
    · exact cr_91 h hw hr h16 hn hat hlt c91 hx hm
    by_cases c107 : Xnest_look σ = 107
    · exact cr_107 h hw hr h16 hn hat hlt c107 hx hm
    by_cases c108 : Xnest_look σ = 108
    · exact cr_108 h hw hr h16 hn hat hlt c108 hx hm
    by_cases c115 : Xnest_look σ = 115
    · exact cr_115 h hw hr h16 hn hat hlt c115 hx hm
    by_cases c118 : Xnest_look σ = 118
    · exact cr_118 h hw hr h16 hn hat hlt c118 hx hm
    by_cases c120 : Xnest_look σ = 120
    · exact cr_120 h hw hr h16 hn hat hlt c120 hx hm
    by_cases c126 : Xnest_look σ = 126
    · exact cr_126 h hw hr h16 hn hat hlt c126 hx hm
    by_cases c68 : Xnest_look σ = 68
    · exact cr_68 h hw hr h16 hn hat hlt c68 hx hm
    by_cases c75 : Xnest_look σ = 75
    · exact cr_75 h hw hr h16 hn hat hlt c75 hx hm
    by_cases c99 : Xnest_look σ = 99
    · exact cr_99 h hw hr h16 hn hat hlt c99 hx hm
    by_cases c100 : Xnest_look σ = 100
    · exact cr_100 h hw hr h16 hn hat hlt c100 hx hm
    by_cases c112 : Xnest_look σ = 112
    · exact cr_112 h hw hr h16 hn hat hlt c112 hx hm
    by_cases c114 : Xnest_look σ = 114
    · exact cr_114 h hw hr h16 hn hat hlt c114 hx hm
    by_cases c122 : Xnest_look σ = 122
    · exact cr_122 h hw hr h16 hn hat hlt c122 hx hm
    have hA : ∀ k ∈ ([37, 42, 43, 45, 47, 60, 61, 62, 76, 83, 88, 91, 107, 108, 113, 115, 118, 120, 126] : List Int32), Xnest_look σ ≠ k := by
      intro k hk
      simp only [List.mem_cons, List.not_mem_nil, or_false] at hk
      rcases hk with rfl | rfl | rfl | rfl | rfl | rfl | rfl | rfl | rfl | rfl | rfl | rfl | rfl | rfl | rfl | rfl | rfl | rfl | rfl <;> assumption
    have hB : ∀ k ∈ ([68, 75, 99, 100, 112, 114, 122] : List Int32), Xnest_look σ ≠ k := by
      intro k hk
      simp only [List.mem_cons, List.not_mem_nil, or_false] at hk
      rcases hk with rfl | rfl | rfl | rfl | rfl | rfl | rfl <;> assumption
    have hC : ∀ k ∈ ([95, 46, 37, 42, 43, 45, 47, 60, 61, 62, 76, 83, 88, 91, 107, 108, 113, 115, 118, 120, 126, 68, 75, 99, 100, 112, 114, 122] : List Int32), Xnest_look σ ≠ k := by
      intro k hk
      simp only [List.mem_cons, List.not_mem_nil, or_false] at hk
      rcases hk with rfl | rfl | rfl | rfl | rfl | rfl | rfl | rfl | rfl | rfl | rfl | rfl | rfl | rfl | rfl | rfl | rfl | rfl | rfl | rfl | rfl | rfl | rfl | rfl | rfl | rfl | rfl | rfl <;> assumption
    have hL := lvN (nx_b hn).2.2.2.1 (nx_b hn).2.2.2.2
    have hkp := pass_kp (σ := σ)
    rw [do_arr hb hA, arr_none hB] at hx
    rw [cmd_none (look_M hr hn) (wd_eq.mpr b1) hC, hL] at hm
    have hb9 := (dbad_si (E := "java/lang/IllegalArgumentException") (s1_of (v := i0 + 1) h) (pass_wf hw) xcd_1).1
    exact dres_no hx.symm hm.symm ⟨hb9.1, hkp.1, by rw [hkp.2.1], sa_k.tr hb9.2.2.2.1, hb9.2.2.2.2⟩
  · have e := num_rel h hw hr h16 hn hat hlt
    rw [do_num hb] at hx
    rw [cm_dig (look_M hr hn) (by
      rcases bg_yes hb with q | q | q
      · exact Or.inl (fun e => q (wd_eq.mp e))
      · exact Or.inr (Or.inl q)
      · exact Or.inr (Or.inr q))] at hm
    rw [hx, hm] at e
    exact e
