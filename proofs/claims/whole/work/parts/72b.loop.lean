theorem lp_d {W A c : Int} {P d : Nat} (hW : W + 161 * (A - c) ≤ (P : Int)) (hp : 1 ≤ W - d) (hcn : c ≤ A) : d + 1 ≤ P := by omega
theorem lp_1 {W W3 A c c3 : Int} {P d : Nat} (hW : W + 161 * (A - c) ≤ (P : Int)) (h3 : W3 ≤ W - d + 160) (hc : c3 = c + 1) (hd : d + 1 ≤ P) : W3 + 161 * (A - c3) ≤ ((P - d - 1 : Nat) : Int) := by omega
theorem lp_2 {W W3 A c : Int} {P d : Nat} (hW : W + 161 * (A - c) ≤ (P : Int)) (h3 : W3 = W - d - 1) (hd : d + 1 ≤ P) : W3 + 161 * (A - c) ≤ ((P - d - 1 : Nat) : Int) := by omega
theorem lp_k {k k2 k3 : Int} {P d : Nat} (h0 : 0 ≤ k) (hk : k + P + 2 ≤ 200000) (h2 : k2 = k + d) (h3 : k3 = k2 + 1) (hd : d + 1 ≤ P) : 0 ≤ k3 ∧ k3 + ((P - d - 1 : Nat) : Int) + 2 ≤ 200000 := by omega
theorem lp_x {k k3 : Int} {P d : Nat} (h0 : 0 ≤ k) (hk : k + P + 2 ≤ 1000000) (h3 : k3 = k + 1) (hd : d + 1 ≤ P) : 0 ≤ k3 ∧ k3 + ((P - d - 1 : Nat) : Int) + 2 ≤ 1000000 := by omega
theorem lp_f {f P d x : Nat} (h : P + 2 ≤ f) (hd : d + 1 ≤ P) (hx : f = x + 1 + d) : P - d - 1 + 2 ≤ x ∧ 1 ≤ x := by omega
theorem lp_g {f P d x : Nat} (h : P + 2 ≤ f) (hd : d + 1 ≤ P) (hx : f = x + 1) : P - d - 1 + 2 ≤ x ∧ 1 ≤ x := by omega
theorem leaveAll_kn {σ : XS} : kn σ (Xnest_leaveAll (Xnest_pass σ)) := (kn_kp pass_kp).tr ⟨xi_rs (by decide), fun k hk => xi_ne hk, rfl, fun _ _ => rfl, fun _ _ _ => rfl⟩
theorem XLs_leave {n k : Int32} {f : Nat} {σ s : XS} (hs : Xnest_skipBlanks σ = s) (hk : k.toInt < 1000000) (h : 1 ≤ (σ.1 2).toInt) (hl : Xnest_look s = 0) : Xdesk_run_L61 n (f + 1) k σ = Xdesk_run_L61 n f (k + 1) (Xnest_leave s) := by subst hs; exact XL_leave hk h hl
theorem XLs_fuel {n k : Int32} {f : Nat} {σ s : XS} (hs : Xnest_skipBlanks σ = s) (hk : k.toInt < 1000000) (h : 1 ≤ (σ.1 2).toInt) (hl : ¬ Xnest_look s = 0) (hc : ¬ s.1 1 < n) : Xdesk_run_L61 n (f + 1) k σ = .inl ("java/lang/UnsupportedOperationException", s) := by subst hs; exact XL_fuel hk h hl hc
theorem XLs_bad {n k : Int32} {f : Nat} {σ s : XS} {e : String × XS} (hs : Xnest_skipBlanks σ = s) (hk : k.toInt < 1000000) (h : 1 ≤ (σ.1 2).toInt) (hl : ¬ Xnest_look s = 0) (hc : s.1 1 < n) (hd : Xdesk_doCommand s = .inl e) : Xdesk_run_L61 n (f + 1) k σ = .inl e := by subst hs; exact XL_bad hk h hl hc hd
theorem XLs_cmd {n k : Int32} {f : Nat} {σ s u : XS} (hs : Xnest_skipBlanks σ = s) (hk : k.toInt < 1000000) (h : 1 ≤ (σ.1 2).toInt) (hl : ¬ Xnest_look s = 0) (hc : s.1 1 < n) (hd : Xdesk_doCommand s = .inr u) : Xdesk_run_L61 n (f + 1) k σ = Xdesk_run_L61 n f (k + 1) (xi u 1 (u.1 1 + 1)) := by subst hs; exact XL_cmd hk h hl hc hd
set_option maxHeartbeats 200000 in
/-- the two loops, side by side -/
theorem loop_rel {n : Int32} (hn0 : 0 ≤ n.toInt) (hn5 : n.toInt ≤ 500) : ∀ (P f f' : Nat) (k k' : Int32) (σ : XS) (τ : MS) (rx : (String × XS) ⊕ (Int32 × XS)) (rm : Int32 × MS), Xdesk_run_L61 n f' k' σ = rx → F_run_L91 n f k τ = rm → PS σ τ → NR σ τ → RI τ → τ.1 16 = 0 → τ.1 18 = 0 → 0 ≤ (τ.1 15).toInt → (τ.1 15).toInt ≤ n.toInt → Wt τ + 161 * (n.toInt - (τ.1 15).toInt) ≤ (P : Int) → P + 2 ≤ f → P + 2 ≤ f' → 0 ≤ k.toInt → k.toInt + P + 2 ≤ 200000 → 0 ≤ k'.toInt → k'.toInt + P + 2 ≤ 1000000 → rres rx rm ∧ RIs n f k τ := by
  intro P
  induction P using Nat.strongRecOn with
  | ind P ih =>
    intro f f' k k' σ τ rx rm hx hm hP hN hR h16 h18 hc0 hcn hW hf hf' hk hk2 hk' hk2'
    have z1 : (1 : Int32).toInt = 1 := rfl
    have z0 : (0 : Int32).toInt = 0 := rfl
    obtain ⟨fx, hfx⟩ : ∃ x, f' = x + 1 := ⟨f' - 1, by omega⟩
    have c3 := hN.1.2.2
    have c2 := hN.1.2.1
    have hσ2 : σ.1 2 = τ.1 11 := hN.1.1
    rw [hfx] at hx
    by_cases hl0 : (τ.1 11).toInt = 0
    · obtain ⟨fm, hfm⟩ : ∃ x, f = x + 1 := ⟨f - 1, by omega⟩
      rw [hfm] at hm ⊢
      have e0 : τ.1 11 = 0 := Int32.toInt_inj.mp hl0
      have e := end_good (y0 := n) (k := k) (f := fm) hP hR h16 (rn_lev (by rw [e0]; decide))
      rw [XL_done (by rw [hσ2, e0]; decide)] at hx
      rw [hm, hx] at e
      exact e
    · have h1 : 1 ≤ (τ.1 11).toInt := by omega
      obtain ⟨v, d, v1, v2, v3, v4, v5, v6, v7, v8⟩ := stage hP.2.1 hN h1
      have hw2 := skipBlanks_wf hP.1
      obtain ⟨s2, hs2⟩ : ∃ s, Xnest_skipBlanks σ = s := ⟨_, rfl⟩
      rw [hs2] at hw2 v6 v7
      have hr2 := rok_rs v7.1 hP.2.1
      have hx2 := NX_sa10 (v := v) v6
      have hP2 : PS s2 (sa τ 10 ((τ.1 11).toInt - 1).toNat v) := PS_sa (PS_kp v7 hP hw2)
      have hN2 : NR s2 (sa τ 10 ((τ.1 11).toInt - 1).toNat v) := NX_at hx2 (by rw [sa_at])
      have hWt : Wt (sa τ 10 ((τ.1 11).toInt - 1).toNat v) = Wt τ - d := by rw [Wt_sa h1, v1]; omega
      have hWp : (τ.1 11).toInt ≤ Wt (sa τ 10 ((τ.1 11).toInt - 1).toNat v) := Wt_pos hN2
      have hR2 : RI (sa τ 10 ((τ.1 11).toInt - 1).toNat v) := ri_at (by rw [v1]; omega) hR
      have hd : d + 1 ≤ P := lp_d hW (by rw [← hWt]; exact Int.le_trans h1 hWp) hcn
      obtain ⟨fm, hfm⟩ : ∃ x, f = x + 1 + d := ⟨f - d - 1, by omega⟩
      have lf := lp_f hf hd hfm
      have lg := lp_g hf' hd hfx
      obtain ⟨k2, q1, q2, q3⟩ := M_bl (y0 := n) d (fm + 1) k v τ h1 c3 h18 h16 v2 v1 v3 v4 v5 hk (by omega)
      rw [hfm] at hm ⊢
      rw [q2] at hm
      suffices H : rres rx rm ∧ RIs n (fm + 1) k2 (sa τ 10 ((τ.1 11).toInt - 1).toNat v) from ⟨H.1, q3 hR H.2⟩
      clear q2 q3
      have xat : (sa τ 10 ((τ.1 11).toInt - 1).toNat v).2.2.1 10 (((sa τ 10 ((τ.1 11).toInt - 1).toNat v).1 11).toInt - 1).toNat = v := sa_at
      have x1 : (sa τ 10 ((τ.1 11).toInt - 1).toNat v).1 = τ.1 := rfl
      have x9 : (sa τ 10 ((τ.1 11).toInt - 1).toNat v).2.2.1 9 = τ.2.2.1 9 := sa10_9
      have x8 : (sa τ 10 ((τ.1 11).toInt - 1).toNat v).2.2.1 8 = τ.2.2.1 8 := sa10_8
      generalize sa τ 10 ((τ.1 11).toInt - 1).toNat v = ξ at *
      have h1x : 1 ≤ (ξ.1 11).toInt := by rw [x1]; exact h1
      have c3x : (ξ.1 11).toInt ≤ 12 := by rw [x1]; exact c3
      have h16x : ξ.1 16 = 0 := by rw [x1]; exact h16
      have h18x : ξ.1 18 = 0 := by rw [x1]; exact h18
      have w3 : v.toInt ≤ (ξ.2.2.1 9 ((ξ.1 11).toInt - 1).toNat).toInt := by rw [x9, x1]; exact v3
      have w4 : (ξ.2.2.1 9 ((ξ.1 11).toInt - 1).toNat).toInt ≤ 160 := by rw [x9, x1]; exact v4
      have w8 : v.toInt < (ξ.2.2.1 9 ((ξ.1 11).toInt - 1).toNat).toInt → ¬ blk (ξ.2.2.1 8 (160 * ((ξ.1 11).toInt - 1).toNat + v.toInt.toNat)) := by rw [x9, x8, x1]; exact v8
      have hL := lvN h1x c3x
      have hv0 : 0 ≤ v.toInt := by rw [v1]; omega
      have kk : k2.toInt < 200000 := by rw [q1]; omega
      have ek : (k2 + 1).toInt = k2.toInt + 1 := i_addE rfl z1 (by rw [q1]; omega) (by omega)
      have ek' : (k' + 1).toInt = k'.toInt + 1 := i_addE rfl z1 (by omega) (by omega)
      have kx9 : k'.toInt < 1000000 := by omega
      have lk := lp_k hk hk2 q1 ek hd
      have lx := lp_x hk' hk2' ek' hd
      have hs1 : 1 ≤ (σ.1 2).toInt := by rw [hσ2]; exact h1
      have hrn := rn_some (y0 := n) (k := k2) (τ := ξ) kk h1x h18x h16x
      have hix := (ix_lv (μ := ξ) (i := v) h1x c3x ⟨hv0, Int.le_trans w3 w4⟩).2
      rw [hL, xat, hix] at hrn
      have hcx : ξ.1 15 = τ.1 15 := by rw [x1]
      clear v8 v5 v2 v1 hfm hf hf' v6 v7
      by_cases hsz : v.toInt < (ξ.2.2.1 9 ((ξ.1 11).toInt - 1).toNat).toInt
      · have hlk := (look_eq hr2 hx2).1 hsz
        have hl9 : ¬ Xnest_look s2 = 0 := fun e => by
          have := hlk.2.1
          rw [e, z0] at this
          exact absurd this (by decide)
        have hcost : s2.1 1 = ξ.1 15 := hP2.2.2.2.2
        rw [if_pos (by rw [Int32.lt_iff_toInt_lt]; exact hsz), if_pos (isNothing_eq.mpr (w8 hsz))] at hrn
        by_cases hfu : ξ.1 15 = n
        · rw [if_pos hfu] at hrn
          rw [L91_some hrn] at hm
          rw [XLs_fuel hs2 kx9 hs1 hl9 (by rw [hcost, hfu, Int32.lt_iff_toInt_lt]; exact Int.lt_irrefl _)] at hx
          obtain ⟨fm2, hfm2⟩ : ∃ x, fm = x + 1 := ⟨fm - 1, by have := lf.2; omega⟩
          rw [hfm2] at hm ⊢
          have e := end_bad (y0 := n) (k := k2 + 1) (f := fm2) (E := "java/lang/UnsupportedOperationException") (PS_si (k := 16) (v := 5) (Or.inr (Or.inl rfl)) hP2) (ri_si (Or.inr (Or.inl rfl)) hR2) (by rw [xcd_5]; exact z16)
          rw [hm, hx] at e
          exact ⟨e.1, RIs_next hR2 hrn e.2⟩
        · rw [if_neg hfu] at hrn
          have hlt2 : s2.1 1 < n := by
            have hne : (τ.1 15).toInt ≠ n.toInt := fun e => hfu (Int32.toInt_inj.mp (by rw [hcx]; exact e))
            rw [hcost, hcx, Int32.lt_iff_toInt_lt]; omega
          by_cases hq : Xnest_look s2 = 113
          · have hcm := cm_113 ((look_M hr2 hx2).trans hq)
            rw [hL] at hcm
            rw [hcm] at hrn
            rw [if_neg (show ¬ (1 : Int32) = 0 by decide)] at hrn
            rw [L91_some hrn] at hm
            rw [XLs_cmd hs2 kx9 hs1 hl9 hlt2 (do_113 hq)] at hx
            obtain ⟨fm2, hfm2⟩ : ∃ x, fm = x + 1 := ⟨fm - 1, by have := lf.2; omega⟩
            obtain ⟨fx2, hfx2⟩ : ∃ x, fx = x + 1 := ⟨fx - 1, by have := lg.2; omega⟩
            rw [hfm2] at hm ⊢
            rw [hfx2] at hx
            have hkn := leaveAll_kn (σ := s2)
            have hP3 := PS_tick (PS_kn hkn (leaveAll_wf (pass_wf hw2)) (PS_si (k := 18) (v := 1) (Or.inr (Or.inr (Or.inr rfl))) (PS_sa (j := ((ξ.1 11).toInt - 1).toNat) (v := v + 1) hP2)))
            have hR3 : RI (sa ξ 10 ((ξ.1 11).toInt - 1).toNat (v + 1)) := ri_at (by rw [i_p1 hv0 (Int.le_trans w3 w4)]; omega) hR2
            have hR4 := ri_si (k := 15) (v := (si (sa ξ 10 ((ξ.1 11).toInt - 1).toNat (v + 1)) 18 1).1 15 + 1) (Or.inl rfl) (ri_si (k := 18) (v := 1) (Or.inr (Or.inr (Or.inr (Or.inl rfl)))) hR3)
            have e := end_good (y0 := n) (k := k2 + 1) (f := fm2) hP3 hR4 (by simp only [si, sa, upd]; exact h16x) (rn_over (by simp [si, upd]))
            have hz : (xi (Xnest_leaveAll (Xnest_pass s2)) 1 ((Xnest_leaveAll (Xnest_pass s2)).1 1 + 1)).1 2 = 0 := by simp [xi, upd, Xnest_leaveAll]
            rw [XL_done (by rw [hz]; decide)] at hx
            rw [hm, hx] at e
            exact ⟨e.1, RIs_next hR2 hrn e.2⟩
          · obtain ⟨rc, hrc⟩ : ∃ rc, F_command ξ v = rc := ⟨_, rfl⟩
            have hRc := RI_cmd hP2.2.2.1 hw2 hr2 h16x hx2 xat hsz hR2 hrc
            rw [hrc] at hrn
            cases hdc : Xdesk_doCommand s2 with
            | inl e =>
              have D := cmd_rel hP2.2.2.1 hw2 hr2 h16x hx2 xat hsz hq hdc hrc
              obtain ⟨D0, D1, D2, D3, D4, D5, D6⟩ := D
              rw [if_pos D0] at hrn
              rw [L91_some hrn] at hm
              rw [XLs_bad hs2 kx9 hs1 hl9 hlt2 hdc] at hx
              obtain ⟨fm2, hfm2⟩ : ∃ x, fm = x + 1 := ⟨fm - 1, by have := lf.2; omega⟩
              rw [hfm2] at hm ⊢
              have hPe : PS e.2 rc.2 := ⟨D6, rok_rs D2 hr2, D1, prg_keep hw2 D2 D4.1 D4.2.1 hP2.2.2.2.1, by rw [D3, D4.2.2]; exact hcost⟩
              have e9 := end_bad (y0 := n) (k := k2 + 1) (f := fm2) (E := e.1) hPe hRc D5
              rw [hm, show (Sum.inl (e.1, e.2) : (String × XS) ⊕ (Int32 × XS)) = rx from hx] at e9
              exact ⟨e9.1, RIs_next hR2 hrn e9.2⟩
            | inr u =>
              have D := cmd_rel hP2.2.2.1 hw2 hr2 h16x hx2 xat hsz hq hdc hrc
              obtain ⟨D0, D1, D2, D3, D4, D5, D6, D7, D8⟩ := D
              rw [if_neg (by rw [D0]; decide)] at hrn
              rw [L91_some hrn] at hm
              rw [XLs_cmd hs2 kx9 hs1 hl9 hlt2 hdc] at hx
              have hwu := doCommand_wf hw2 hdc
              have hPu : PS u rc.2 := ⟨hwu, rok_rs D2 hr2, D1, prg_keep hw2 D2 D5.1 D5.2.1 hP2.2.2.2.1, by rw [D3, D5.2.2]; exact hcost⟩
              have e15 : (si rc.2 15 (rc.2.1 15 + 1)).1 15 = τ.1 15 + 1 := by simp only [si, upd, ↓reduceIte]; rw [D5.2.2, hcx]
              have hne : (τ.1 15).toInt ≠ n.toInt := fun e => hfu (Int32.toInt_inj.mp (by rw [hcx]; exact e))
              have e15i : (τ.1 15 + 1).toInt = (τ.1 15).toInt + 1 := i_addE rfl z1 (by omega) (by omega)
              have hW3 : Wt (si rc.2 15 (rc.2.1 15 + 1)) = Wt rc.2 := Wt_arr (by simp [si, upd]) rfl rfl
              have r := ih (P - d - 1) (by omega) fm fx (k2 + 1) (k' + 1) _ _ rx rm hx hm (PS_tick hPu) (NR_tick D4) (ri_si (Or.inl rfl) hRc) (by simp only [si, upd]; exact D7) (by simp only [si, upd]; exact D6.trans h18x) (by rw [e15, e15i]; omega) (by rw [e15, e15i]; omega) (by rw [e15, e15i, hW3]; exact lp_1 hW (by rw [← hWt]; exact D8) rfl hd) lf.1 lg.1 lk.1 lk.2 lx.1 lx.2
              exact ⟨r.1, RIs_next hR2 hrn r.2⟩
      · have hlk : Xnest_look s2 = 0 := (look_eq hr2 hx2).2 hsz
        rw [if_neg (by rw [Int32.lt_iff_toInt_lt]; exact hsz)] at hrn
        rw [L91_some hrn] at hm
        rw [XLs_leave hs2 kx9 hs1 hlk] at hx
        obtain ⟨p1, p2⟩ := leave_rel hP2 hx2
        have hWl := Wt_leave h1x c3x
        rw [xat] at hWl
        have eL : (ξ.1 11 - 1).toInt = (ξ.1 11).toInt - 1 := i_subE rfl z1 (by omega) (by omega)
        have e15 : (si ξ 11 (ξ.1 11 - 1)).1 15 = τ.1 15 := by simp only [si, upd]; exact hcx
        have r := ih (P - d - 1) (by omega) fm fx (k2 + 1) (k' + 1) _ _ rx rm hx hm p1 p2 (ri_lev (by rw [eL]; omega) (by rw [eL]; omega) hR2) (by simp only [si, upd]; exact h16x) (by simp only [si, upd]; exact h18x) (by rw [e15]; exact hc0) (by rw [e15]; exact hcn) (by rw [e15]; exact lp_2 hW (by rw [← hWt]; omega) hd) lf.1 lg.1 lk.1 lk.2 lx.1 lx.2
        exact ⟨r.1, RIs_next hR2 hrn r.2⟩
