theorem ge0 {a : Int32} {x : Int} (h : a.toInt = x) (h0 : 0 ≤ x) : 0 ≤ a.toInt := by rw [h]; exact h0
theorem ltn {a : Int32} {x : Int} {n : Int} (h : a.toInt = x) (h0 : x < n) : a.toInt < n := by rw [h]; exact h0
theorem topOf_v {σ : MS} {r : Int32} (h0 : 0 ≤ r.toInt) (h1 : r.toInt < 4) (h2 : 0 ≤ (σ.2.2.1 7 r.toNatClampNeg).toInt) (h3 : (σ.2.2.1 7 r.toNatClampNeg).toInt ≤ 10) : (F_topOf σ r).toInt = 40 + 10 * r.toInt + (σ.2.2.1 7 r.toNatClampNeg).toInt - 1 := by
  unfold F_topOf
  exact i_subE (i_addE (i_addE (show (40 : Int32).toInt = 40 from rfl) (i_mulE (show (10 : Int32).toInt = 10 from rfl) rfl (by omega) (by omega)) (by omega) (by omega)) rfl (by omega) (by omega)) (show (1 : Int32).toInt = 1 from rfl) (by omega) (by omega)
theorem copy_keepL {f0 t0 : Int32} : ∀ (fu : Nat) (k : Int32) (τ : MS), (F_copy_L26 f0 t0 fu k τ).2.2.1 3 = τ.2.2.1 3 ∧ (F_copy_L26 f0 t0 fu k τ).2.2.2 = τ.2.2.2 := by
  intro fu
  induction fu with
  | zero => intro k τ; exact ⟨rfl, rfl⟩
  | succ fu ih =>
    intro k τ
    simp only [F_copy_L26]
    split
    · exact ⟨rfl, rfl⟩
    · split
      · exact ⟨rfl, rfl⟩
      · obtain ⟨h1, h2⟩ := ih (k + 1) (sa τ 4 ((160 * t0) + k).toNatClampNeg (τ.2.2.1 4 ((160 * f0) + k).toNatClampNeg))
        exact ⟨h1.trans rfl, h2.trans rfl⟩
def tx (a3 : Nat → Int32) (b2 : Nat → Int64) : Prop := ∀ j, j < 82 → a3 j < 0 → 0 ≤ (b2 j).toInt ∧ (b2 j).toInt ≤ 160
theorem copy_tx {σ : MS} {f t : Int32} {b2 : Nat → Int64} {a3 a4 : Nat → Int32} (h : tx (σ.2.2.1 3) (σ.2.2.2 2)) (hw : F_copy σ f t = scp σ b2 a3 a4) (h0 : 0 ≤ f.toInt) (h1 : f.toInt < 82) : tx a3 b2 := by
  have hf : f.toNatClampNeg < 82 := cl_lt h0 h1
  have e3 : a3 = (F_copy σ f t).2.2.1 3 := by rw [hw]; rfl
  have e2 : b2 = (F_copy σ f t).2.2.2 2 := by rw [hw]; rfl
  obtain ⟨k1, k2⟩ := copy_keepL (f0 := f) (t0 := t) 162 0 (sa (sb σ 2 t.toNatClampNeg (σ.2.2.2 2 f.toNatClampNeg)) 3 t.toNatClampNeg (σ.2.2.1 3 f.toNatClampNeg))
  have e3' : a3 = upd (σ.2.2.1 3) t.toNatClampNeg (σ.2.2.1 3 f.toNatClampNeg) := by rw [e3]; exact k1
  have e2' : b2 = vp_updL (σ.2.2.2 2) t.toNatClampNeg (σ.2.2.2 2 f.toNatClampNeg) := by rw [e2]; exact congrFun k2 2
  intro j hj
  rw [e3', e2']
  by_cases e : j = t.toNatClampNeg
  · simp only [upd, vp_updL, e, ↓reduceIte]; exact h _ hf
  · simp only [upd, vp_updL, e, ↓reduceIte]; exact h j hj
def F_calculates (σ : MS) (c0 : Int32) : Int32 × MS := if c0 = 43 then (let q_24 := F_sum σ 0; if q_24.1 = 0 then ((0, (si (sm (si σ 16 (q_24.2.1 16)) q_24.2.2.1) 20 (q_24.2.1 20)))) else (1, (si (sa (sb (si (si (sm (si σ 16 (q_24.2.1 16)) q_24.2.2.1) 20 (q_24.2.1 20)) 5 ((σ.1 5) - 2)) 2 ((σ.1 5) - 2).toNatClampNeg q_24.2.2.1) 3 ((σ.1 5) - 2).toNatClampNeg (q_24.2.1 20)) 5 (((σ.1 5) - 2) + 1)))) else if c0 = 45 then (let q_24 := F_sum σ 1; if q_24.1 = 0 then ((0, (si (sm (si σ 16 (q_24.2.1 16)) q_24.2.2.1) 20 (q_24.2.1 20)))) else (1, (si (sa (sb (si (si (sm (si σ 16 (q_24.2.1 16)) q_24.2.2.1) 20 (q_24.2.1 20)) 5 ((σ.1 5) - 2)) 2 ((σ.1 5) - 2).toNatClampNeg q_24.2.2.1) 3 ((σ.1 5) - 2).toNatClampNeg (q_24.2.1 20)) 5 (((σ.1 5) - 2) + 1)))) else if c0 = 42 then (let q_37 := F_times σ; if q_37.1 = 0 then ((0, (si (sm (si σ 16 (q_37.2.1 16)) q_37.2.2.1) 20 (q_37.2.1 20)))) else (1, (si (sa (sb (si (si (sm (si σ 16 (q_37.2.1 16)) q_37.2.2.1) 20 (q_37.2.1 20)) 5 ((σ.1 5) - 2)) 2 ((σ.1 5) - 2).toNatClampNeg q_37.2.2.1) 3 ((σ.1 5) - 2).toNatClampNeg (q_37.2.1 20)) 5 (((σ.1 5) - 2) + 1)))) else if c0 = 47 then (let q_50 := F_quotient σ; if q_50.1 = 0 then ((0, (si (sm (si σ 16 (q_50.2.1 16)) q_50.2.2.1) 20 (q_50.2.1 20)))) else (1, (si (sa (sb (si (si (sm (si σ 16 (q_50.2.1 16)) q_50.2.2.1) 20 (q_50.2.1 20)) 5 ((σ.1 5) - 2)) 2 ((σ.1 5) - 2).toNatClampNeg q_50.2.2.1) 3 ((σ.1 5) - 2).toNatClampNeg (q_50.2.1 20)) 5 (((σ.1 5) - 2) + 1)))) else if c0 = 37 then (let q_63 := F_rest σ; if q_63.1 = 0 then ((0, (si (sm (si σ 16 (q_63.2.1 16)) q_63.2.2.1) 20 (q_63.2.1 20)))) else (1, (si (sa (sb (si (si (sm (si σ 16 (q_63.2.1 16)) q_63.2.2.1) 20 (q_63.2.1 20)) 5 ((σ.1 5) - 2)) 2 ((σ.1 5) - 2).toNatClampNeg q_63.2.2.1) 3 ((σ.1 5) - 2).toNatClampNeg (q_63.2.1 20)) 5 (((σ.1 5) - 2) + 1)))) else if c0 = 118 then (let q_76 := F_root σ; if q_76.1 = 0 then ((0, (si (sm (si σ 16 (q_76.2.1 16)) q_76.2.2.1) 20 (q_76.2.1 20)))) else (1, (si (sa (sb (si (si (sm (si σ 16 (q_76.2.1 16)) q_76.2.2.1) 20 (q_76.2.1 20)) 5 ((σ.1 5) - 1)) 2 ((σ.1 5) - 1).toNatClampNeg q_76.2.2.1) 3 ((σ.1 5) - 1).toNatClampNeg (q_76.2.1 20)) 5 (((σ.1 5) - 1) + 1)))) else let q_84 := F_numbers σ 1; if q_84.1 = 0 then ((0, q_84.2)) else if c0 = 126 then ((1, (si (sa (sb (si σ 5 ((σ.1 5) - 1)) 2 ((σ.1 5) - 1).toNatClampNeg (-(σ.2.2.2 2 ((σ.1 5) - 1).toNatClampNeg))) 3 ((σ.1 5) - 1).toNatClampNeg (σ.2.2.1 3 ((σ.1 5) - 1).toNatClampNeg)) 5 (((σ.1 5) - 1) + 1)))) else if c0 = 88 then ((1, (si (sa (sb (si σ 5 ((σ.1 5) - 1)) 2 ((σ.1 5) - 1).toNatClampNeg ((σ.2.2.1 3 ((σ.1 5) - 1).toNatClampNeg).toInt64)) 3 ((σ.1 5) - 1).toNatClampNeg 0) 5 (((σ.1 5) - 1) + 1)))) else if c0 = 107 then (let q_202 := F_raised σ (f_cut (σ.2.2.2 2 ((σ.1 5) - 1).toNatClampNeg) (σ.2.2.1 3 ((σ.1 5) - 1).toNatClampNeg)) (σ.2.2.1 3 ((σ.1 5) - 1).toNatClampNeg); if q_202.1 = (σ.2.2.2 2 ((σ.1 5) - 1).toNatClampNeg) then (if (f_within (f_cut (σ.2.2.2 2 ((σ.1 5) - 1).toNatClampNeg) (σ.2.2.1 3 ((σ.1 5) - 1).toNatClampNeg)) 0 9) = 0 then ((0, (si (si σ 16 (q_202.2.1 16)) 16 4))) else (1, (si (si (si σ 16 (q_202.2.1 16)) 6 ((f_cut (σ.2.2.2 2 ((σ.1 5) - 1).toNatClampNeg) (σ.2.2.1 3 ((σ.1 5) - 1).toNatClampNeg)).toInt32)) 5 ((σ.1 5) - 1)))) else (0, (si (si σ 16 (q_202.2.1 16)) 16 4))) else (1, (si (sa (sb (si σ 5 ((σ.1 5) - 2)) 2 ((σ.1 5) - 2).toNatClampNeg σ.2.1) 3 ((σ.1 5) - 2).toNatClampNeg (σ.1 20)) 5 (((σ.1 5) - 2) + 1)))
set_option maxHeartbeats 4000000 in
set_option maxRecDepth 100000 in
theorem c_M_calculates (l : Launch) (dC : Nat → ClassId) (dI : Nat → Nat → Nat) (cI cJ : ClassId) (h : Nat) (ad : Nat → Nat) (sz : Nat) (σ : MS) (c0 : Int32) (hd : (σ.1 5).toInt ≤ 40) : Met l yX5_calculates wsX5_calculates ({ frames := 5, cells := 0, slots := 0, locals := 115 } : Room) (va_Pc [.ref h, .int c0] (mPre dC dI cI cJ h ad sz σ)) (va_Qi (fun r u => F_calculates σ c0 = (r, u)) (mAt dC dI cI cJ h ad (mA h ad cI cJ σ sz)) (mA h ad cI cJ σ sz)) 0 0 (mA h ad cI cJ σ sz) := by
  refine m_ofW (cc := cX5_calculates) (maxL := 8) (ret := (some .boolean)) (by decide) rfl (by decide +kernel) rfl (Nat.le_of_ble_eq_true rfl) ?_
  intro p e s m below meth c X G hA hr hlocks hml ls hl
  have hl : lv_has ls 8 [(0, .ref h), (1, .int c0)] := hl
  have hx := X.1
  have hb := X.2.1
  have hts := X.2.2.1
  have hown := X.2.2.2.2.1
  have z0 : (0 : Int32).toInt = 0 := rfl
  have z1 : (1 : Int32).toInt = 1 := rfl
  have z2 : (2 : Int32).toInt = 2 := rfl
  refine lv_iload_n hx hb dX5_calculates_0 rfl (lv_at hl 1 rfl) ?_
  refine lv_bipush (v := 43) hx hb dX5_calculates_1 (by decide) ?_
  refine lv_icmp_eq (tgt := 12) hx hb dX5_calculates_3 (by decide) (fun c_3 => ?_) (fun c_3 => ?_)
  · have c_3 : c0 = 43 := c_3
    refine lv_aload_n hx hb dX5_calculates_12 rfl (lv_at hl 0 rfl) ?_
    refine lv_iload_n hx hb dX5_calculates_13 rfl (lv_at hl 1 rfl) ?_
    refine lv_bipush (v := 45) hx hb dX5_calculates_14 (by decide) ?_
    refine lv_icmp_ne (tgt := 23) hx hb dX5_calculates_16 (by decide) (fun c9 => ?_) (fun c9 => absurd c9 (show ¬ (c0 = 45) from by rw [c_3] <;> decide))
    refine lv_iconst (v := 0) hx hb dX5_calculates_23 (by decide) ?_
    refine m_calli (As := [.int 0]) (rest := []) X hml G hA (c_M_sum l dC dI cI cJ h ad _ σ 0 hd) (cwV 1 hts gX5_calculates_X5_sum rfl rfl rfl (by decide +kernel) ⟨Nat.le_of_ble_eq_true rfl, Nat.le_of_ble_eq_true rfl⟩) rfl hl.1 rfl (Nat.le_of_ble_eq_true rfl) dX5_calculates_24 ⟨Nat.zero_le _, Nat.zero_le _⟩ (fun r_24 u_24 H locs hw_24 G => ?_)
    obtain ⟨f_24, m_24, n_24, rfl⟩ := sum_st hw_24
    refine lv_goto (tgt := 87) hx hb dX5_calculates_27 (by decide) ?_
    refine lv_istore_n (lv' := [(2, .int r_24), (0, .ref h), (1, .int c0)]) hx hb dX5_calculates_87 rfl hl (by decide) rfl (fun ls hl => ?_)
    refine lv_iload_n hx hb dX5_calculates_88 rfl (lv_at hl 0 rfl) ?_
    refine lv_if_ne (tgt := 94) hx hb dX5_calculates_89 (by decide) (fun c_89 => ?_) (fun c_89 => ?_)
    · have c_89 : ¬ (r_24 = 0) := c_89
      have hn := sum_ok hw_24 c_89
      refine lv_iload_n hx hb dX5_calculates_94 rfl (lv_at hl 2 rfl) ?_
      refine lv_bipush (v := 126) hx hb dX5_calculates_95 (by decide) ?_
      refine lv_icmp_ne (tgt := 131) hx hb dX5_calculates_97 (by decide) (fun c9 => ?_) (fun c9 => absurd c9 (show ¬ (c0 = 126) from by rw [c_3] <;> decide))
      refine lv_iload_n hx hb dX5_calculates_131 rfl (lv_at hl 2 rfl) ?_
      refine lv_bipush (v := 88) hx hb dX5_calculates_132 (by decide) ?_
      refine lv_icmp_ne (tgt := 158) hx hb dX5_calculates_134 (by decide) (fun c9 => ?_) (fun c9 => absurd c9 (show ¬ (c0 = 88) from by rw [c_3] <;> decide))
      refine lv_iload_n hx hb dX5_calculates_158 rfl (lv_at hl 2 rfl) ?_
      refine lv_bipush (v := 107) hx hb dX5_calculates_159 (by decide) ?_
      refine lv_icmp_ne (tgt := 248) hx hb dX5_calculates_161 (by decide) (fun c9 => ?_) (fun c9 => absurd c9 (show ¬ (c0 = 107) from by rw [c_3] <;> decide))
      refine lv_aload_n hx hb dX5_calculates_248 rfl (lv_at hl 1 rfl) ?_
      refine lv_iload_n hx hb dX5_calculates_249 rfl (lv_at hl 2 rfl) ?_
      refine lv_bipush (v := 118) hx hb dX5_calculates_250 (by decide) ?_
      refine lv_icmp_ne (tgt := 259) hx hb dX5_calculates_252 (by decide) (fun c9 => ?_) (fun c9 => absurd c9 (show ¬ (c0 = 118) from by rw [c_3] <;> decide))
      refine lv_iconst (v := 2) hx hb dX5_calculates_259 (by decide) ?_
      refine lv_aload_n hx hb dX5_calculates_260 rfl (lv_at hl 1 rfl) ?_
      refine m_get_19 X G (by decide +kernel) dX5_calculates_261 ?_
      refine lv_aload_n hx hb dX5_calculates_264 rfl (lv_at hl 1 rfl) ?_
      refine m_get_20 X G (by decide +kernel) dX5_calculates_265 ?_
      refine m_callv (As := [.int 2, .long m_24, .int n_24]) (rest := []) X hml G hA (c_M_put l dC dI cI cJ h ad _ (si (sm (si σ 16 f_24) m_24) 20 n_24) 2 m_24 n_24 (show 0 ≤ (σ.1 5).toInt - (2 : Int32).toInt from by omega) (show (σ.1 5).toInt - (2 : Int32).toInt < 82 from by omega)) (cwV 3 hts gX5_calculates_X5_put rfl rfl rfl (by decide +kernel) ⟨Nat.le_of_ble_eq_true rfl, Nat.le_of_ble_eq_true rfl⟩) rfl hl.1 rfl (Nat.le_of_ble_eq_true rfl) dX5_calculates_268 ⟨Nat.zero_le _, Nat.zero_le _⟩ (fun u_268 H locs hw_268 G => ?_)
      subst hw_268
      refine lv_iconst (v := 1) hx hb dX5_calculates_271 (by decide) ?_
      exact m_zret X G hr hlocks rfl (by simp only [F_calculates, eq_true c_3, hw_24, eq_false c_89, ↓reduceIte, si_self, sm_self, si_snd, sm_fst, si20_16, not_false_eq_true, not_true_eq_false, eq_self] <;> rfl) dX5_calculates_272
    · have c_89 : r_24 = 0 := c_89
      refine lv_iconst (v := 0) hx hb dX5_calculates_92 (by decide) ?_
      exact m_zret X G hr hlocks rfl (by simp only [F_calculates, eq_true c_3, hw_24, eq_true c_89, ↓reduceIte, si_self, sm_self, si_snd, sm_fst, si20_16, not_false_eq_true, not_true_eq_false, eq_self] <;> rfl) dX5_calculates_93
  · have c_3 : ¬ (c0 = 43) := c_3
    refine lv_iload_n hx hb dX5_calculates_6 rfl (lv_at hl 1 rfl) ?_
    refine lv_bipush (v := 45) hx hb dX5_calculates_7 (by decide) ?_
    refine lv_icmp_ne (tgt := 30) hx hb dX5_calculates_9 (by decide) (fun c_9 => ?_) (fun c_9 => ?_)
    · have c_9 : ¬ (c0 = 45) := c_9
      refine lv_iload_n hx hb dX5_calculates_30 rfl (lv_at hl 1 rfl) ?_
      refine lv_bipush (v := 42) hx hb dX5_calculates_31 (by decide) ?_
      refine lv_icmp_ne (tgt := 43) hx hb dX5_calculates_33 (by decide) (fun c_33 => ?_) (fun c_33 => ?_)
      · have c_33 : ¬ (c0 = 42) := c_33
        refine lv_iload_n hx hb dX5_calculates_43 rfl (lv_at hl 1 rfl) ?_
        refine lv_bipush (v := 47) hx hb dX5_calculates_44 (by decide) ?_
        refine lv_icmp_ne (tgt := 56) hx hb dX5_calculates_46 (by decide) (fun c_46 => ?_) (fun c_46 => ?_)
        · have c_46 : ¬ (c0 = 47) := c_46
          refine lv_iload_n hx hb dX5_calculates_56 rfl (lv_at hl 1 rfl) ?_
          refine lv_bipush (v := 37) hx hb dX5_calculates_57 (by decide) ?_
          refine lv_icmp_ne (tgt := 69) hx hb dX5_calculates_59 (by decide) (fun c_59 => ?_) (fun c_59 => ?_)
          · have c_59 : ¬ (c0 = 37) := c_59
            refine lv_iload_n hx hb dX5_calculates_69 rfl (lv_at hl 1 rfl) ?_
            refine lv_bipush (v := 118) hx hb dX5_calculates_70 (by decide) ?_
            refine lv_icmp_ne (tgt := 82) hx hb dX5_calculates_72 (by decide) (fun c_72 => ?_) (fun c_72 => ?_)
            · have c_72 : ¬ (c0 = 118) := c_72
              refine lv_aload_n hx hb dX5_calculates_82 rfl (lv_at hl 0 rfl) ?_
              refine lv_iconst (v := 1) hx hb dX5_calculates_83 (by decide) ?_
              refine m_calli (As := [.int 1]) (rest := []) X hml G hA (c_M_numbers l dC dI cI cJ h ad _ σ 1 (by decide) hd) (cwV 1 hts gX5_calculates_X5_numbers rfl rfl rfl (by decide +kernel) ⟨Nat.le_of_ble_eq_true rfl, Nat.le_of_ble_eq_true rfl⟩) rfl hl.1 rfl (Nat.le_of_ble_eq_true rfl) dX5_calculates_84 ⟨Nat.zero_le _, Nat.zero_le _⟩ (fun r_84 u_84 H locs hw_84 G => ?_)
              refine lv_istore_n (lv' := [(2, .int r_84), (0, .ref h), (1, .int c0)]) hx hb dX5_calculates_87 rfl hl (by decide) rfl (fun ls hl => ?_)
              refine lv_iload_n hx hb dX5_calculates_88 rfl (lv_at hl 0 rfl) ?_
              refine lv_if_ne (tgt := 94) hx hb dX5_calculates_89 (by decide) (fun c_89 => ?_) (fun c_89 => ?_)
              · have c_89 : ¬ (r_84 = 0) := c_89
                obtain ⟨rfl, hn⟩ := numbers_ok hw_84 c_89
                have hn : 1 ≤ (σ.1 5).toInt := hn
                refine lv_iload_n hx hb dX5_calculates_94 rfl (lv_at hl 2 rfl) ?_
                refine lv_bipush (v := 126) hx hb dX5_calculates_95 (by decide) ?_
                refine lv_icmp_ne (tgt := 131) hx hb dX5_calculates_97 (by decide) (fun c_97 => ?_) (fun c_97 => ?_)
                · have c_97 : ¬ (c0 = 126) := c_97
                  refine lv_iload_n hx hb dX5_calculates_131 rfl (lv_at hl 2 rfl) ?_
                  refine lv_bipush (v := 88) hx hb dX5_calculates_132 (by decide) ?_
                  refine lv_icmp_ne (tgt := 158) hx hb dX5_calculates_134 (by decide) (fun c_134 => ?_) (fun c_134 => ?_)
                  · have c_134 : ¬ (c0 = 88) := c_134
                    refine lv_iload_n hx hb dX5_calculates_158 rfl (lv_at hl 2 rfl) ?_
                    refine lv_bipush (v := 107) hx hb dX5_calculates_159 (by decide) ?_
                    refine lv_icmp_ne (tgt := 248) hx hb dX5_calculates_161 (by decide) (fun c_161 => ?_) (fun c_161 => ?_)
                    · have c_161 : ¬ (c0 = 107) := c_161
                      refine lv_aload_n hx hb dX5_calculates_248 rfl (lv_at hl 1 rfl) ?_
                      refine lv_iload_n hx hb dX5_calculates_249 rfl (lv_at hl 2 rfl) ?_
                      refine lv_bipush (v := 118) hx hb dX5_calculates_250 (by decide) ?_
                      refine lv_icmp_ne (tgt := 259) hx hb dX5_calculates_252 (by decide) (fun c9 => ?_) (fun c9 => absurd c9 c_72)
                      refine lv_iconst (v := 2) hx hb dX5_calculates_259 (by decide) ?_
                      refine lv_aload_n hx hb dX5_calculates_260 rfl (lv_at hl 1 rfl) ?_
                      refine m_get_19 X G (by decide +kernel) dX5_calculates_261 ?_
                      refine lv_aload_n hx hb dX5_calculates_264 rfl (lv_at hl 1 rfl) ?_
                      refine m_get_20 X G (by decide +kernel) dX5_calculates_265 ?_
                      refine m_callv (As := [.int 2, .long σ.2.1, .int (σ.1 20)]) (rest := []) X hml G hA (c_M_put l dC dI cI cJ h ad _ σ 2 σ.2.1 (σ.1 20) (show 0 ≤ (σ.1 5).toInt - (2 : Int32).toInt from by omega) (show (σ.1 5).toInt - (2 : Int32).toInt < 82 from by omega)) (cwV 3 hts gX5_calculates_X5_put rfl rfl rfl (by decide +kernel) ⟨Nat.le_of_ble_eq_true rfl, Nat.le_of_ble_eq_true rfl⟩) rfl hl.1 rfl (Nat.le_of_ble_eq_true rfl) dX5_calculates_268 ⟨Nat.zero_le _, Nat.zero_le _⟩ (fun u_268 H locs hw_268 G => ?_)
                      subst hw_268
                      refine lv_iconst (v := 1) hx hb dX5_calculates_271 (by decide) ?_
                      exact m_zret X G hr hlocks rfl (by simp only [F_calculates, eq_false c_3, eq_false c_9, eq_false c_33, eq_false c_46, eq_false c_59, eq_false c_72, hw_84, eq_false c_89, eq_false c_97, eq_false c_134, eq_false c_161, ↓reduceIte, si_self, sm_self, si_snd, sm_fst, si20_16, not_false_eq_true, not_true_eq_false, eq_self] <;> rfl) dX5_calculates_272
                    · have c_161 : c0 = 107 := c_161
                      refine lv_aload_n hx hb dX5_calculates_164 rfl (lv_at hl 1 rfl) ?_
                      refine m_get_2 X G (by decide +kernel) dX5_calculates_165 ?_
                      refine lv_aload_n hx hb dX5_calculates_168 rfl (lv_at hl 1 rfl) ?_
                      refine m_get_5 X G (by decide +kernel) dX5_calculates_169 ?_
                      refine lv_iconst (v := 1) hx hb dX5_calculates_172 (by decide) ?_
                      refine lv_isub hx hb dX5_calculates_173 ?_
                      refine m_ld_2 X G (vin (i_subE (rfl : (σ.1 5).toInt = _) (show (1 : Int32).toInt = 1 from rfl) (by omega) (by omega)) (by omega) (by omega)) dX5_calculates_174 ?_
                      refine lv_lstore_n (lv' := [(3, .long (σ.2.2.2 2 ((σ.1 5) - 1).toNatClampNeg)), (2, .int r_84), (0, .ref h), (1, .int c0)]) hx hb dX5_calculates_175 rfl hl (by decide) rfl (fun ls hl => ?_)
                      refine lv_aload_n hx hb dX5_calculates_176 rfl (lv_at hl 2 rfl) ?_
                      refine m_get_3 X G (by decide +kernel) dX5_calculates_177 ?_
                      refine lv_aload_n hx hb dX5_calculates_180 rfl (lv_at hl 2 rfl) ?_
                      refine m_get_5 X G (by decide +kernel) dX5_calculates_181 ?_
                      refine lv_iconst (v := 1) hx hb dX5_calculates_184 (by decide) ?_
                      refine lv_isub hx hb dX5_calculates_185 ?_
                      refine m_ld_3 X G (vin (i_subE (rfl : (σ.1 5).toInt = _) (show (1 : Int32).toInt = 1 from rfl) (by omega) (by omega)) (by omega) (by omega)) dX5_calculates_186 ?_
                      refine lv_istore (lv' := [(5, .int (σ.2.2.1 3 ((σ.1 5) - 1).toNatClampNeg)), (3, .long (σ.2.2.2 2 ((σ.1 5) - 1).toNatClampNeg)), (2, .int r_84), (0, .ref h), (1, .int c0)]) hx hb dX5_calculates_187 hl (by decide) rfl (fun ls hl => ?_)
                      refine lv_lload_n hx hb dX5_calculates_189 rfl (lv_at hl 1 rfl) ?_
                      refine lv_iload hx hb dX5_calculates_190 (lv_at hl 0 rfl) ?_
                      refine W.callRL (W.runS (As := [.long (σ.2.2.2 2 ((σ.1 5) - 1).toNatClampNeg), .int (σ.2.2.1 3 ((σ.1 5) - 1).toNatClampNeg)]) (rest := []) ⟨hx, hb, hml, hown, hts⟩ (c_M_cut l (σ.2.2.2 2 ((σ.1 5) - 1).toNatClampNeg) (σ.2.2.1 3 ((σ.1 5) - 1).toNatClampNeg)) (va_cwS 2 hts gX5_calculates_X5_cut rfl rfl rfl (by decide +kernel) ⟨Nat.le_of_ble_eq_true rfl, Nat.le_of_ble_eq_true rfl⟩) ⟨fun a U g mk q => q, fun U _ _ => ⟨rfl, trivial⟩⟩ rfl rfl hl.1 rfl (lv_room (Nat.le_of_ble_eq_true rfl)) dX5_calculates_192 ⟨Nat.zero_le _, Nat.zero_le _⟩) ?_
                      refine W.eq (g2 := F0 m 195 ls [.long (f_cut (σ.2.2.2 2 ((σ.1 5) - 1).toNatClampNeg) (σ.2.2.1 3 ((σ.1 5) - 1).toNatClampNeg))]) rfl ?_
                      refine lv_lstore (lv' := [(6, .long (f_cut (σ.2.2.2 2 ((σ.1 5) - 1).toNatClampNeg) (σ.2.2.1 3 ((σ.1 5) - 1).toNatClampNeg))), (5, .int (σ.2.2.1 3 ((σ.1 5) - 1).toNatClampNeg)), (3, .long (σ.2.2.2 2 ((σ.1 5) - 1).toNatClampNeg)), (2, .int r_84), (0, .ref h), (1, .int c0)]) hx hb dX5_calculates_195 hl (by decide) rfl (fun ls hl => ?_)
                      refine lv_aload_n hx hb dX5_calculates_197 rfl (lv_at hl 4 rfl) ?_
                      refine lv_lload hx hb dX5_calculates_198 (lv_at hl 0 rfl) ?_
                      refine lv_iload hx hb dX5_calculates_200 (lv_at hl 1 rfl) ?_
                      refine m_calll (As := [.long (f_cut (σ.2.2.2 2 ((σ.1 5) - 1).toNatClampNeg) (σ.2.2.1 3 ((σ.1 5) - 1).toNatClampNeg)), .int (σ.2.2.1 3 ((σ.1 5) - 1).toNatClampNeg)]) (rest := []) X hml G hA (c_M_raised l dC dI cI cJ h ad _ σ (f_cut (σ.2.2.2 2 ((σ.1 5) - 1).toNatClampNeg) (σ.2.2.1 3 ((σ.1 5) - 1).toNatClampNeg)) (σ.2.2.1 3 ((σ.1 5) - 1).toNatClampNeg)) (cwV 2 hts gX5_calculates_X5_raised rfl rfl rfl (by decide +kernel) ⟨Nat.le_of_ble_eq_true rfl, Nat.le_of_ble_eq_true rfl⟩) rfl hl.1 rfl (Nat.le_of_ble_eq_true rfl) dX5_calculates_202 ⟨Nat.zero_le _, Nat.zero_le _⟩ (fun r_202 u_202 H locs hw_202 G => ?_)
                      obtain ⟨f_202, rfl⟩ := raised_st hw_202
                      refine lv_lload_n hx hb dX5_calculates_205 rfl (lv_at hl 2 rfl) ?_
                      refine W.lcmp hx hb dX5_calculates_206 ?_
                      refine lv_if_ne (tgt := 222) hx hb dX5_calculates_207 (by decide) (fun c_207 => ?_) (fun c_207 => ?_)
                      · have c_207 := (mt (l_cmp_eq _ _).mpr c_207)
                        have c_207 : ¬ (r_202 = (σ.2.2.2 2 ((σ.1 5) - 1).toNatClampNeg)) := c_207
                        refine lv_aload_n hx hb dX5_calculates_222 rfl (lv_at hl 4 rfl) ?_
                        refine lv_iconst (v := 4) hx hb dX5_calculates_223 (by decide) ?_
                        refine m_calli (As := [.int 4]) (rest := []) X hml G hA (c_M_fail l dC dI cI cJ h ad _ (si σ 16 f_202) 4) (cwV 1 hts gX5_calculates_X5_fail rfl rfl rfl (by decide +kernel) ⟨Nat.le_of_ble_eq_true rfl, Nat.le_of_ble_eq_true rfl⟩) rfl hl.1 rfl (Nat.le_of_ble_eq_true rfl) dX5_calculates_224 ⟨Nat.zero_le _, Nat.zero_le _⟩ (fun r_224 u_224 H locs hw_224 G => ?_)
                        obtain ⟨rfl, rfl⟩ := hw_224
                        exact m_zret X G hr hlocks rfl (by simp only [F_calculates, eq_false c_3, eq_false c_9, eq_false c_33, eq_false c_46, eq_false c_59, eq_false c_72, hw_84, eq_false c_89, eq_false c_97, eq_false c_134, eq_true c_161, hw_202, eq_false c_207, ↓reduceIte, si_self, sm_self, si_snd, sm_fst, si20_16, not_false_eq_true, not_true_eq_false, eq_self] <;> rfl) dX5_calculates_227
                      · have c_207 := ((l_cmp_eq _ _).mp c_207)
                        have c_207 : r_202 = (σ.2.2.2 2 ((σ.1 5) - 1).toNatClampNeg) := c_207
                        refine lv_lload hx hb dX5_calculates_210 (lv_at hl 0 rfl) ?_
                        refine lv_lconst (v := 0) hx hb dX5_calculates_212 (by decide) ?_
                        refine lv_ldc2 (v := 9) hx hb hown (hts (.constantLong RX5 151 (9)) (by decide +kernel)) dX5_calculates_213 ?_
                        refine W.callR (W.runS (As := [.long (f_cut (σ.2.2.2 2 ((σ.1 5) - 1).toNatClampNeg) (σ.2.2.1 3 ((σ.1 5) - 1).toNatClampNeg)), .long 0, .long 9]) (rest := []) ⟨hx, hb, hml, hown, hts⟩ (c_M_within l (f_cut (σ.2.2.2 2 ((σ.1 5) - 1).toNatClampNeg) (σ.2.2.1 3 ((σ.1 5) - 1).toNatClampNeg)) 0 9) (va_cwS 3 hts gX5_calculates_X5_within rfl rfl rfl (by decide +kernel) ⟨Nat.le_of_ble_eq_true rfl, Nat.le_of_ble_eq_true rfl⟩) ⟨fun a U g mk q => q, fun U _ _ => ⟨rfl, trivial⟩⟩ rfl rfl hl.1 rfl (lv_room (Nat.le_of_ble_eq_true rfl)) dX5_calculates_216 ⟨Nat.zero_le _, Nat.zero_le _⟩) ?_
                        refine W.eq (g2 := F0 m 219 ls [.int (f_within (f_cut (σ.2.2.2 2 ((σ.1 5) - 1).toNatClampNeg) (σ.2.2.1 3 ((σ.1 5) - 1).toNatClampNeg)) 0 9)]) rfl ?_
                        refine lv_if_ne (tgt := 228) hx hb dX5_calculates_219 (by decide) (fun c_219 => ?_) (fun c_219 => ?_)
                        · have c_219 : ¬ ((f_within (f_cut (σ.2.2.2 2 ((σ.1 5) - 1).toNatClampNeg) (σ.2.2.1 3 ((σ.1 5) - 1).toNatClampNeg)) 0 9) = 0) := c_219
                          refine lv_aload_n hx hb dX5_calculates_228 rfl (lv_at hl 4 rfl) ?_
                          refine lv_lload hx hb dX5_calculates_229 (lv_at hl 0 rfl) ?_
                          refine lv_l2i hx hb dX5_calculates_231 rfl ?_
                          refine m_put_6 X G (by decide +kernel) dX5_calculates_232 (fun H locs G => ?_)
                          refine lv_aload_n hx hb dX5_calculates_235 rfl (lv_at hl 4 rfl) ?_
                          refine lv_dup hx hb dX5_calculates_236 rfl ?_
                          refine m_get_5 X G (by decide +kernel) dX5_calculates_237 ?_
                          refine lv_iconst (v := 1) hx hb dX5_calculates_240 (by decide) ?_
                          refine lv_isub hx hb dX5_calculates_241 ?_
                          refine m_put_5 X G (by decide +kernel) dX5_calculates_242 (fun H locs G => ?_)
                          refine lv_goto (tgt := 271) hx hb dX5_calculates_245 (by decide) ?_
                          refine lv_iconst (v := 1) hx hb dX5_calculates_271 (by decide) ?_
                          exact m_zret X G hr hlocks rfl (by simp only [F_calculates, eq_false c_3, eq_false c_9, eq_false c_33, eq_false c_46, eq_false c_59, eq_false c_72, hw_84, eq_false c_89, eq_false c_97, eq_false c_134, eq_true c_161, hw_202, eq_true c_207, eq_false c_219, ↓reduceIte, si_self, sm_self, si_snd, sm_fst, si20_16, not_false_eq_true, not_true_eq_false, eq_self] <;> rfl) dX5_calculates_272
                        · have c_219 : (f_within (f_cut (σ.2.2.2 2 ((σ.1 5) - 1).toNatClampNeg) (σ.2.2.1 3 ((σ.1 5) - 1).toNatClampNeg)) 0 9) = 0 := c_219
                          refine lv_aload_n hx hb dX5_calculates_222 rfl (lv_at hl 4 rfl) ?_
                          refine lv_iconst (v := 4) hx hb dX5_calculates_223 (by decide) ?_
                          refine m_calli (As := [.int 4]) (rest := []) X hml G hA (c_M_fail l dC dI cI cJ h ad _ (si σ 16 f_202) 4) (cwV 1 hts gX5_calculates_X5_fail rfl rfl rfl (by decide +kernel) ⟨Nat.le_of_ble_eq_true rfl, Nat.le_of_ble_eq_true rfl⟩) rfl hl.1 rfl (Nat.le_of_ble_eq_true rfl) dX5_calculates_224 ⟨Nat.zero_le _, Nat.zero_le _⟩ (fun r_224 u_224 H locs hw_224 G => ?_)
                          obtain ⟨rfl, rfl⟩ := hw_224
                          exact m_zret X G hr hlocks rfl (by simp only [F_calculates, eq_false c_3, eq_false c_9, eq_false c_33, eq_false c_46, eq_false c_59, eq_false c_72, hw_84, eq_false c_89, eq_false c_97, eq_false c_134, eq_true c_161, hw_202, eq_true c_207, eq_true c_219, ↓reduceIte, si_self, sm_self, si_snd, sm_fst, si20_16, not_false_eq_true, not_true_eq_false, eq_self] <;> rfl) dX5_calculates_227
                  · have c_134 : c0 = 88 := c_134
                    refine lv_aload_n hx hb dX5_calculates_137 rfl (lv_at hl 1 rfl) ?_
                    refine lv_iconst (v := 1) hx hb dX5_calculates_138 (by decide) ?_
                    refine lv_aload_n hx hb dX5_calculates_139 rfl (lv_at hl 1 rfl) ?_
                    refine m_get_3 X G (by decide +kernel) dX5_calculates_140 ?_
                    refine lv_aload_n hx hb dX5_calculates_143 rfl (lv_at hl 1 rfl) ?_
                    refine m_get_5 X G (by decide +kernel) dX5_calculates_144 ?_
                    refine lv_iconst (v := 1) hx hb dX5_calculates_147 (by decide) ?_
                    refine lv_isub hx hb dX5_calculates_148 ?_
                    refine m_ld_3 X G (vin (i_subE (rfl : (σ.1 5).toInt = _) (show (1 : Int32).toInt = 1 from rfl) (by omega) (by omega)) (by omega) (by omega)) dX5_calculates_149 ?_
                    refine lv_i2l hx hb dX5_calculates_150 rfl ?_
                    refine lv_iconst (v := 0) hx hb dX5_calculates_151 (by decide) ?_
                    refine m_callv (As := [.int 1, .long ((σ.2.2.1 3 ((σ.1 5) - 1).toNatClampNeg).toInt64), .int 0]) (rest := []) X hml G hA (c_M_put l dC dI cI cJ h ad _ σ 1 ((σ.2.2.1 3 ((σ.1 5) - 1).toNatClampNeg).toInt64) 0 (show 0 ≤ (σ.1 5).toInt - (1 : Int32).toInt from by omega) (show (σ.1 5).toInt - (1 : Int32).toInt < 82 from by omega)) (cwV 3 hts gX5_calculates_X5_put rfl rfl rfl (by decide +kernel) ⟨Nat.le_of_ble_eq_true rfl, Nat.le_of_ble_eq_true rfl⟩) rfl hl.1 rfl (Nat.le_of_ble_eq_true rfl) dX5_calculates_152 ⟨Nat.zero_le _, Nat.zero_le _⟩ (fun u_152 H locs hw_152 G => ?_)
                    subst hw_152
                    refine lv_goto (tgt := 271) hx hb dX5_calculates_155 (by decide) ?_
                    refine lv_iconst (v := 1) hx hb dX5_calculates_271 (by decide) ?_
                    exact m_zret X G hr hlocks rfl (by simp only [F_calculates, eq_false c_3, eq_false c_9, eq_false c_33, eq_false c_46, eq_false c_59, eq_false c_72, hw_84, eq_false c_89, eq_false c_97, eq_true c_134, ↓reduceIte, si_self, sm_self, si_snd, sm_fst, si20_16, not_false_eq_true, not_true_eq_false, eq_self] <;> rfl) dX5_calculates_272
                · have c_97 : c0 = 126 := c_97
                  refine lv_aload_n hx hb dX5_calculates_100 rfl (lv_at hl 1 rfl) ?_
                  refine lv_iconst (v := 1) hx hb dX5_calculates_101 (by decide) ?_
                  refine lv_aload_n hx hb dX5_calculates_102 rfl (lv_at hl 1 rfl) ?_
                  refine m_get_2 X G (by decide +kernel) dX5_calculates_103 ?_
                  refine lv_aload_n hx hb dX5_calculates_106 rfl (lv_at hl 1 rfl) ?_
                  refine m_get_5 X G (by decide +kernel) dX5_calculates_107 ?_
                  refine lv_iconst (v := 1) hx hb dX5_calculates_110 (by decide) ?_
                  refine lv_isub hx hb dX5_calculates_111 ?_
                  refine m_ld_2 X G (vin (i_subE (rfl : (σ.1 5).toInt = _) (show (1 : Int32).toInt = 1 from rfl) (by omega) (by omega)) (by omega) (by omega)) dX5_calculates_112 ?_
                  refine lv_lneg hx hb dX5_calculates_113 ?_
                  refine lv_aload_n hx hb dX5_calculates_114 rfl (lv_at hl 1 rfl) ?_
                  refine m_get_3 X G (by decide +kernel) dX5_calculates_115 ?_
                  refine lv_aload_n hx hb dX5_calculates_118 rfl (lv_at hl 1 rfl) ?_
                  refine m_get_5 X G (by decide +kernel) dX5_calculates_119 ?_
                  refine lv_iconst (v := 1) hx hb dX5_calculates_122 (by decide) ?_
                  refine lv_isub hx hb dX5_calculates_123 ?_
                  refine m_ld_3 X G (vin (i_subE (rfl : (σ.1 5).toInt = _) (show (1 : Int32).toInt = 1 from rfl) (by omega) (by omega)) (by omega) (by omega)) dX5_calculates_124 ?_
                  refine m_callv (As := [.int 1, .long (-(σ.2.2.2 2 ((σ.1 5) - 1).toNatClampNeg)), .int (σ.2.2.1 3 ((σ.1 5) - 1).toNatClampNeg)]) (rest := []) X hml G hA (c_M_put l dC dI cI cJ h ad _ σ 1 (-(σ.2.2.2 2 ((σ.1 5) - 1).toNatClampNeg)) (σ.2.2.1 3 ((σ.1 5) - 1).toNatClampNeg) (show 0 ≤ (σ.1 5).toInt - (1 : Int32).toInt from by omega) (show (σ.1 5).toInt - (1 : Int32).toInt < 82 from by omega)) (cwV 3 hts gX5_calculates_X5_put rfl rfl rfl (by decide +kernel) ⟨Nat.le_of_ble_eq_true rfl, Nat.le_of_ble_eq_true rfl⟩) rfl hl.1 rfl (Nat.le_of_ble_eq_true rfl) dX5_calculates_125 ⟨Nat.zero_le _, Nat.zero_le _⟩ (fun u_125 H locs hw_125 G => ?_)
                  subst hw_125
                  refine lv_goto (tgt := 271) hx hb dX5_calculates_128 (by decide) ?_
                  refine lv_iconst (v := 1) hx hb dX5_calculates_271 (by decide) ?_
                  exact m_zret X G hr hlocks rfl (by simp only [F_calculates, eq_false c_3, eq_false c_9, eq_false c_33, eq_false c_46, eq_false c_59, eq_false c_72, hw_84, eq_false c_89, eq_true c_97, ↓reduceIte, si_self, sm_self, si_snd, sm_fst, si20_16, not_false_eq_true, not_true_eq_false, eq_self] <;> rfl) dX5_calculates_272
              · have c_89 : r_84 = 0 := c_89
                refine lv_iconst (v := 0) hx hb dX5_calculates_92 (by decide) ?_
                exact m_zret X G hr hlocks rfl (by simp only [F_calculates, eq_false c_3, eq_false c_9, eq_false c_33, eq_false c_46, eq_false c_59, eq_false c_72, hw_84, eq_true c_89, ↓reduceIte, si_self, sm_self, si_snd, sm_fst, si20_16, not_false_eq_true, not_true_eq_false, eq_self] <;> rfl) dX5_calculates_93
            · have c_72 : c0 = 118 := c_72
              refine lv_aload_n hx hb dX5_calculates_75 rfl (lv_at hl 0 rfl) ?_
              refine m_calli (As := []) (rest := []) X hml G hA (c_M_root l dC dI cI cJ h ad _ σ hd) (cwV 0 hts gX5_calculates_X5_root rfl rfl rfl (by decide +kernel) ⟨Nat.le_of_ble_eq_true rfl, Nat.le_of_ble_eq_true rfl⟩) rfl hl.1 rfl (Nat.le_of_ble_eq_true rfl) dX5_calculates_76 ⟨Nat.zero_le _, Nat.zero_le _⟩ (fun r_76 u_76 H locs hw_76 G => ?_)
              obtain ⟨f_76, m_76, n_76, rfl⟩ := root_st hw_76
              refine lv_goto (tgt := 87) hx hb dX5_calculates_79 (by decide) ?_
              refine lv_istore_n (lv' := [(2, .int r_76), (0, .ref h), (1, .int c0)]) hx hb dX5_calculates_87 rfl hl (by decide) rfl (fun ls hl => ?_)
              refine lv_iload_n hx hb dX5_calculates_88 rfl (lv_at hl 0 rfl) ?_
              refine lv_if_ne (tgt := 94) hx hb dX5_calculates_89 (by decide) (fun c_89 => ?_) (fun c_89 => ?_)
              · have c_89 : ¬ (r_76 = 0) := c_89
                have hn := root_ok hw_76 c_89
                refine lv_iload_n hx hb dX5_calculates_94 rfl (lv_at hl 2 rfl) ?_
                refine lv_bipush (v := 126) hx hb dX5_calculates_95 (by decide) ?_
                refine lv_icmp_ne (tgt := 131) hx hb dX5_calculates_97 (by decide) (fun c9 => ?_) (fun c9 => absurd c9 (show ¬ (c0 = 126) from by rw [c_72] <;> decide))
                refine lv_iload_n hx hb dX5_calculates_131 rfl (lv_at hl 2 rfl) ?_
                refine lv_bipush (v := 88) hx hb dX5_calculates_132 (by decide) ?_
                refine lv_icmp_ne (tgt := 158) hx hb dX5_calculates_134 (by decide) (fun c9 => ?_) (fun c9 => absurd c9 (show ¬ (c0 = 88) from by rw [c_72] <;> decide))
                refine lv_iload_n hx hb dX5_calculates_158 rfl (lv_at hl 2 rfl) ?_
                refine lv_bipush (v := 107) hx hb dX5_calculates_159 (by decide) ?_
                refine lv_icmp_ne (tgt := 248) hx hb dX5_calculates_161 (by decide) (fun c9 => ?_) (fun c9 => absurd c9 (show ¬ (c0 = 107) from by rw [c_72] <;> decide))
                refine lv_aload_n hx hb dX5_calculates_248 rfl (lv_at hl 1 rfl) ?_
                refine lv_iload_n hx hb dX5_calculates_249 rfl (lv_at hl 2 rfl) ?_
                refine lv_bipush (v := 118) hx hb dX5_calculates_250 (by decide) ?_
                refine lv_icmp_ne (tgt := 259) hx hb dX5_calculates_252 (by decide) (fun c9 => absurd (show c0 = 118 from by rw [c_72] <;> decide) c9) (fun c9 => ?_)
                refine lv_iconst (v := 1) hx hb dX5_calculates_255 (by decide) ?_
                refine lv_goto (tgt := 260) hx hb dX5_calculates_256 (by decide) ?_
                refine lv_aload_n hx hb dX5_calculates_260 rfl (lv_at hl 1 rfl) ?_
                refine m_get_19 X G (by decide +kernel) dX5_calculates_261 ?_
                refine lv_aload_n hx hb dX5_calculates_264 rfl (lv_at hl 1 rfl) ?_
                refine m_get_20 X G (by decide +kernel) dX5_calculates_265 ?_
                refine m_callv (As := [.int 1, .long m_76, .int n_76]) (rest := []) X hml G hA (c_M_put l dC dI cI cJ h ad _ (si (sm (si σ 16 f_76) m_76) 20 n_76) 1 m_76 n_76 (show 0 ≤ (σ.1 5).toInt - (1 : Int32).toInt from by omega) (show (σ.1 5).toInt - (1 : Int32).toInt < 82 from by omega)) (cwV 3 hts gX5_calculates_X5_put rfl rfl rfl (by decide +kernel) ⟨Nat.le_of_ble_eq_true rfl, Nat.le_of_ble_eq_true rfl⟩) rfl hl.1 rfl (Nat.le_of_ble_eq_true rfl) dX5_calculates_268 ⟨Nat.zero_le _, Nat.zero_le _⟩ (fun u_268 H locs hw_268 G => ?_)
                subst hw_268
                refine lv_iconst (v := 1) hx hb dX5_calculates_271 (by decide) ?_
                exact m_zret X G hr hlocks rfl (by simp only [F_calculates, eq_false c_3, eq_false c_9, eq_false c_33, eq_false c_46, eq_false c_59, eq_true c_72, hw_76, eq_false c_89, ↓reduceIte, si_self, sm_self, si_snd, sm_fst, si20_16, not_false_eq_true, not_true_eq_false, eq_self] <;> rfl) dX5_calculates_272
              · have c_89 : r_76 = 0 := c_89
                refine lv_iconst (v := 0) hx hb dX5_calculates_92 (by decide) ?_
                exact m_zret X G hr hlocks rfl (by simp only [F_calculates, eq_false c_3, eq_false c_9, eq_false c_33, eq_false c_46, eq_false c_59, eq_true c_72, hw_76, eq_true c_89, ↓reduceIte, si_self, sm_self, si_snd, sm_fst, si20_16, not_false_eq_true, not_true_eq_false, eq_self] <;> rfl) dX5_calculates_93
          · have c_59 : c0 = 37 := c_59
            refine lv_aload_n hx hb dX5_calculates_62 rfl (lv_at hl 0 rfl) ?_
            refine m_calli (As := []) (rest := []) X hml G hA (c_M_rest l dC dI cI cJ h ad _ σ hd) (cwV 0 hts gX5_calculates_X5_rest rfl rfl rfl (by decide +kernel) ⟨Nat.le_of_ble_eq_true rfl, Nat.le_of_ble_eq_true rfl⟩) rfl hl.1 rfl (Nat.le_of_ble_eq_true rfl) dX5_calculates_63 ⟨Nat.zero_le _, Nat.zero_le _⟩ (fun r_63 u_63 H locs hw_63 G => ?_)
            obtain ⟨f_63, m_63, n_63, rfl⟩ := rest_st hw_63
            refine lv_goto (tgt := 87) hx hb dX5_calculates_66 (by decide) ?_
            refine lv_istore_n (lv' := [(2, .int r_63), (0, .ref h), (1, .int c0)]) hx hb dX5_calculates_87 rfl hl (by decide) rfl (fun ls hl => ?_)
            refine lv_iload_n hx hb dX5_calculates_88 rfl (lv_at hl 0 rfl) ?_
            refine lv_if_ne (tgt := 94) hx hb dX5_calculates_89 (by decide) (fun c_89 => ?_) (fun c_89 => ?_)
            · have c_89 : ¬ (r_63 = 0) := c_89
              have hn := rest_ok hw_63 c_89
              refine lv_iload_n hx hb dX5_calculates_94 rfl (lv_at hl 2 rfl) ?_
              refine lv_bipush (v := 126) hx hb dX5_calculates_95 (by decide) ?_
              refine lv_icmp_ne (tgt := 131) hx hb dX5_calculates_97 (by decide) (fun c9 => ?_) (fun c9 => absurd c9 (show ¬ (c0 = 126) from by rw [c_59] <;> decide))
              refine lv_iload_n hx hb dX5_calculates_131 rfl (lv_at hl 2 rfl) ?_
              refine lv_bipush (v := 88) hx hb dX5_calculates_132 (by decide) ?_
              refine lv_icmp_ne (tgt := 158) hx hb dX5_calculates_134 (by decide) (fun c9 => ?_) (fun c9 => absurd c9 (show ¬ (c0 = 88) from by rw [c_59] <;> decide))
              refine lv_iload_n hx hb dX5_calculates_158 rfl (lv_at hl 2 rfl) ?_
              refine lv_bipush (v := 107) hx hb dX5_calculates_159 (by decide) ?_
              refine lv_icmp_ne (tgt := 248) hx hb dX5_calculates_161 (by decide) (fun c9 => ?_) (fun c9 => absurd c9 (show ¬ (c0 = 107) from by rw [c_59] <;> decide))
              refine lv_aload_n hx hb dX5_calculates_248 rfl (lv_at hl 1 rfl) ?_
              refine lv_iload_n hx hb dX5_calculates_249 rfl (lv_at hl 2 rfl) ?_
              refine lv_bipush (v := 118) hx hb dX5_calculates_250 (by decide) ?_
              refine lv_icmp_ne (tgt := 259) hx hb dX5_calculates_252 (by decide) (fun c9 => ?_) (fun c9 => absurd c9 (show ¬ (c0 = 118) from by rw [c_59] <;> decide))
              refine lv_iconst (v := 2) hx hb dX5_calculates_259 (by decide) ?_
              refine lv_aload_n hx hb dX5_calculates_260 rfl (lv_at hl 1 rfl) ?_
              refine m_get_19 X G (by decide +kernel) dX5_calculates_261 ?_
              refine lv_aload_n hx hb dX5_calculates_264 rfl (lv_at hl 1 rfl) ?_
              refine m_get_20 X G (by decide +kernel) dX5_calculates_265 ?_
              refine m_callv (As := [.int 2, .long m_63, .int n_63]) (rest := []) X hml G hA (c_M_put l dC dI cI cJ h ad _ (si (sm (si σ 16 f_63) m_63) 20 n_63) 2 m_63 n_63 (show 0 ≤ (σ.1 5).toInt - (2 : Int32).toInt from by omega) (show (σ.1 5).toInt - (2 : Int32).toInt < 82 from by omega)) (cwV 3 hts gX5_calculates_X5_put rfl rfl rfl (by decide +kernel) ⟨Nat.le_of_ble_eq_true rfl, Nat.le_of_ble_eq_true rfl⟩) rfl hl.1 rfl (Nat.le_of_ble_eq_true rfl) dX5_calculates_268 ⟨Nat.zero_le _, Nat.zero_le _⟩ (fun u_268 H locs hw_268 G => ?_)
              subst hw_268
              refine lv_iconst (v := 1) hx hb dX5_calculates_271 (by decide) ?_
              exact m_zret X G hr hlocks rfl (by simp only [F_calculates, eq_false c_3, eq_false c_9, eq_false c_33, eq_false c_46, eq_true c_59, hw_63, eq_false c_89, ↓reduceIte, si_self, sm_self, si_snd, sm_fst, si20_16, not_false_eq_true, not_true_eq_false, eq_self] <;> rfl) dX5_calculates_272
            · have c_89 : r_63 = 0 := c_89
              refine lv_iconst (v := 0) hx hb dX5_calculates_92 (by decide) ?_
              exact m_zret X G hr hlocks rfl (by simp only [F_calculates, eq_false c_3, eq_false c_9, eq_false c_33, eq_false c_46, eq_true c_59, hw_63, eq_true c_89, ↓reduceIte, si_self, sm_self, si_snd, sm_fst, si20_16, not_false_eq_true, not_true_eq_false, eq_self] <;> rfl) dX5_calculates_93
        · have c_46 : c0 = 47 := c_46
          refine lv_aload_n hx hb dX5_calculates_49 rfl (lv_at hl 0 rfl) ?_
          refine m_calli (As := []) (rest := []) X hml G hA (c_M_quotient l dC dI cI cJ h ad _ σ hd) (cwV 0 hts gX5_calculates_X5_quotient rfl rfl rfl (by decide +kernel) ⟨Nat.le_of_ble_eq_true rfl, Nat.le_of_ble_eq_true rfl⟩) rfl hl.1 rfl (Nat.le_of_ble_eq_true rfl) dX5_calculates_50 ⟨Nat.zero_le _, Nat.zero_le _⟩ (fun r_50 u_50 H locs hw_50 G => ?_)
          obtain ⟨f_50, m_50, n_50, rfl⟩ := quotient_st hw_50
          refine lv_goto (tgt := 87) hx hb dX5_calculates_53 (by decide) ?_
          refine lv_istore_n (lv' := [(2, .int r_50), (0, .ref h), (1, .int c0)]) hx hb dX5_calculates_87 rfl hl (by decide) rfl (fun ls hl => ?_)
          refine lv_iload_n hx hb dX5_calculates_88 rfl (lv_at hl 0 rfl) ?_
          refine lv_if_ne (tgt := 94) hx hb dX5_calculates_89 (by decide) (fun c_89 => ?_) (fun c_89 => ?_)
          · have c_89 : ¬ (r_50 = 0) := c_89
            have hn := quotient_ok hw_50 c_89
            refine lv_iload_n hx hb dX5_calculates_94 rfl (lv_at hl 2 rfl) ?_
            refine lv_bipush (v := 126) hx hb dX5_calculates_95 (by decide) ?_
            refine lv_icmp_ne (tgt := 131) hx hb dX5_calculates_97 (by decide) (fun c9 => ?_) (fun c9 => absurd c9 (show ¬ (c0 = 126) from by rw [c_46] <;> decide))
            refine lv_iload_n hx hb dX5_calculates_131 rfl (lv_at hl 2 rfl) ?_
            refine lv_bipush (v := 88) hx hb dX5_calculates_132 (by decide) ?_
            refine lv_icmp_ne (tgt := 158) hx hb dX5_calculates_134 (by decide) (fun c9 => ?_) (fun c9 => absurd c9 (show ¬ (c0 = 88) from by rw [c_46] <;> decide))
            refine lv_iload_n hx hb dX5_calculates_158 rfl (lv_at hl 2 rfl) ?_
            refine lv_bipush (v := 107) hx hb dX5_calculates_159 (by decide) ?_
            refine lv_icmp_ne (tgt := 248) hx hb dX5_calculates_161 (by decide) (fun c9 => ?_) (fun c9 => absurd c9 (show ¬ (c0 = 107) from by rw [c_46] <;> decide))
            refine lv_aload_n hx hb dX5_calculates_248 rfl (lv_at hl 1 rfl) ?_
            refine lv_iload_n hx hb dX5_calculates_249 rfl (lv_at hl 2 rfl) ?_
            refine lv_bipush (v := 118) hx hb dX5_calculates_250 (by decide) ?_
            refine lv_icmp_ne (tgt := 259) hx hb dX5_calculates_252 (by decide) (fun c9 => ?_) (fun c9 => absurd c9 (show ¬ (c0 = 118) from by rw [c_46] <;> decide))
            refine lv_iconst (v := 2) hx hb dX5_calculates_259 (by decide) ?_
            refine lv_aload_n hx hb dX5_calculates_260 rfl (lv_at hl 1 rfl) ?_
            refine m_get_19 X G (by decide +kernel) dX5_calculates_261 ?_
            refine lv_aload_n hx hb dX5_calculates_264 rfl (lv_at hl 1 rfl) ?_
            refine m_get_20 X G (by decide +kernel) dX5_calculates_265 ?_
            refine m_callv (As := [.int 2, .long m_50, .int n_50]) (rest := []) X hml G hA (c_M_put l dC dI cI cJ h ad _ (si (sm (si σ 16 f_50) m_50) 20 n_50) 2 m_50 n_50 (show 0 ≤ (σ.1 5).toInt - (2 : Int32).toInt from by omega) (show (σ.1 5).toInt - (2 : Int32).toInt < 82 from by omega)) (cwV 3 hts gX5_calculates_X5_put rfl rfl rfl (by decide +kernel) ⟨Nat.le_of_ble_eq_true rfl, Nat.le_of_ble_eq_true rfl⟩) rfl hl.1 rfl (Nat.le_of_ble_eq_true rfl) dX5_calculates_268 ⟨Nat.zero_le _, Nat.zero_le _⟩ (fun u_268 H locs hw_268 G => ?_)
            subst hw_268
            refine lv_iconst (v := 1) hx hb dX5_calculates_271 (by decide) ?_
            exact m_zret X G hr hlocks rfl (by simp only [F_calculates, eq_false c_3, eq_false c_9, eq_false c_33, eq_true c_46, hw_50, eq_false c_89, ↓reduceIte, si_self, sm_self, si_snd, sm_fst, si20_16, not_false_eq_true, not_true_eq_false, eq_self] <;> rfl) dX5_calculates_272
          · have c_89 : r_50 = 0 := c_89
            refine lv_iconst (v := 0) hx hb dX5_calculates_92 (by decide) ?_
            exact m_zret X G hr hlocks rfl (by simp only [F_calculates, eq_false c_3, eq_false c_9, eq_false c_33, eq_true c_46, hw_50, eq_true c_89, ↓reduceIte, si_self, sm_self, si_snd, sm_fst, si20_16, not_false_eq_true, not_true_eq_false, eq_self] <;> rfl) dX5_calculates_93
      · have c_33 : c0 = 42 := c_33
        refine lv_aload_n hx hb dX5_calculates_36 rfl (lv_at hl 0 rfl) ?_
        refine m_calli (As := []) (rest := []) X hml G hA (c_M_times l dC dI cI cJ h ad _ σ hd) (cwV 0 hts gX5_calculates_X5_times rfl rfl rfl (by decide +kernel) ⟨Nat.le_of_ble_eq_true rfl, Nat.le_of_ble_eq_true rfl⟩) rfl hl.1 rfl (Nat.le_of_ble_eq_true rfl) dX5_calculates_37 ⟨Nat.zero_le _, Nat.zero_le _⟩ (fun r_37 u_37 H locs hw_37 G => ?_)
        obtain ⟨f_37, m_37, n_37, rfl⟩ := times_st hw_37
        refine lv_goto (tgt := 87) hx hb dX5_calculates_40 (by decide) ?_
        refine lv_istore_n (lv' := [(2, .int r_37), (0, .ref h), (1, .int c0)]) hx hb dX5_calculates_87 rfl hl (by decide) rfl (fun ls hl => ?_)
        refine lv_iload_n hx hb dX5_calculates_88 rfl (lv_at hl 0 rfl) ?_
        refine lv_if_ne (tgt := 94) hx hb dX5_calculates_89 (by decide) (fun c_89 => ?_) (fun c_89 => ?_)
        · have c_89 : ¬ (r_37 = 0) := c_89
          have hn := times_ok hw_37 c_89
          refine lv_iload_n hx hb dX5_calculates_94 rfl (lv_at hl 2 rfl) ?_
          refine lv_bipush (v := 126) hx hb dX5_calculates_95 (by decide) ?_
          refine lv_icmp_ne (tgt := 131) hx hb dX5_calculates_97 (by decide) (fun c9 => ?_) (fun c9 => absurd c9 (show ¬ (c0 = 126) from by rw [c_33] <;> decide))
          refine lv_iload_n hx hb dX5_calculates_131 rfl (lv_at hl 2 rfl) ?_
          refine lv_bipush (v := 88) hx hb dX5_calculates_132 (by decide) ?_
          refine lv_icmp_ne (tgt := 158) hx hb dX5_calculates_134 (by decide) (fun c9 => ?_) (fun c9 => absurd c9 (show ¬ (c0 = 88) from by rw [c_33] <;> decide))
          refine lv_iload_n hx hb dX5_calculates_158 rfl (lv_at hl 2 rfl) ?_
          refine lv_bipush (v := 107) hx hb dX5_calculates_159 (by decide) ?_
          refine lv_icmp_ne (tgt := 248) hx hb dX5_calculates_161 (by decide) (fun c9 => ?_) (fun c9 => absurd c9 (show ¬ (c0 = 107) from by rw [c_33] <;> decide))
          refine lv_aload_n hx hb dX5_calculates_248 rfl (lv_at hl 1 rfl) ?_
          refine lv_iload_n hx hb dX5_calculates_249 rfl (lv_at hl 2 rfl) ?_
          refine lv_bipush (v := 118) hx hb dX5_calculates_250 (by decide) ?_
          refine lv_icmp_ne (tgt := 259) hx hb dX5_calculates_252 (by decide) (fun c9 => ?_) (fun c9 => absurd c9 (show ¬ (c0 = 118) from by rw [c_33] <;> decide))
          refine lv_iconst (v := 2) hx hb dX5_calculates_259 (by decide) ?_
          refine lv_aload_n hx hb dX5_calculates_260 rfl (lv_at hl 1 rfl) ?_
          refine m_get_19 X G (by decide +kernel) dX5_calculates_261 ?_
          refine lv_aload_n hx hb dX5_calculates_264 rfl (lv_at hl 1 rfl) ?_
          refine m_get_20 X G (by decide +kernel) dX5_calculates_265 ?_
          refine m_callv (As := [.int 2, .long m_37, .int n_37]) (rest := []) X hml G hA (c_M_put l dC dI cI cJ h ad _ (si (sm (si σ 16 f_37) m_37) 20 n_37) 2 m_37 n_37 (show 0 ≤ (σ.1 5).toInt - (2 : Int32).toInt from by omega) (show (σ.1 5).toInt - (2 : Int32).toInt < 82 from by omega)) (cwV 3 hts gX5_calculates_X5_put rfl rfl rfl (by decide +kernel) ⟨Nat.le_of_ble_eq_true rfl, Nat.le_of_ble_eq_true rfl⟩) rfl hl.1 rfl (Nat.le_of_ble_eq_true rfl) dX5_calculates_268 ⟨Nat.zero_le _, Nat.zero_le _⟩ (fun u_268 H locs hw_268 G => ?_)
          subst hw_268
          refine lv_iconst (v := 1) hx hb dX5_calculates_271 (by decide) ?_
          exact m_zret X G hr hlocks rfl (by simp only [F_calculates, eq_false c_3, eq_false c_9, eq_true c_33, hw_37, eq_false c_89, ↓reduceIte, si_self, sm_self, si_snd, sm_fst, si20_16, not_false_eq_true, not_true_eq_false, eq_self] <;> rfl) dX5_calculates_272
        · have c_89 : r_37 = 0 := c_89
          refine lv_iconst (v := 0) hx hb dX5_calculates_92 (by decide) ?_
          exact m_zret X G hr hlocks rfl (by simp only [F_calculates, eq_false c_3, eq_false c_9, eq_true c_33, hw_37, eq_true c_89, ↓reduceIte, si_self, sm_self, si_snd, sm_fst, si20_16, not_false_eq_true, not_true_eq_false, eq_self] <;> rfl) dX5_calculates_93
    · have c_9 : c0 = 45 := c_9
      refine lv_aload_n hx hb dX5_calculates_12 rfl (lv_at hl 0 rfl) ?_
      refine lv_iload_n hx hb dX5_calculates_13 rfl (lv_at hl 1 rfl) ?_
      refine lv_bipush (v := 45) hx hb dX5_calculates_14 (by decide) ?_
      refine lv_icmp_ne (tgt := 23) hx hb dX5_calculates_16 (by decide) (fun c9 => absurd (show c0 = 45 from by rw [c_9] <;> decide) c9) (fun c9 => ?_)
      refine lv_iconst (v := 1) hx hb dX5_calculates_19 (by decide) ?_
      refine lv_goto (tgt := 24) hx hb dX5_calculates_20 (by decide) ?_
      refine m_calli (As := [.int 1]) (rest := []) X hml G hA (c_M_sum l dC dI cI cJ h ad _ σ 1 hd) (cwV 1 hts gX5_calculates_X5_sum rfl rfl rfl (by decide +kernel) ⟨Nat.le_of_ble_eq_true rfl, Nat.le_of_ble_eq_true rfl⟩) rfl hl.1 rfl (Nat.le_of_ble_eq_true rfl) dX5_calculates_24 ⟨Nat.zero_le _, Nat.zero_le _⟩ (fun r_24 u_24 H locs hw_24 G => ?_)
      obtain ⟨f_24, m_24, n_24, rfl⟩ := sum_st hw_24
      refine lv_goto (tgt := 87) hx hb dX5_calculates_27 (by decide) ?_
      refine lv_istore_n (lv' := [(2, .int r_24), (0, .ref h), (1, .int c0)]) hx hb dX5_calculates_87 rfl hl (by decide) rfl (fun ls hl => ?_)
      refine lv_iload_n hx hb dX5_calculates_88 rfl (lv_at hl 0 rfl) ?_
      refine lv_if_ne (tgt := 94) hx hb dX5_calculates_89 (by decide) (fun c_89 => ?_) (fun c_89 => ?_)
      · have c_89 : ¬ (r_24 = 0) := c_89
        have hn := sum_ok hw_24 c_89
        refine lv_iload_n hx hb dX5_calculates_94 rfl (lv_at hl 2 rfl) ?_
        refine lv_bipush (v := 126) hx hb dX5_calculates_95 (by decide) ?_
        refine lv_icmp_ne (tgt := 131) hx hb dX5_calculates_97 (by decide) (fun c9 => ?_) (fun c9 => absurd c9 (show ¬ (c0 = 126) from by rw [c_9] <;> decide))
        refine lv_iload_n hx hb dX5_calculates_131 rfl (lv_at hl 2 rfl) ?_
        refine lv_bipush (v := 88) hx hb dX5_calculates_132 (by decide) ?_
        refine lv_icmp_ne (tgt := 158) hx hb dX5_calculates_134 (by decide) (fun c9 => ?_) (fun c9 => absurd c9 (show ¬ (c0 = 88) from by rw [c_9] <;> decide))
        refine lv_iload_n hx hb dX5_calculates_158 rfl (lv_at hl 2 rfl) ?_
        refine lv_bipush (v := 107) hx hb dX5_calculates_159 (by decide) ?_
        refine lv_icmp_ne (tgt := 248) hx hb dX5_calculates_161 (by decide) (fun c9 => ?_) (fun c9 => absurd c9 (show ¬ (c0 = 107) from by rw [c_9] <;> decide))
        refine lv_aload_n hx hb dX5_calculates_248 rfl (lv_at hl 1 rfl) ?_
        refine lv_iload_n hx hb dX5_calculates_249 rfl (lv_at hl 2 rfl) ?_
        refine lv_bipush (v := 118) hx hb dX5_calculates_250 (by decide) ?_
        refine lv_icmp_ne (tgt := 259) hx hb dX5_calculates_252 (by decide) (fun c9 => ?_) (fun c9 => absurd c9 (show ¬ (c0 = 118) from by rw [c_9] <;> decide))
        refine lv_iconst (v := 2) hx hb dX5_calculates_259 (by decide) ?_
        refine lv_aload_n hx hb dX5_calculates_260 rfl (lv_at hl 1 rfl) ?_
        refine m_get_19 X G (by decide +kernel) dX5_calculates_261 ?_
        refine lv_aload_n hx hb dX5_calculates_264 rfl (lv_at hl 1 rfl) ?_
        refine m_get_20 X G (by decide +kernel) dX5_calculates_265 ?_
        refine m_callv (As := [.int 2, .long m_24, .int n_24]) (rest := []) X hml G hA (c_M_put l dC dI cI cJ h ad _ (si (sm (si σ 16 f_24) m_24) 20 n_24) 2 m_24 n_24 (show 0 ≤ (σ.1 5).toInt - (2 : Int32).toInt from by omega) (show (σ.1 5).toInt - (2 : Int32).toInt < 82 from by omega)) (cwV 3 hts gX5_calculates_X5_put rfl rfl rfl (by decide +kernel) ⟨Nat.le_of_ble_eq_true rfl, Nat.le_of_ble_eq_true rfl⟩) rfl hl.1 rfl (Nat.le_of_ble_eq_true rfl) dX5_calculates_268 ⟨Nat.zero_le _, Nat.zero_le _⟩ (fun u_268 H locs hw_268 G => ?_)
        subst hw_268
        refine lv_iconst (v := 1) hx hb dX5_calculates_271 (by decide) ?_
        exact m_zret X G hr hlocks rfl (by simp only [F_calculates, eq_false c_3, eq_true c_9, hw_24, eq_false c_89, ↓reduceIte, si_self, sm_self, si_snd, sm_fst, si20_16, not_false_eq_true, not_true_eq_false, eq_self] <;> rfl) dX5_calculates_272
      · have c_89 : r_24 = 0 := c_89
        refine lv_iconst (v := 0) hx hb dX5_calculates_92 (by decide) ?_
        exact m_zret X G hr hlocks rfl (by simp only [F_calculates, eq_false c_3, eq_true c_9, hw_24, eq_true c_89, ↓reduceIte, si_self, sm_self, si_snd, sm_fst, si20_16, not_false_eq_true, not_true_eq_false, eq_self] <;> rfl) dX5_calculates_93
def F_moves (σ : MS) (c0 : Int32) : Int32 × MS := if c0 = 99 then ((1, (si σ 5 0))) else if c0 = 122 then (let q_26 := F_room σ; if q_26.1 = 0 then ((0, q_26.2)) else (1, (si (sa (sb (si σ 5 ((σ.1 5) - 0)) 2 ((σ.1 5) - 0).toNatClampNeg ((σ.1 5).toInt64)) 3 ((σ.1 5) - 0).toNatClampNeg 0) 5 (((σ.1 5) - 0) + 1)))) else if c0 = 75 then (let q_26 := F_room σ; if q_26.1 = 0 then ((0, q_26.2)) else (1, (si (sa (sb (si σ 5 ((σ.1 5) - 0)) 2 ((σ.1 5) - 0).toNatClampNeg ((σ.1 6).toInt64)) 3 ((σ.1 5) - 0).toNatClampNeg 0) 5 (((σ.1 5) - 0) + 1)))) else if c0 = 114 then (let q_73 := F_have σ 2; if q_73.1 = 0 then ((0, q_73.2)) else let q_138 := F_copy σ ((σ.1 5) - 1) 80; let q_154 := F_copy (scp σ (q_138.2.2.2 2) (q_138.2.2.1 3) (q_138.2.2.1 4)) ((σ.1 5) - 2) ((σ.1 5) - 1); let q_166 := F_copy (scp (scp σ (q_138.2.2.2 2) (q_138.2.2.1 3) (q_138.2.2.1 4)) (q_154.2.2.2 2) (q_154.2.2.1 3) (q_154.2.2.1 4)) 80 ((σ.1 5) - 2); (1, (scp (scp (scp σ (q_138.2.2.2 2) (q_138.2.2.1 3) (q_138.2.2.1 4)) (q_154.2.2.2 2) (q_154.2.2.1 3) (q_154.2.2.1 4)) (q_166.2.2.2 2) (q_166.2.2.1 3) (q_166.2.2.1 4)))) else let q_73 := F_have σ 1; if q_73.1 = 0 then ((0, q_73.2)) else if c0 = 100 then (let q_88 := F_room σ; if q_88.1 = 0 then ((0, q_88.2)) else let q_107 := F_copy σ ((σ.1 5) - 1) (σ.1 5); (1, (si (scp σ (q_107.2.2.2 2) (q_107.2.2.1 3) (q_107.2.2.1 4)) 5 ((σ.1 5) + 1)))) else if c0 = 68 then ((1, (si σ 5 ((σ.1 5) - 1)))) else if 40 ≤ (σ.1 14) then ((1, σ)) else (1, (si (sa (sb σ 12 (σ.1 14).toNatClampNeg (σ.2.2.2 2 ((σ.1 5) - 1).toNatClampNeg)) 13 (σ.1 14).toNatClampNeg (σ.2.2.1 3 ((σ.1 5) - 1).toNatClampNeg)) 14 ((σ.1 14) + 1)))
set_option maxHeartbeats 4000000 in
set_option maxRecDepth 100000 in
theorem c_M_moves (l : Launch) (dC : Nat → ClassId) (dI : Nat → Nat → Nat) (cI cJ : ClassId) (h : Nat) (ad : Nat → Nat) (sz : Nat) (σ : MS) (c0 : Int32) (hd0 : 0 ≤ (σ.1 5).toInt) (hd : (σ.1 5).toInt ≤ 40) (hp0 : 0 ≤ (σ.1 14).toInt) (htx : tx (σ.2.2.1 3) (σ.2.2.2 2)) : Met l yX5_moves wsX5_moves ({ frames := 2, cells := 0, slots := 0, locals := 42 } : Room) (va_Pc [.ref h, .int c0] (mPre dC dI cI cJ h ad sz σ)) (va_Qi (fun r u => F_moves σ c0 = (r, u)) (mAt dC dI cI cJ h ad (mA h ad cI cJ σ sz)) (mA h ad cI cJ σ sz)) 0 0 (mA h ad cI cJ σ sz) := by
  refine m_ofW (cc := cX5_moves) (maxL := 2) (ret := (some .boolean)) (by decide) rfl (by decide +kernel) rfl (Nat.le_of_ble_eq_true rfl) ?_
  intro p e s m below meth c X G hA hr hlocks hml ls hl
  have hl : lv_has ls 2 [(0, .ref h), (1, .int c0)] := hl
  have hx := X.1
  have hb := X.2.1
  have hts := X.2.2.1
  have hown := X.2.2.2.2.1
  have z0 : (0 : Int32).toInt = 0 := rfl
  have z1 : (1 : Int32).toInt = 1 := rfl
  have z2 : (2 : Int32).toInt = 2 := rfl
  have z8 : (80 : Int32).toInt = 80 := rfl
  refine lv_iload_n hx hb dX5_moves_0 rfl (lv_at hl 1 rfl) ?_
  refine lv_bipush (v := 99) hx hb dX5_moves_1 (by decide) ?_
  refine lv_icmp_ne (tgt := 13) hx hb dX5_moves_3 (by decide) (fun c_3 => ?_) (fun c_3 => ?_)
  · have c_3 : ¬ (c0 = 99) := c_3
    refine lv_iload_n hx hb dX5_moves_13 rfl (lv_at hl 1 rfl) ?_
    refine lv_bipush (v := 122) hx hb dX5_moves_14 (by decide) ?_
    refine lv_icmp_eq (tgt := 25) hx hb dX5_moves_16 (by decide) (fun c_16 => ?_) (fun c_16 => ?_)
    · have c_16 : c0 = 122 := c_16
      refine lv_aload_n hx hb dX5_moves_25 rfl (lv_at hl 0 rfl) ?_
      refine m_calli (As := []) (rest := []) X hml G hA (c_M_room l dC dI cI cJ h ad _ σ) (cwV 0 hts gX5_moves_X5_room rfl rfl rfl (by decide +kernel) ⟨Nat.le_of_ble_eq_true rfl, Nat.le_of_ble_eq_true rfl⟩) rfl hl.1 rfl (Nat.le_of_ble_eq_true rfl) dX5_moves_26 ⟨Nat.zero_le _, Nat.zero_le _⟩ (fun r_26 u_26 H locs hw_26 G => ?_)
      refine lv_if_ne (tgt := 34) hx hb dX5_moves_29 (by decide) (fun c_29 => ?_) (fun c_29 => ?_)
      · have c_29 : ¬ (r_26 = 0) := c_29
        obtain ⟨rfl, hroom⟩ := room_ok hw_26 c_29
        refine lv_aload_n hx hb dX5_moves_34 rfl (lv_at hl 0 rfl) ?_
        refine lv_iconst (v := 0) hx hb dX5_moves_35 (by decide) ?_
        refine lv_iload_n hx hb dX5_moves_36 rfl (lv_at hl 1 rfl) ?_
        refine lv_bipush (v := 122) hx hb dX5_moves_37 (by decide) ?_
        refine lv_icmp_ne (tgt := 50) hx hb dX5_moves_39 (by decide) (fun c9 => absurd (show c0 = 122 from by rw [c_16] <;> decide) c9) (fun c9 => ?_)
        refine lv_aload_n hx hb dX5_moves_42 rfl (lv_at hl 0 rfl) ?_
        refine m_get_5 X G (by decide +kernel) dX5_moves_43 ?_
        refine lv_i2l hx hb dX5_moves_46 rfl ?_
        refine lv_goto (tgt := 55) hx hb dX5_moves_47 (by decide) ?_
        refine lv_iconst (v := 0) hx hb dX5_moves_55 (by decide) ?_
        refine m_callv (As := [.int 0, .long ((σ.1 5).toInt64), .int 0]) (rest := []) X hml G hA (c_M_put l dC dI cI cJ h ad _ σ 0 ((σ.1 5).toInt64) 0 (show 0 ≤ (σ.1 5).toInt - (0 : Int32).toInt from by omega) (show (σ.1 5).toInt - (0 : Int32).toInt < 82 from by omega)) (cwV 3 hts gX5_moves_X5_put rfl rfl rfl (by decide +kernel) ⟨Nat.le_of_ble_eq_true rfl, Nat.le_of_ble_eq_true rfl⟩) rfl hl.1 rfl (Nat.le_of_ble_eq_true rfl) dX5_moves_56 ⟨Nat.zero_le _, Nat.zero_le _⟩ (fun u_56 H locs hw_56 G => ?_)
        subst hw_56
        refine lv_iconst (v := 1) hx hb dX5_moves_59 (by decide) ?_
        exact m_zret X G hr hlocks rfl (by simp only [F_moves, eq_false c_3, eq_true c_16, hw_26, eq_false c_29, ↓reduceIte, si_self, sm_self, si_snd, sm_fst, si20_16, not_false_eq_true, not_true_eq_false, eq_self] <;> rfl) dX5_moves_60
      · have c_29 : r_26 = 0 := c_29
        refine lv_iconst (v := 0) hx hb dX5_moves_32 (by decide) ?_
        exact m_zret X G hr hlocks rfl (by simp only [F_moves, eq_false c_3, eq_true c_16, hw_26, eq_true c_29, ↓reduceIte, si_self, sm_self, si_snd, sm_fst, si20_16, not_false_eq_true, not_true_eq_false, eq_self] <;> rfl) dX5_moves_33
    · have c_16 : ¬ (c0 = 122) := c_16
      refine lv_iload_n hx hb dX5_moves_19 rfl (lv_at hl 1 rfl) ?_
      refine lv_bipush (v := 75) hx hb dX5_moves_20 (by decide) ?_
      refine lv_icmp_ne (tgt := 61) hx hb dX5_moves_22 (by decide) (fun c_22 => ?_) (fun c_22 => ?_)
      · have c_22 : ¬ (c0 = 75) := c_22
        refine lv_aload_n hx hb dX5_moves_61 rfl (lv_at hl 0 rfl) ?_
        refine lv_iload_n hx hb dX5_moves_62 rfl (lv_at hl 1 rfl) ?_
        refine lv_bipush (v := 114) hx hb dX5_moves_63 (by decide) ?_
        refine lv_icmp_ne (tgt := 72) hx hb dX5_moves_65 (by decide) (fun c_65 => ?_) (fun c_65 => ?_)
        · have c_65 : ¬ (c0 = 114) := c_65
          refine lv_iconst (v := 1) hx hb dX5_moves_72 (by decide) ?_
          refine m_calli (As := [.int 1]) (rest := []) X hml G hA (c_M_have l dC dI cI cJ h ad _ σ 1) (cwV 1 hts gX5_moves_X5_have rfl rfl rfl (by decide +kernel) ⟨Nat.le_of_ble_eq_true rfl, Nat.le_of_ble_eq_true rfl⟩) rfl hl.1 rfl (Nat.le_of_ble_eq_true rfl) dX5_moves_73 ⟨Nat.zero_le _, Nat.zero_le _⟩ (fun r_73 u_73 H locs hw_73 G => ?_)
          refine lv_if_ne (tgt := 81) hx hb dX5_moves_76 (by decide) (fun c_76 => ?_) (fun c_76 => ?_)
          · have c_76 : ¬ (r_73 = 0) := c_76
            obtain ⟨rfl, hn⟩ := have_ok hw_73 c_76
            refine lv_iload_n hx hb dX5_moves_81 rfl (lv_at hl 1 rfl) ?_
            refine lv_bipush (v := 100) hx hb dX5_moves_82 (by decide) ?_
            refine lv_icmp_ne (tgt := 123) hx hb dX5_moves_84 (by decide) (fun c_84 => ?_) (fun c_84 => ?_)
            · have c_84 : ¬ (c0 = 100) := c_84
              refine lv_iload_n hx hb dX5_moves_123 rfl (lv_at hl 1 rfl) ?_
              refine lv_bipush (v := 114) hx hb dX5_moves_124 (by decide) ?_
              refine lv_icmp_ne (tgt := 172) hx hb dX5_moves_126 (by decide) (fun c9 => ?_) (fun c9 => absurd c9 c_65)
              refine lv_iload_n hx hb dX5_moves_172 rfl (lv_at hl 1 rfl) ?_
              refine lv_bipush (v := 68) hx hb dX5_moves_173 (by decide) ?_
              refine lv_icmp_ne (tgt := 191) hx hb dX5_moves_175 (by decide) (fun c_175 => ?_) (fun c_175 => ?_)
              · have c_175 : ¬ (c0 = 68) := c_175
                refine lv_aload_n hx hb dX5_moves_191 rfl (lv_at hl 0 rfl) ?_
                refine m_get_14 X G (by decide +kernel) dX5_moves_192 ?_
                refine lv_bipush (v := 40) hx hb dX5_moves_195 (by decide) ?_
                refine lv_icmp_ge (tgt := 250) hx hb dX5_moves_197 (by decide) (fun c_197 => ?_) (fun c_197 => ?_)
                · have c_197 : 40 ≤ (σ.1 14) := c_197
                  refine lv_iconst (v := 1) hx hb dX5_moves_250 (by decide) ?_
                  exact m_zret X G hr hlocks rfl (by simp only [F_moves, eq_false c_3, eq_false c_16, eq_false c_22, eq_false c_65, hw_73, eq_false c_76, eq_false c_84, eq_false c_175, eq_true c_197, ↓reduceIte, si_self, sm_self, si_snd, sm_fst, si20_16, not_false_eq_true, not_true_eq_false, eq_self] <;> rfl) dX5_moves_251
                · have c_197 : ¬ (40 ≤ (σ.1 14)) := c_197
                  have h197 := i_nle c_197
                  have z4 : (40 : Int32).toInt = 40 := rfl
                  refine lv_aload_n hx hb dX5_moves_200 rfl (lv_at hl 0 rfl) ?_
                  refine m_get_12 X G (by decide +kernel) dX5_moves_201 ?_
                  refine lv_aload_n hx hb dX5_moves_204 rfl (lv_at hl 0 rfl) ?_
                  refine m_get_14 X G (by decide +kernel) dX5_moves_205 ?_
                  refine lv_aload_n hx hb dX5_moves_208 rfl (lv_at hl 0 rfl) ?_
                  refine m_get_2 X G (by decide +kernel) dX5_moves_209 ?_
                  refine lv_aload_n hx hb dX5_moves_212 rfl (lv_at hl 0 rfl) ?_
                  refine m_get_5 X G (by decide +kernel) dX5_moves_213 ?_
                  refine lv_iconst (v := 1) hx hb dX5_moves_216 (by decide) ?_
                  refine lv_isub hx hb dX5_moves_217 ?_
                  refine m_ld_2 X G (vin (i_subE (rfl : (σ.1 5).toInt = _) (show (1 : Int32).toInt = 1 from rfl) (by omega) (by omega)) (by omega) (by omega)) dX5_moves_218 ?_
                  refine m_st_12 X G (vin (rfl : (σ.1 14).toInt = _) (by omega) (by omega)) dX5_moves_219 (fun H locs G => ?_)
                  refine lv_aload_n hx hb dX5_moves_220 rfl (lv_at hl 0 rfl) ?_
                  refine m_get_13 X G (by decide +kernel) dX5_moves_221 ?_
                  refine lv_aload_n hx hb dX5_moves_224 rfl (lv_at hl 0 rfl) ?_
                  refine m_get_14 X G (by decide +kernel) dX5_moves_225 ?_
                  refine lv_aload_n hx hb dX5_moves_228 rfl (lv_at hl 0 rfl) ?_
                  refine m_get_3 X G (by decide +kernel) dX5_moves_229 ?_
                  refine lv_aload_n hx hb dX5_moves_232 rfl (lv_at hl 0 rfl) ?_
                  refine m_get_5 X G (by decide +kernel) dX5_moves_233 ?_
                  refine lv_iconst (v := 1) hx hb dX5_moves_236 (by decide) ?_
                  refine lv_isub hx hb dX5_moves_237 ?_
                  refine m_ld_3 X G (vin (i_subE (rfl : (σ.1 5).toInt = _) (show (1 : Int32).toInt = 1 from rfl) (by omega) (by omega)) (by omega) (by omega)) dX5_moves_238 ?_
                  refine m_st_13 X G (vin (rfl : (σ.1 14).toInt = _) (by omega) (by omega)) dX5_moves_239 (fun H locs G => ?_)
                  refine lv_aload_n hx hb dX5_moves_240 rfl (lv_at hl 0 rfl) ?_
                  refine lv_dup hx hb dX5_moves_241 rfl ?_
                  refine m_get_14 X G (by decide +kernel) dX5_moves_242 ?_
                  refine lv_iconst (v := 1) hx hb dX5_moves_245 (by decide) ?_
                  refine lv_iadd hx hb dX5_moves_246 ?_
                  refine m_put_14 X G (by decide +kernel) dX5_moves_247 (fun H locs G => ?_)
                  refine lv_iconst (v := 1) hx hb dX5_moves_250 (by decide) ?_
                  exact m_zret X G hr hlocks rfl (by simp only [F_moves, eq_false c_3, eq_false c_16, eq_false c_22, eq_false c_65, hw_73, eq_false c_76, eq_false c_84, eq_false c_175, eq_false c_197, ↓reduceIte, si_self, sm_self, si_snd, sm_fst, si20_16, not_false_eq_true, not_true_eq_false, eq_self] <;> rfl) dX5_moves_251
              · have c_175 : c0 = 68 := c_175
                refine lv_aload_n hx hb dX5_moves_178 rfl (lv_at hl 0 rfl) ?_
                refine lv_dup hx hb dX5_moves_179 rfl ?_
                refine m_get_5 X G (by decide +kernel) dX5_moves_180 ?_
                refine lv_iconst (v := 1) hx hb dX5_moves_183 (by decide) ?_
                refine lv_isub hx hb dX5_moves_184 ?_
                refine m_put_5 X G (by decide +kernel) dX5_moves_185 (fun H locs G => ?_)
                refine lv_goto (tgt := 250) hx hb dX5_moves_188 (by decide) ?_
                refine lv_iconst (v := 1) hx hb dX5_moves_250 (by decide) ?_
                exact m_zret X G hr hlocks rfl (by simp only [F_moves, eq_false c_3, eq_false c_16, eq_false c_22, eq_false c_65, hw_73, eq_false c_76, eq_false c_84, eq_true c_175, ↓reduceIte, si_self, sm_self, si_snd, sm_fst, si20_16, not_false_eq_true, not_true_eq_false, eq_self] <;> rfl) dX5_moves_251
            · have c_84 : c0 = 100 := c_84
              refine lv_aload_n hx hb dX5_moves_87 rfl (lv_at hl 0 rfl) ?_
              refine m_calli (As := []) (rest := []) X hml G hA (c_M_room l dC dI cI cJ h ad _ σ) (cwV 0 hts gX5_moves_X5_room rfl rfl rfl (by decide +kernel) ⟨Nat.le_of_ble_eq_true rfl, Nat.le_of_ble_eq_true rfl⟩) rfl hl.1 rfl (Nat.le_of_ble_eq_true rfl) dX5_moves_88 ⟨Nat.zero_le _, Nat.zero_le _⟩ (fun r_88 u_88 H locs hw_88 G => ?_)
              refine lv_if_ne (tgt := 96) hx hb dX5_moves_91 (by decide) (fun c_91 => ?_) (fun c_91 => ?_)
              · have c_91 : ¬ (r_88 = 0) := c_91
                obtain ⟨rfl, hroom⟩ := room_ok hw_88 c_91
                refine lv_aload_n hx hb dX5_moves_96 rfl (lv_at hl 0 rfl) ?_
                refine lv_aload_n hx hb dX5_moves_97 rfl (lv_at hl 0 rfl) ?_
                refine m_get_5 X G (by decide +kernel) dX5_moves_98 ?_
                refine lv_iconst (v := 1) hx hb dX5_moves_101 (by decide) ?_
                refine lv_isub hx hb dX5_moves_102 ?_
                refine lv_aload_n hx hb dX5_moves_103 rfl (lv_at hl 0 rfl) ?_
                refine m_get_5 X G (by decide +kernel) dX5_moves_104 ?_
                refine m_callv (As := [.int ((σ.1 5) - 1), .int (σ.1 5)]) (rest := []) X hml G hA (c_M_copy l dC dI cI cJ h ad _ σ ((σ.1 5) - 1) (σ.1 5) (ge0 (i_subE (rfl : (σ.1 5).toInt = _) (show (1 : Int32).toInt = 1 from rfl) (by omega) (by omega)) (by omega)) (ltn (i_subE (rfl : (σ.1 5).toInt = _) (show (1 : Int32).toInt = 1 from rfl) (by omega) (by omega)) (by omega)) (ge0 (rfl : (σ.1 5).toInt = _) (by omega)) (ltn (rfl : (σ.1 5).toInt = _) (by omega)) (fun h9 => (htx _ (cl_lt (ge0 (i_subE (rfl : (σ.1 5).toInt = _) (show (1 : Int32).toInt = 1 from rfl) (by omega) (by omega)) (by omega)) (ltn (i_subE (rfl : (σ.1 5).toInt = _) (show (1 : Int32).toInt = 1 from rfl) (by omega) (by omega)) (by omega))) h9).2)) (cwV 2 hts gX5_moves_X5_copy rfl rfl rfl (by decide +kernel) ⟨Nat.le_of_ble_eq_true rfl, Nat.le_of_ble_eq_true rfl⟩) rfl hl.1 rfl (Nat.le_of_ble_eq_true rfl) dX5_moves_107 ⟨Nat.zero_le _, Nat.zero_le _⟩ (fun u_107 H locs hw_107 G => ?_)
                obtain ⟨b2_107, a3_107, a4_107, rfl⟩ := copy_st hw_107
                have htx_107 := copy_tx htx hw_107 (ge0 (i_subE (rfl : (σ.1 5).toInt = _) (show (1 : Int32).toInt = 1 from rfl) (by omega) (by omega)) (by omega)) (ltn (i_subE (rfl : (σ.1 5).toInt = _) (show (1 : Int32).toInt = 1 from rfl) (by omega) (by omega)) (by omega))
                refine lv_aload_n hx hb dX5_moves_110 rfl (lv_at hl 0 rfl) ?_
                refine lv_dup hx hb dX5_moves_111 rfl ?_
                refine m_get_5 X G (by decide +kernel) dX5_moves_112 ?_
                refine lv_iconst (v := 1) hx hb dX5_moves_115 (by decide) ?_
                refine lv_iadd hx hb dX5_moves_116 ?_
                refine m_put_5 X G (by decide +kernel) dX5_moves_117 (fun H locs G => ?_)
                refine lv_goto (tgt := 250) hx hb dX5_moves_120 (by decide) ?_
                refine lv_iconst (v := 1) hx hb dX5_moves_250 (by decide) ?_
                exact m_zret X G hr hlocks rfl (by simp only [F_moves, eq_false c_3, eq_false c_16, eq_false c_22, eq_false c_65, hw_73, eq_false c_76, eq_true c_84, hw_88, eq_false c_91, hw_107, ↓reduceIte, si_self, sm_self, si_snd, sm_fst, si20_16, not_false_eq_true, not_true_eq_false, eq_self] <;> rfl) dX5_moves_251
              · have c_91 : r_88 = 0 := c_91
                refine lv_iconst (v := 0) hx hb dX5_moves_94 (by decide) ?_
                exact m_zret X G hr hlocks rfl (by simp only [F_moves, eq_false c_3, eq_false c_16, eq_false c_22, eq_false c_65, hw_73, eq_false c_76, eq_true c_84, hw_88, eq_true c_91, ↓reduceIte, si_self, sm_self, si_snd, sm_fst, si20_16, not_false_eq_true, not_true_eq_false, eq_self] <;> rfl) dX5_moves_95
          · have c_76 : r_73 = 0 := c_76
            refine lv_iconst (v := 0) hx hb dX5_moves_79 (by decide) ?_
            exact m_zret X G hr hlocks rfl (by simp only [F_moves, eq_false c_3, eq_false c_16, eq_false c_22, eq_false c_65, hw_73, eq_true c_76, ↓reduceIte, si_self, sm_self, si_snd, sm_fst, si20_16, not_false_eq_true, not_true_eq_false, eq_self] <;> rfl) dX5_moves_80
        · have c_65 : c0 = 114 := c_65
          refine lv_iconst (v := 2) hx hb dX5_moves_68 (by decide) ?_
          refine lv_goto (tgt := 73) hx hb dX5_moves_69 (by decide) ?_
          refine m_calli (As := [.int 2]) (rest := []) X hml G hA (c_M_have l dC dI cI cJ h ad _ σ 2) (cwV 1 hts gX5_moves_X5_have rfl rfl rfl (by decide +kernel) ⟨Nat.le_of_ble_eq_true rfl, Nat.le_of_ble_eq_true rfl⟩) rfl hl.1 rfl (Nat.le_of_ble_eq_true rfl) dX5_moves_73 ⟨Nat.zero_le _, Nat.zero_le _⟩ (fun r_73 u_73 H locs hw_73 G => ?_)
          refine lv_if_ne (tgt := 81) hx hb dX5_moves_76 (by decide) (fun c_76 => ?_) (fun c_76 => ?_)
          · have c_76 : ¬ (r_73 = 0) := c_76
            obtain ⟨rfl, hn⟩ := have_ok hw_73 c_76
            refine lv_iload_n hx hb dX5_moves_81 rfl (lv_at hl 1 rfl) ?_
            refine lv_bipush (v := 100) hx hb dX5_moves_82 (by decide) ?_
            refine lv_icmp_ne (tgt := 123) hx hb dX5_moves_84 (by decide) (fun c9 => ?_) (fun c9 => absurd c9 (show ¬ (c0 = 100) from by rw [c_65] <;> decide))
            refine lv_iload_n hx hb dX5_moves_123 rfl (lv_at hl 1 rfl) ?_
            refine lv_bipush (v := 114) hx hb dX5_moves_124 (by decide) ?_
            refine lv_icmp_ne (tgt := 172) hx hb dX5_moves_126 (by decide) (fun c9 => absurd (show c0 = 114 from by rw [c_65] <;> decide) c9) (fun c9 => ?_)
            refine lv_aload_n hx hb dX5_moves_129 rfl (lv_at hl 0 rfl) ?_
            refine lv_aload_n hx hb dX5_moves_130 rfl (lv_at hl 0 rfl) ?_
            refine m_get_5 X G (by decide +kernel) dX5_moves_131 ?_
            refine lv_iconst (v := 1) hx hb dX5_moves_134 (by decide) ?_
            refine lv_isub hx hb dX5_moves_135 ?_
            refine lv_bipush (v := 80) hx hb dX5_moves_136 (by decide) ?_
            refine m_callv (As := [.int ((σ.1 5) - 1), .int 80]) (rest := []) X hml G hA (c_M_copy l dC dI cI cJ h ad _ σ ((σ.1 5) - 1) 80 (ge0 (i_subE (rfl : (σ.1 5).toInt = _) (show (1 : Int32).toInt = 1 from rfl) (by omega) (by omega)) (by omega)) (ltn (i_subE (rfl : (σ.1 5).toInt = _) (show (1 : Int32).toInt = 1 from rfl) (by omega) (by omega)) (by omega)) (ge0 (show (80 : Int32).toInt = 80 from rfl) (by omega)) (ltn (show (80 : Int32).toInt = 80 from rfl) (by omega)) (fun h9 => (htx _ (cl_lt (ge0 (i_subE (rfl : (σ.1 5).toInt = _) (show (1 : Int32).toInt = 1 from rfl) (by omega) (by omega)) (by omega)) (ltn (i_subE (rfl : (σ.1 5).toInt = _) (show (1 : Int32).toInt = 1 from rfl) (by omega) (by omega)) (by omega))) h9).2)) (cwV 2 hts gX5_moves_X5_copy rfl rfl rfl (by decide +kernel) ⟨Nat.le_of_ble_eq_true rfl, Nat.le_of_ble_eq_true rfl⟩) rfl hl.1 rfl (Nat.le_of_ble_eq_true rfl) dX5_moves_138 ⟨Nat.zero_le _, Nat.zero_le _⟩ (fun u_138 H locs hw_138 G => ?_)
            obtain ⟨b2_138, a3_138, a4_138, rfl⟩ := copy_st hw_138
            have htx_138 := copy_tx htx hw_138 (ge0 (i_subE (rfl : (σ.1 5).toInt = _) (show (1 : Int32).toInt = 1 from rfl) (by omega) (by omega)) (by omega)) (ltn (i_subE (rfl : (σ.1 5).toInt = _) (show (1 : Int32).toInt = 1 from rfl) (by omega) (by omega)) (by omega))
            refine lv_aload_n hx hb dX5_moves_141 rfl (lv_at hl 0 rfl) ?_
            refine lv_aload_n hx hb dX5_moves_142 rfl (lv_at hl 0 rfl) ?_
            refine m_get_5 X G (by decide +kernel) dX5_moves_143 ?_
            refine lv_iconst (v := 2) hx hb dX5_moves_146 (by decide) ?_
            refine lv_isub hx hb dX5_moves_147 ?_
            refine lv_aload_n hx hb dX5_moves_148 rfl (lv_at hl 0 rfl) ?_
            refine m_get_5 X G (by decide +kernel) dX5_moves_149 ?_
            refine lv_iconst (v := 1) hx hb dX5_moves_152 (by decide) ?_
            refine lv_isub hx hb dX5_moves_153 ?_
            refine m_callv (As := [.int ((σ.1 5) - 2), .int ((σ.1 5) - 1)]) (rest := []) X hml G hA (c_M_copy l dC dI cI cJ h ad _ (scp σ b2_138 a3_138 a4_138) ((σ.1 5) - 2) ((σ.1 5) - 1) (ge0 (i_subE (rfl : (σ.1 5).toInt = _) (show (2 : Int32).toInt = 2 from rfl) (by omega) (by omega)) (by omega)) (ltn (i_subE (rfl : (σ.1 5).toInt = _) (show (2 : Int32).toInt = 2 from rfl) (by omega) (by omega)) (by omega)) (ge0 (i_subE (rfl : (σ.1 5).toInt = _) (show (1 : Int32).toInt = 1 from rfl) (by omega) (by omega)) (by omega)) (ltn (i_subE (rfl : (σ.1 5).toInt = _) (show (1 : Int32).toInt = 1 from rfl) (by omega) (by omega)) (by omega)) (fun h9 => (htx_138 _ (cl_lt (ge0 (i_subE (rfl : (σ.1 5).toInt = _) (show (2 : Int32).toInt = 2 from rfl) (by omega) (by omega)) (by omega)) (ltn (i_subE (rfl : (σ.1 5).toInt = _) (show (2 : Int32).toInt = 2 from rfl) (by omega) (by omega)) (by omega))) h9).2)) (cwV 2 hts gX5_moves_X5_copy rfl rfl rfl (by decide +kernel) ⟨Nat.le_of_ble_eq_true rfl, Nat.le_of_ble_eq_true rfl⟩) rfl hl.1 rfl (Nat.le_of_ble_eq_true rfl) dX5_moves_154 ⟨Nat.zero_le _, Nat.zero_le _⟩ (fun u_154 H locs hw_154 G => ?_)
            obtain ⟨b2_154, a3_154, a4_154, rfl⟩ := copy_st hw_154
            have htx_154 := copy_tx htx_138 hw_154 (ge0 (i_subE (rfl : (σ.1 5).toInt = _) (show (2 : Int32).toInt = 2 from rfl) (by omega) (by omega)) (by omega)) (ltn (i_subE (rfl : (σ.1 5).toInt = _) (show (2 : Int32).toInt = 2 from rfl) (by omega) (by omega)) (by omega))
            refine lv_aload_n hx hb dX5_moves_157 rfl (lv_at hl 0 rfl) ?_
            refine lv_bipush (v := 80) hx hb dX5_moves_158 (by decide) ?_
            refine lv_aload_n hx hb dX5_moves_160 rfl (lv_at hl 0 rfl) ?_
            refine m_get_5 X G (by decide +kernel) dX5_moves_161 ?_
            refine lv_iconst (v := 2) hx hb dX5_moves_164 (by decide) ?_
            refine lv_isub hx hb dX5_moves_165 ?_
            refine m_callv (As := [.int 80, .int ((σ.1 5) - 2)]) (rest := []) X hml G hA (c_M_copy l dC dI cI cJ h ad _ (scp (scp σ b2_138 a3_138 a4_138) b2_154 a3_154 a4_154) 80 ((σ.1 5) - 2) (ge0 (show (80 : Int32).toInt = 80 from rfl) (by omega)) (ltn (show (80 : Int32).toInt = 80 from rfl) (by omega)) (ge0 (i_subE (rfl : (σ.1 5).toInt = _) (show (2 : Int32).toInt = 2 from rfl) (by omega) (by omega)) (by omega)) (ltn (i_subE (rfl : (σ.1 5).toInt = _) (show (2 : Int32).toInt = 2 from rfl) (by omega) (by omega)) (by omega)) (fun h9 => (htx_154 _ (cl_lt (ge0 (show (80 : Int32).toInt = 80 from rfl) (by omega)) (ltn (show (80 : Int32).toInt = 80 from rfl) (by omega))) h9).2)) (cwV 2 hts gX5_moves_X5_copy rfl rfl rfl (by decide +kernel) ⟨Nat.le_of_ble_eq_true rfl, Nat.le_of_ble_eq_true rfl⟩) rfl hl.1 rfl (Nat.le_of_ble_eq_true rfl) dX5_moves_166 ⟨Nat.zero_le _, Nat.zero_le _⟩ (fun u_166 H locs hw_166 G => ?_)
            obtain ⟨b2_166, a3_166, a4_166, rfl⟩ := copy_st hw_166
            have htx_166 := copy_tx htx_154 hw_166 (ge0 (show (80 : Int32).toInt = 80 from rfl) (by omega)) (ltn (show (80 : Int32).toInt = 80 from rfl) (by omega))
            refine lv_goto (tgt := 250) hx hb dX5_moves_169 (by decide) ?_
            refine lv_iconst (v := 1) hx hb dX5_moves_250 (by decide) ?_
            exact m_zret X G hr hlocks rfl (by simp only [F_moves, eq_false c_3, eq_false c_16, eq_false c_22, eq_true c_65, hw_73, eq_false c_76, hw_138, hw_154, hw_166, ↓reduceIte, si_self, sm_self, si_snd, sm_fst, si20_16, not_false_eq_true, not_true_eq_false, eq_self] <;> rfl) dX5_moves_251
          · have c_76 : r_73 = 0 := c_76
            refine lv_iconst (v := 0) hx hb dX5_moves_79 (by decide) ?_
            exact m_zret X G hr hlocks rfl (by simp only [F_moves, eq_false c_3, eq_false c_16, eq_false c_22, eq_true c_65, hw_73, eq_true c_76, ↓reduceIte, si_self, sm_self, si_snd, sm_fst, si20_16, not_false_eq_true, not_true_eq_false, eq_self] <;> rfl) dX5_moves_80
      · have c_22 : c0 = 75 := c_22
        refine lv_aload_n hx hb dX5_moves_25 rfl (lv_at hl 0 rfl) ?_
        refine m_calli (As := []) (rest := []) X hml G hA (c_M_room l dC dI cI cJ h ad _ σ) (cwV 0 hts gX5_moves_X5_room rfl rfl rfl (by decide +kernel) ⟨Nat.le_of_ble_eq_true rfl, Nat.le_of_ble_eq_true rfl⟩) rfl hl.1 rfl (Nat.le_of_ble_eq_true rfl) dX5_moves_26 ⟨Nat.zero_le _, Nat.zero_le _⟩ (fun r_26 u_26 H locs hw_26 G => ?_)
        refine lv_if_ne (tgt := 34) hx hb dX5_moves_29 (by decide) (fun c_29 => ?_) (fun c_29 => ?_)
        · have c_29 : ¬ (r_26 = 0) := c_29
          obtain ⟨rfl, hroom⟩ := room_ok hw_26 c_29
          refine lv_aload_n hx hb dX5_moves_34 rfl (lv_at hl 0 rfl) ?_
          refine lv_iconst (v := 0) hx hb dX5_moves_35 (by decide) ?_
          refine lv_iload_n hx hb dX5_moves_36 rfl (lv_at hl 1 rfl) ?_
          refine lv_bipush (v := 122) hx hb dX5_moves_37 (by decide) ?_
          refine lv_icmp_ne (tgt := 50) hx hb dX5_moves_39 (by decide) (fun c9 => ?_) (fun c9 => absurd c9 (show ¬ (c0 = 122) from by rw [c_22] <;> decide))
          refine lv_aload_n hx hb dX5_moves_50 rfl (lv_at hl 0 rfl) ?_
          refine m_get_6 X G (by decide +kernel) dX5_moves_51 ?_
          refine lv_i2l hx hb dX5_moves_54 rfl ?_
          refine lv_iconst (v := 0) hx hb dX5_moves_55 (by decide) ?_
          refine m_callv (As := [.int 0, .long ((σ.1 6).toInt64), .int 0]) (rest := []) X hml G hA (c_M_put l dC dI cI cJ h ad _ σ 0 ((σ.1 6).toInt64) 0 (show 0 ≤ (σ.1 5).toInt - (0 : Int32).toInt from by omega) (show (σ.1 5).toInt - (0 : Int32).toInt < 82 from by omega)) (cwV 3 hts gX5_moves_X5_put rfl rfl rfl (by decide +kernel) ⟨Nat.le_of_ble_eq_true rfl, Nat.le_of_ble_eq_true rfl⟩) rfl hl.1 rfl (Nat.le_of_ble_eq_true rfl) dX5_moves_56 ⟨Nat.zero_le _, Nat.zero_le _⟩ (fun u_56 H locs hw_56 G => ?_)
          subst hw_56
          refine lv_iconst (v := 1) hx hb dX5_moves_59 (by decide) ?_
          exact m_zret X G hr hlocks rfl (by simp only [F_moves, eq_false c_3, eq_false c_16, eq_true c_22, hw_26, eq_false c_29, ↓reduceIte, si_self, sm_self, si_snd, sm_fst, si20_16, not_false_eq_true, not_true_eq_false, eq_self] <;> rfl) dX5_moves_60
        · have c_29 : r_26 = 0 := c_29
          refine lv_iconst (v := 0) hx hb dX5_moves_32 (by decide) ?_
          exact m_zret X G hr hlocks rfl (by simp only [F_moves, eq_false c_3, eq_false c_16, eq_true c_22, hw_26, eq_true c_29, ↓reduceIte, si_self, sm_self, si_snd, sm_fst, si20_16, not_false_eq_true, not_true_eq_false, eq_self] <;> rfl) dX5_moves_33
  · have c_3 : c0 = 99 := c_3
    refine lv_aload_n hx hb dX5_moves_6 rfl (lv_at hl 0 rfl) ?_
    refine lv_iconst (v := 0) hx hb dX5_moves_7 (by decide) ?_
    refine m_put_5 X G (by decide +kernel) dX5_moves_8 (fun H locs G => ?_)
    refine lv_iconst (v := 1) hx hb dX5_moves_11 (by decide) ?_
    exact m_zret X G hr hlocks rfl (by simp only [F_moves, eq_true c_3, ↓reduceIte, si_self, sm_self, si_snd, sm_fst, si20_16, not_false_eq_true, not_true_eq_false, eq_self] <;> rfl) dX5_moves_12
theorem topOf_sa {σ : MS} {r v d : Int32} {x : Int} (h0 : 0 ≤ r.toInt) (h1 : r.toInt < 4) (hv : v.toInt = x) (h2 : 0 ≤ x) (h3 : x ≤ 10) : (F_topOf (si (sa σ 7 r.toNatClampNeg v) 5 d) r).toInt = 40 + 10 * r.toInt + x - 1 := by
  subst hv
  have e : F_topOf (si (sa σ 7 r.toNatClampNeg v) 5 d) r = 40 + 10 * r + v - 1 := by simp [F_topOf, si, sa, upd]
  rw [e]
  exact i_subE (i_addE (i_addE (show (40 : Int32).toInt = 40 from rfl) (i_mulE (show (10 : Int32).toInt = 10 from rfl) rfl (by omega) (by omega)) (by omega) (by omega)) rfl (by omega) (by omega)) (show (1 : Int32).toInt = 1 from rfl) (by omega) (by omega)
theorem i_ne {a b : Int32} (h : ¬ a = b) : a.toInt ≠ b.toInt := fun e => h (Int32.toInt_inj.mp e)
theorem isDone_si5 {σ : MS} {v i : Int32} : F_isDone (si σ 5 v) i = F_isDone σ i := by
  have h : ∀ (fu : Nat) (a b : Int32), F_isDone_L9 i fu a b (si σ 5 v) = F_isDone_L9 i fu a b σ := by
    intro fu
    induction fu with
    | zero => intro a b; rfl
    | succ fu ih => intro a b; simp only [F_isDone_L9, ih]; rfl
  exact h _ _ _
theorem reg_ok {c : Int32} (h : ¬ f_within c.toInt64 97 100 = 0) : 0 ≤ (f_register c).toInt ∧ (f_register c).toInt < 4 := by
  unfold f_within at h
  split at h
  · exact absurd rfl h
  · rename_i h1
    split at h
    · exact absurd rfl h
    · rename_i h2
      rw [Int64.lt_iff_toInt_lt, Int32.toInt_toInt64] at h1 h2
      have e1 : (97 : Int64).toInt = 97 := rfl
      have e2 : (100 : Int64).toInt = 100 := rfl
      rw [e1] at h1; rw [e2] at h2
      have e3 : (f_register c).toInt = c.toInt - 97 := i_subE rfl rfl (by omega) (by omega)
      rw [e3]; omega
def F_stores (σ : MS) (c0 : Int32) (r0 : Int32) : Int32 × MS := if c0 = 115 then (let q_14 := F_have σ 1; if q_14.1 = 0 then ((0, q_14.2)) else if (σ.2.2.1 7 r0.toNatClampNeg) = 0 then (let q_98 := F_copy (si (sa σ 7 r0.toNatClampNeg ((σ.2.2.1 7 r0.toNatClampNeg) + 1)) 5 ((σ.1 5) - 1)) ((σ.1 5) - 1) (F_topOf (si (sa σ 7 r0.toNatClampNeg ((σ.2.2.1 7 r0.toNatClampNeg) + 1)) 5 ((σ.1 5) - 1)) r0); (1, (scp (si (sa σ 7 r0.toNatClampNeg ((σ.2.2.1 7 r0.toNatClampNeg) + 1)) 5 ((σ.1 5) - 1)) (q_98.2.2.2 2) (q_98.2.2.1 3) (q_98.2.2.1 4)))) else let q_98 := F_copy (si σ 5 ((σ.1 5) - 1)) ((σ.1 5) - 1) (F_topOf (si σ 5 ((σ.1 5) - 1)) r0); (1, (scp (si σ 5 ((σ.1 5) - 1)) (q_98.2.2.2 2) (q_98.2.2.1 3) (q_98.2.2.1 4)))) else if c0 = 83 then (let q_14 := F_have σ 1; if q_14.1 = 0 then ((0, q_14.2)) else if (σ.2.2.1 7 r0.toNatClampNeg) = 10 then ((0, (si σ 16 5))) else let q_98 := F_copy (si (sa σ 7 r0.toNatClampNeg ((σ.2.2.1 7 r0.toNatClampNeg) + 1)) 5 ((σ.1 5) - 1)) ((σ.1 5) - 1) (F_topOf (si (sa σ 7 r0.toNatClampNeg ((σ.2.2.1 7 r0.toNatClampNeg) + 1)) 5 ((σ.1 5) - 1)) r0); (1, (scp (si (sa σ 7 r0.toNatClampNeg ((σ.2.2.1 7 r0.toNatClampNeg) + 1)) 5 ((σ.1 5) - 1)) (q_98.2.2.2 2) (q_98.2.2.1 3) (q_98.2.2.1 4)))) else if (σ.2.2.1 7 r0.toNatClampNeg) = 0 then ((0, (si σ 16 2))) else let q_119 := F_room σ; if q_119.1 = 0 then ((0, q_119.2)) else let q_137 := F_copy σ (F_topOf σ r0) (σ.1 5); if c0 = 76 then ((1, (sa (si (scp σ (q_137.2.2.2 2) (q_137.2.2.1 3) (q_137.2.2.1 4)) 5 ((σ.1 5) + 1)) 7 r0.toNatClampNeg ((σ.2.2.1 7 r0.toNatClampNeg) - 1)))) else (1, (si (scp σ (q_137.2.2.2 2) (q_137.2.2.1 3) (q_137.2.2.1 4)) 5 ((σ.1 5) + 1)))
set_option maxHeartbeats 4000000 in
set_option maxRecDepth 100000 in
theorem c_M_stores (l : Launch) (dC : Nat → ClassId) (dI : Nat → Nat → Nat) (cI cJ : ClassId) (h : Nat) (ad : Nat → Nat) (sz : Nat) (σ : MS) (c0 : Int32) (r0 : Int32) (hd0 : 0 ≤ (σ.1 5).toInt) (hd : (σ.1 5).toInt ≤ 40) (htx : tx (σ.2.2.1 3) (σ.2.2.2 2)) (hr0 : 0 ≤ r0.toInt) (hr1 : r0.toInt < 4) (hh0 : 0 ≤ (σ.2.2.1 7 r0.toNatClampNeg).toInt) (hh1 : (σ.2.2.1 7 r0.toNatClampNeg).toInt ≤ 10) : Met l yX5_stores wsX5_stores ({ frames := 2, cells := 0, slots := 0, locals := 42 } : Room) (va_Pc [.ref h, .int c0, .int r0] (mPre dC dI cI cJ h ad sz σ)) (va_Qi (fun r u => F_stores σ c0 r0 = (r, u)) (mAt dC dI cI cJ h ad (mA h ad cI cJ σ sz)) (mA h ad cI cJ σ sz)) 0 0 (mA h ad cI cJ σ sz) := by
  refine m_ofW (cc := cX5_stores) (maxL := 4) (ret := (some .boolean)) (by decide) rfl (by decide +kernel) rfl (Nat.le_of_ble_eq_true rfl) ?_
  intro p e s m below meth c X G hA hr hlocks hml ls hl
  have hl : lv_has ls 4 [(0, .ref h), (1, .int c0), (2, .int r0)] := hl
  have hx := X.1
  have hb := X.2.1
  have hts := X.2.2.1
  have hown := X.2.2.2.2.1
  have z0 : (0 : Int32).toInt = 0 := rfl
  have z1 : (1 : Int32).toInt = 1 := rfl
  have z2 : (2 : Int32).toInt = 2 := rfl
  have z10 : (10 : Int32).toInt = 10 := rfl
  refine lv_iload_n hx hb dX5_stores_0 rfl (lv_at hl 1 rfl) ?_
  refine lv_bipush (v := 115) hx hb dX5_stores_1 (by decide) ?_
  refine lv_icmp_eq (tgt := 12) hx hb dX5_stores_3 (by decide) (fun c_3 => ?_) (fun c_3 => ?_)
  · have c_3 : c0 = 115 := c_3
    refine lv_aload_n hx hb dX5_stores_12 rfl (lv_at hl 0 rfl) ?_
    refine lv_iconst (v := 1) hx hb dX5_stores_13 (by decide) ?_
    refine m_calli (As := [.int 1]) (rest := []) X hml G hA (c_M_have l dC dI cI cJ h ad _ σ 1) (cwV 1 hts gX5_stores_X5_have rfl rfl rfl (by decide +kernel) ⟨Nat.le_of_ble_eq_true rfl, Nat.le_of_ble_eq_true rfl⟩) rfl hl.1 rfl (Nat.le_of_ble_eq_true rfl) dX5_stores_14 ⟨Nat.zero_le _, Nat.zero_le _⟩ (fun r_14 u_14 H locs hw_14 G => ?_)
    refine lv_if_ne (tgt := 22) hx hb dX5_stores_17 (by decide) (fun c_17 => ?_) (fun c_17 => ?_)
    · have c_17 : ¬ (r_14 = 0) := c_17
      obtain ⟨rfl, hn⟩ := have_ok hw_14 c_17
      refine lv_iload_n hx hb dX5_stores_22 rfl (lv_at hl 1 rfl) ?_
      refine lv_bipush (v := 83) hx hb dX5_stores_23 (by decide) ?_
      refine lv_icmp_eq (tgt := 37) hx hb dX5_stores_25 (by decide) (fun c9 => absurd c9 (show ¬ (c0 = 83) from by rw [c_3] <;> decide)) (fun c9 => ?_)
      refine lv_aload_n hx hb dX5_stores_28 rfl (lv_at hl 0 rfl) ?_
      refine m_get_7 X G (by decide +kernel) dX5_stores_29 ?_
      refine lv_iload_n hx hb dX5_stores_32 rfl (lv_at hl 2 rfl) ?_
      refine m_ld_7 X G (vin (rfl : r0.toInt = _) (by omega) (by omega)) dX5_stores_33 ?_
      refine lv_if_ne (tgt := 41) hx hb dX5_stores_34 (by decide) (fun c_34 => ?_) (fun c_34 => ?_)
      · have c_34 : ¬ ((σ.2.2.1 7 r0.toNatClampNeg) = 0) := c_34
        refine lv_iconst (v := 0) hx hb dX5_stores_41 (by decide) ?_
        refine lv_istore_n (lv' := [(3, .int 0), (0, .ref h), (1, .int c0), (2, .int r0)]) hx hb dX5_stores_42 rfl hl (by decide) rfl (fun ls hl => ?_)
        refine lv_iload_n hx hb dX5_stores_43 rfl (lv_at hl 0 rfl) ?_
        refine lv_if_eq (tgt := 64) hx hb dX5_stores_44 (by decide) (fun c9 => ?_) (fun c9 => absurd (show (0 : Int32) = 0 from by decide) c9)
        refine lv_iload_n hx hb dX5_stores_64 rfl (lv_at hl 0 rfl) ?_
        refine lv_if_eq (tgt := 78) hx hb dX5_stores_65 (by decide) (fun c9 => ?_) (fun c9 => absurd (show (0 : Int32) = 0 from by decide) c9)
        refine lv_aload_n hx hb dX5_stores_78 rfl (lv_at hl 1 rfl) ?_
        refine lv_dup hx hb dX5_stores_79 rfl ?_
        refine m_get_5 X G (by decide +kernel) dX5_stores_80 ?_
        refine lv_iconst (v := 1) hx hb dX5_stores_83 (by decide) ?_
        refine lv_isub hx hb dX5_stores_84 ?_
        refine m_put_5 X G (by decide +kernel) dX5_stores_85 (fun H locs G => ?_)
        refine lv_aload_n hx hb dX5_stores_88 rfl (lv_at hl 1 rfl) ?_
        refine lv_aload_n hx hb dX5_stores_89 rfl (lv_at hl 1 rfl) ?_
        refine m_get_5 X G (by decide +kernel) dX5_stores_90 ?_
        refine lv_aload_n hx hb dX5_stores_93 rfl (lv_at hl 1 rfl) ?_
        refine lv_iload_n hx hb dX5_stores_94 rfl (lv_at hl 3 rfl) ?_
        refine m_calli (As := [.int r0]) (rest := [.int ((σ.1 5) - 1), .ref h]) X hml G hA (c_M_topOf l dC dI cI cJ h ad _ (si σ 5 ((σ.1 5) - 1)) r0 hr0 hr1) (cwV 1 hts gX5_stores_X5_topOf rfl rfl rfl (by decide +kernel) ⟨Nat.le_of_ble_eq_true rfl, Nat.le_of_ble_eq_true rfl⟩) rfl hl.1 rfl (Nat.le_of_ble_eq_true rfl) dX5_stores_95 ⟨Nat.zero_le _, Nat.zero_le _⟩ (fun r_95 u_95 H locs hw_95 G => ?_)
        obtain ⟨rfl, hu_95⟩ := hw_95
        rw [hu_95] at G
        have hT := topOf_v (σ := (si σ 5 ((σ.1 5) - 1))) hr0 hr1 hh0 hh1
        refine m_callv (As := [.int ((σ.1 5) - 1), .int (F_topOf (si σ 5 ((σ.1 5) - 1)) r0)]) (rest := []) X hml G hA (c_M_copy l dC dI cI cJ h ad _ (si σ 5 ((σ.1 5) - 1)) ((σ.1 5) - 1) (F_topOf (si σ 5 ((σ.1 5) - 1)) r0) (ge0 (i_subE (rfl : (σ.1 5).toInt = _) (show (1 : Int32).toInt = 1 from rfl) (by omega) (by omega)) (by omega)) (ltn (i_subE (rfl : (σ.1 5).toInt = _) (show (1 : Int32).toInt = 1 from rfl) (by omega) (by omega)) (by omega)) (ge0 hT (by omega)) (ltn hT (by omega)) (fun h9 => (htx _ (cl_lt (ge0 (i_subE (rfl : (σ.1 5).toInt = _) (show (1 : Int32).toInt = 1 from rfl) (by omega) (by omega)) (by omega)) (ltn (i_subE (rfl : (σ.1 5).toInt = _) (show (1 : Int32).toInt = 1 from rfl) (by omega) (by omega)) (by omega))) h9).2)) (cwV 2 hts gX5_stores_X5_copy rfl rfl rfl (by decide +kernel) ⟨Nat.le_of_ble_eq_true rfl, Nat.le_of_ble_eq_true rfl⟩) rfl hl.1 rfl (Nat.le_of_ble_eq_true rfl) dX5_stores_98 ⟨Nat.zero_le _, Nat.zero_le _⟩ (fun u_98 H locs hw_98 G => ?_)
        obtain ⟨b2_98, a3_98, a4_98, rfl⟩ := copy_st hw_98
        have htx_98 := copy_tx htx hw_98 (ge0 (i_subE (rfl : (σ.1 5).toInt = _) (show (1 : Int32).toInt = 1 from rfl) (by omega) (by omega)) (by omega)) (ltn (i_subE (rfl : (σ.1 5).toInt = _) (show (1 : Int32).toInt = 1 from rfl) (by omega) (by omega)) (by omega))
        refine lv_iconst (v := 1) hx hb dX5_stores_101 (by decide) ?_
        exact m_zret X G hr hlocks rfl (by simp only [F_stores, eq_true c_3, hw_14, eq_false c_17, eq_false c_34, hw_98, ↓reduceIte, si_self, sm_self, si_snd, sm_fst, si20_16, not_false_eq_true, not_true_eq_false, eq_self] <;> rfl) dX5_stores_102
      · have c_34 : (σ.2.2.1 7 r0.toNatClampNeg) = 0 := c_34
        have h34 : (σ.2.2.1 7 r0.toNatClampNeg).toInt = 0 := by rw [c_34]; rfl
        refine lv_iconst (v := 1) hx hb dX5_stores_37 (by decide) ?_
        refine lv_goto (tgt := 42) hx hb dX5_stores_38 (by decide) ?_
        refine lv_istore_n (lv' := [(3, .int 1), (0, .ref h), (1, .int c0), (2, .int r0)]) hx hb dX5_stores_42 rfl hl (by decide) rfl (fun ls hl => ?_)
        refine lv_iload_n hx hb dX5_stores_43 rfl (lv_at hl 0 rfl) ?_
        refine lv_if_eq (tgt := 64) hx hb dX5_stores_44 (by decide) (fun c9 => absurd c9 (show ¬ ((1 : Int32) = 0) from by decide)) (fun c9 => ?_)
        refine lv_aload_n hx hb dX5_stores_47 rfl (lv_at hl 1 rfl) ?_
        refine m_get_7 X G (by decide +kernel) dX5_stores_48 ?_
        refine lv_iload_n hx hb dX5_stores_51 rfl (lv_at hl 3 rfl) ?_
        refine m_ld_7 X G (vin (rfl : r0.toInt = _) (by omega) (by omega)) dX5_stores_52 ?_
        refine lv_bipush (v := 10) hx hb dX5_stores_53 (by decide) ?_
        refine lv_icmp_ne (tgt := 64) hx hb dX5_stores_55 (by decide) (fun c9 => ?_) (fun c9 => absurd c9 (show ¬ ((σ.2.2.1 7 r0.toNatClampNeg) = 10) from by rw [c_34] <;> decide))
        refine lv_iload_n hx hb dX5_stores_64 rfl (lv_at hl 0 rfl) ?_
        refine lv_if_eq (tgt := 78) hx hb dX5_stores_65 (by decide) (fun c9 => absurd c9 (show ¬ ((1 : Int32) = 0) from by decide)) (fun c9 => ?_)
        refine lv_aload_n hx hb dX5_stores_68 rfl (lv_at hl 1 rfl) ?_
        refine m_get_7 X G (by decide +kernel) dX5_stores_69 ?_
        refine lv_iload_n hx hb dX5_stores_72 rfl (lv_at hl 3 rfl) ?_
        refine lv_dup2_11 hx hb dX5_stores_73 rfl rfl ?_
        refine m_ld_7 X G (vin (rfl : r0.toInt = _) (by omega) (by omega)) dX5_stores_74 ?_
        refine lv_iconst (v := 1) hx hb dX5_stores_75 (by decide) ?_
        refine lv_iadd hx hb dX5_stores_76 ?_
        refine m_st_7 X G (vin (rfl : r0.toInt = _) (by omega) (by omega)) dX5_stores_77 (fun H locs G => ?_)
        refine lv_aload_n hx hb dX5_stores_78 rfl (lv_at hl 1 rfl) ?_
        refine lv_dup hx hb dX5_stores_79 rfl ?_
        refine m_get_5 X G (by decide +kernel) dX5_stores_80 ?_
        refine lv_iconst (v := 1) hx hb dX5_stores_83 (by decide) ?_
        refine lv_isub hx hb dX5_stores_84 ?_
        refine m_put_5 X G (by decide +kernel) dX5_stores_85 (fun H locs G => ?_)
        refine lv_aload_n hx hb dX5_stores_88 rfl (lv_at hl 1 rfl) ?_
        refine lv_aload_n hx hb dX5_stores_89 rfl (lv_at hl 1 rfl) ?_
        refine m_get_5 X G (by decide +kernel) dX5_stores_90 ?_
        refine lv_aload_n hx hb dX5_stores_93 rfl (lv_at hl 1 rfl) ?_
        refine lv_iload_n hx hb dX5_stores_94 rfl (lv_at hl 3 rfl) ?_
        refine m_calli (As := [.int r0]) (rest := [.int ((σ.1 5) - 1), .ref h]) X hml G hA (c_M_topOf l dC dI cI cJ h ad _ (si (sa σ 7 r0.toNatClampNeg ((σ.2.2.1 7 r0.toNatClampNeg) + 1)) 5 ((σ.1 5) - 1)) r0 hr0 hr1) (cwV 1 hts gX5_stores_X5_topOf rfl rfl rfl (by decide +kernel) ⟨Nat.le_of_ble_eq_true rfl, Nat.le_of_ble_eq_true rfl⟩) rfl hl.1 rfl (Nat.le_of_ble_eq_true rfl) dX5_stores_95 ⟨Nat.zero_le _, Nat.zero_le _⟩ (fun r_95 u_95 H locs hw_95 G => ?_)
        obtain ⟨rfl, hu_95⟩ := hw_95
        rw [hu_95] at G
        have hT := topOf_sa (σ := σ) (d := ((σ.1 5) - 1)) hr0 hr1 (i_addE (rfl : (σ.2.2.1 7 r0.toNatClampNeg).toInt = _) (show (1 : Int32).toInt = 1 from rfl) (by omega) (by omega)) (by omega) (by omega)
        refine m_callv (As := [.int ((σ.1 5) - 1), .int (F_topOf (si (sa σ 7 r0.toNatClampNeg ((σ.2.2.1 7 r0.toNatClampNeg) + 1)) 5 ((σ.1 5) - 1)) r0)]) (rest := []) X hml G hA (c_M_copy l dC dI cI cJ h ad _ (si (sa σ 7 r0.toNatClampNeg ((σ.2.2.1 7 r0.toNatClampNeg) + 1)) 5 ((σ.1 5) - 1)) ((σ.1 5) - 1) (F_topOf (si (sa σ 7 r0.toNatClampNeg ((σ.2.2.1 7 r0.toNatClampNeg) + 1)) 5 ((σ.1 5) - 1)) r0) (ge0 (i_subE (rfl : (σ.1 5).toInt = _) (show (1 : Int32).toInt = 1 from rfl) (by omega) (by omega)) (by omega)) (ltn (i_subE (rfl : (σ.1 5).toInt = _) (show (1 : Int32).toInt = 1 from rfl) (by omega) (by omega)) (by omega)) (ge0 hT (by omega)) (ltn hT (by omega)) (fun h9 => (htx _ (cl_lt (ge0 (i_subE (rfl : (σ.1 5).toInt = _) (show (1 : Int32).toInt = 1 from rfl) (by omega) (by omega)) (by omega)) (ltn (i_subE (rfl : (σ.1 5).toInt = _) (show (1 : Int32).toInt = 1 from rfl) (by omega) (by omega)) (by omega))) h9).2)) (cwV 2 hts gX5_stores_X5_copy rfl rfl rfl (by decide +kernel) ⟨Nat.le_of_ble_eq_true rfl, Nat.le_of_ble_eq_true rfl⟩) rfl hl.1 rfl (Nat.le_of_ble_eq_true rfl) dX5_stores_98 ⟨Nat.zero_le _, Nat.zero_le _⟩ (fun u_98 H locs hw_98 G => ?_)
        obtain ⟨b2_98, a3_98, a4_98, rfl⟩ := copy_st hw_98
        have htx_98 := copy_tx htx hw_98 (ge0 (i_subE (rfl : (σ.1 5).toInt = _) (show (1 : Int32).toInt = 1 from rfl) (by omega) (by omega)) (by omega)) (ltn (i_subE (rfl : (σ.1 5).toInt = _) (show (1 : Int32).toInt = 1 from rfl) (by omega) (by omega)) (by omega))
        refine lv_iconst (v := 1) hx hb dX5_stores_101 (by decide) ?_
        exact m_zret X G hr hlocks rfl (by simp only [F_stores, eq_true c_3, hw_14, eq_false c_17, eq_true c_34, hw_98, ↓reduceIte, si_self, sm_self, si_snd, sm_fst, si20_16, not_false_eq_true, not_true_eq_false, eq_self] <;> rfl) dX5_stores_102
    · have c_17 : r_14 = 0 := c_17
      refine lv_iconst (v := 0) hx hb dX5_stores_20 (by decide) ?_
      exact m_zret X G hr hlocks rfl (by simp only [F_stores, eq_true c_3, hw_14, eq_true c_17, ↓reduceIte, si_self, sm_self, si_snd, sm_fst, si20_16, not_false_eq_true, not_true_eq_false, eq_self] <;> rfl) dX5_stores_21
  · have c_3 : ¬ (c0 = 115) := c_3
    refine lv_iload_n hx hb dX5_stores_6 rfl (lv_at hl 1 rfl) ?_
    refine lv_bipush (v := 83) hx hb dX5_stores_7 (by decide) ?_
    refine lv_icmp_ne (tgt := 103) hx hb dX5_stores_9 (by decide) (fun c_9 => ?_) (fun c_9 => ?_)
    · have c_9 : ¬ (c0 = 83) := c_9
      refine lv_aload_n hx hb dX5_stores_103 rfl (lv_at hl 0 rfl) ?_
      refine m_get_7 X G (by decide +kernel) dX5_stores_104 ?_
      refine lv_iload_n hx hb dX5_stores_107 rfl (lv_at hl 2 rfl) ?_
      refine m_ld_7 X G (vin (rfl : r0.toInt = _) (by omega) (by omega)) dX5_stores_108 ?_
      refine lv_if_ne (tgt := 118) hx hb dX5_stores_109 (by decide) (fun c_109 => ?_) (fun c_109 => ?_)
      · have c_109 : ¬ ((σ.2.2.1 7 r0.toNatClampNeg) = 0) := c_109
        refine lv_aload_n hx hb dX5_stores_118 rfl (lv_at hl 0 rfl) ?_
        refine m_calli (As := []) (rest := []) X hml G hA (c_M_room l dC dI cI cJ h ad _ σ) (cwV 0 hts gX5_stores_X5_room rfl rfl rfl (by decide +kernel) ⟨Nat.le_of_ble_eq_true rfl, Nat.le_of_ble_eq_true rfl⟩) rfl hl.1 rfl (Nat.le_of_ble_eq_true rfl) dX5_stores_119 ⟨Nat.zero_le _, Nat.zero_le _⟩ (fun r_119 u_119 H locs hw_119 G => ?_)
        refine lv_if_ne (tgt := 127) hx hb dX5_stores_122 (by decide) (fun c_122 => ?_) (fun c_122 => ?_)
        · have c_122 : ¬ (r_119 = 0) := c_122
          obtain ⟨rfl, hroom⟩ := room_ok hw_119 c_122
          refine lv_aload_n hx hb dX5_stores_127 rfl (lv_at hl 0 rfl) ?_
          refine lv_aload_n hx hb dX5_stores_128 rfl (lv_at hl 0 rfl) ?_
          refine lv_iload_n hx hb dX5_stores_129 rfl (lv_at hl 2 rfl) ?_
          refine m_calli (As := [.int r0]) (rest := [.ref h]) X hml G hA (c_M_topOf l dC dI cI cJ h ad _ σ r0 hr0 hr1) (cwV 1 hts gX5_stores_X5_topOf rfl rfl rfl (by decide +kernel) ⟨Nat.le_of_ble_eq_true rfl, Nat.le_of_ble_eq_true rfl⟩) rfl hl.1 rfl (Nat.le_of_ble_eq_true rfl) dX5_stores_130 ⟨Nat.zero_le _, Nat.zero_le _⟩ (fun r_130 u_130 H locs hw_130 G => ?_)
          obtain ⟨rfl, hu_130⟩ := hw_130
          rw [hu_130] at G
          refine lv_aload_n hx hb dX5_stores_133 rfl (lv_at hl 0 rfl) ?_
          refine m_get_5 X G (by decide +kernel) dX5_stores_134 ?_
          have hT := topOf_v (σ := σ) hr0 hr1 hh0 hh1
          refine m_callv (As := [.int (F_topOf σ r0), .int (σ.1 5)]) (rest := []) X hml G hA (c_M_copy l dC dI cI cJ h ad _ σ (F_topOf σ r0) (σ.1 5) (ge0 hT (by omega)) (ltn hT (by omega)) (ge0 (rfl : (σ.1 5).toInt = _) (by omega)) (ltn (rfl : (σ.1 5).toInt = _) (by omega)) (fun h9 => (htx _ (cl_lt (ge0 hT (by omega)) (ltn hT (by omega))) h9).2)) (cwV 2 hts gX5_stores_X5_copy rfl rfl rfl (by decide +kernel) ⟨Nat.le_of_ble_eq_true rfl, Nat.le_of_ble_eq_true rfl⟩) rfl hl.1 rfl (Nat.le_of_ble_eq_true rfl) dX5_stores_137 ⟨Nat.zero_le _, Nat.zero_le _⟩ (fun u_137 H locs hw_137 G => ?_)
          obtain ⟨b2_137, a3_137, a4_137, rfl⟩ := copy_st hw_137
          have htx_137 := copy_tx htx hw_137 (ge0 hT (by omega)) (ltn hT (by omega))
          refine lv_aload_n hx hb dX5_stores_140 rfl (lv_at hl 0 rfl) ?_
          refine lv_dup hx hb dX5_stores_141 rfl ?_
          refine m_get_5 X G (by decide +kernel) dX5_stores_142 ?_
          refine lv_iconst (v := 1) hx hb dX5_stores_145 (by decide) ?_
          refine lv_iadd hx hb dX5_stores_146 ?_
          refine m_put_5 X G (by decide +kernel) dX5_stores_147 (fun H locs G => ?_)
          refine lv_iload_n hx hb dX5_stores_150 rfl (lv_at hl 1 rfl) ?_
          refine lv_bipush (v := 76) hx hb dX5_stores_151 (by decide) ?_
          refine lv_icmp_ne (tgt := 166) hx hb dX5_stores_153 (by decide) (fun c_153 => ?_) (fun c_153 => ?_)
          · have c_153 : ¬ (c0 = 76) := c_153
            refine lv_iconst (v := 1) hx hb dX5_stores_166 (by decide) ?_
            exact m_zret X G hr hlocks rfl (by simp only [F_stores, eq_false c_3, eq_false c_9, eq_false c_109, hw_119, eq_false c_122, hw_137, eq_false c_153, ↓reduceIte, si_self, sm_self, si_snd, sm_fst, si20_16, not_false_eq_true, not_true_eq_false, eq_self] <;> rfl) dX5_stores_167
          · have c_153 : c0 = 76 := c_153
            refine lv_aload_n hx hb dX5_stores_156 rfl (lv_at hl 0 rfl) ?_
            refine m_get_7 X G (by decide +kernel) dX5_stores_157 ?_
            refine lv_iload_n hx hb dX5_stores_160 rfl (lv_at hl 2 rfl) ?_
            refine lv_dup2_11 hx hb dX5_stores_161 rfl rfl ?_
            refine m_ld_7 X G (vin (rfl : r0.toInt = _) (by omega) (by omega)) dX5_stores_162 ?_
            refine lv_iconst (v := 1) hx hb dX5_stores_163 (by decide) ?_
            refine lv_isub hx hb dX5_stores_164 ?_
            refine m_st_7 X G (vin (rfl : r0.toInt = _) (by omega) (by omega)) dX5_stores_165 (fun H locs G => ?_)
            refine lv_iconst (v := 1) hx hb dX5_stores_166 (by decide) ?_
            exact m_zret X G hr hlocks rfl (by simp only [F_stores, eq_false c_3, eq_false c_9, eq_false c_109, hw_119, eq_false c_122, hw_137, eq_true c_153, ↓reduceIte, si_self, sm_self, si_snd, sm_fst, si20_16, not_false_eq_true, not_true_eq_false, eq_self] <;> rfl) dX5_stores_167
        · have c_122 : r_119 = 0 := c_122
          refine lv_iconst (v := 0) hx hb dX5_stores_125 (by decide) ?_
          exact m_zret X G hr hlocks rfl (by simp only [F_stores, eq_false c_3, eq_false c_9, eq_false c_109, hw_119, eq_true c_122, ↓reduceIte, si_self, sm_self, si_snd, sm_fst, si20_16, not_false_eq_true, not_true_eq_false, eq_self] <;> rfl) dX5_stores_126
      · have c_109 : (σ.2.2.1 7 r0.toNatClampNeg) = 0 := c_109
        refine lv_aload_n hx hb dX5_stores_112 rfl (lv_at hl 0 rfl) ?_
        refine lv_iconst (v := 2) hx hb dX5_stores_113 (by decide) ?_
        refine m_calli (As := [.int 2]) (rest := []) X hml G hA (c_M_fail l dC dI cI cJ h ad _ σ 2) (cwV 1 hts gX5_stores_X5_fail rfl rfl rfl (by decide +kernel) ⟨Nat.le_of_ble_eq_true rfl, Nat.le_of_ble_eq_true rfl⟩) rfl hl.1 rfl (Nat.le_of_ble_eq_true rfl) dX5_stores_114 ⟨Nat.zero_le _, Nat.zero_le _⟩ (fun r_114 u_114 H locs hw_114 G => ?_)
        obtain ⟨rfl, rfl⟩ := hw_114
        exact m_zret X G hr hlocks rfl (by simp only [F_stores, eq_false c_3, eq_false c_9, eq_true c_109, ↓reduceIte, si_self, sm_self, si_snd, sm_fst, si20_16, not_false_eq_true, not_true_eq_false, eq_self] <;> rfl) dX5_stores_117
    · have c_9 : c0 = 83 := c_9
      refine lv_aload_n hx hb dX5_stores_12 rfl (lv_at hl 0 rfl) ?_
      refine lv_iconst (v := 1) hx hb dX5_stores_13 (by decide) ?_
      refine m_calli (As := [.int 1]) (rest := []) X hml G hA (c_M_have l dC dI cI cJ h ad _ σ 1) (cwV 1 hts gX5_stores_X5_have rfl rfl rfl (by decide +kernel) ⟨Nat.le_of_ble_eq_true rfl, Nat.le_of_ble_eq_true rfl⟩) rfl hl.1 rfl (Nat.le_of_ble_eq_true rfl) dX5_stores_14 ⟨Nat.zero_le _, Nat.zero_le _⟩ (fun r_14 u_14 H locs hw_14 G => ?_)
      refine lv_if_ne (tgt := 22) hx hb dX5_stores_17 (by decide) (fun c_17 => ?_) (fun c_17 => ?_)
      · have c_17 : ¬ (r_14 = 0) := c_17
        obtain ⟨rfl, hn⟩ := have_ok hw_14 c_17
        refine lv_iload_n hx hb dX5_stores_22 rfl (lv_at hl 1 rfl) ?_
        refine lv_bipush (v := 83) hx hb dX5_stores_23 (by decide) ?_
        refine lv_icmp_eq (tgt := 37) hx hb dX5_stores_25 (by decide) (fun c9 => ?_) (fun c9 => absurd (show c0 = 83 from by rw [c_9] <;> decide) c9)
        refine lv_iconst (v := 1) hx hb dX5_stores_37 (by decide) ?_
        refine lv_goto (tgt := 42) hx hb dX5_stores_38 (by decide) ?_
        refine lv_istore_n (lv' := [(3, .int 1), (0, .ref h), (1, .int c0), (2, .int r0)]) hx hb dX5_stores_42 rfl hl (by decide) rfl (fun ls hl => ?_)
        refine lv_iload_n hx hb dX5_stores_43 rfl (lv_at hl 0 rfl) ?_
        refine lv_if_eq (tgt := 64) hx hb dX5_stores_44 (by decide) (fun c9 => absurd c9 (show ¬ ((1 : Int32) = 0) from by decide)) (fun c9 => ?_)
        refine lv_aload_n hx hb dX5_stores_47 rfl (lv_at hl 1 rfl) ?_
        refine m_get_7 X G (by decide +kernel) dX5_stores_48 ?_
        refine lv_iload_n hx hb dX5_stores_51 rfl (lv_at hl 3 rfl) ?_
        refine m_ld_7 X G (vin (rfl : r0.toInt = _) (by omega) (by omega)) dX5_stores_52 ?_
        refine lv_bipush (v := 10) hx hb dX5_stores_53 (by decide) ?_
        refine lv_icmp_ne (tgt := 64) hx hb dX5_stores_55 (by decide) (fun c_55 => ?_) (fun c_55 => ?_)
        · have c_55 : ¬ ((σ.2.2.1 7 r0.toNatClampNeg) = 10) := c_55
          have h55 := i_ne c_55
          refine lv_iload_n hx hb dX5_stores_64 rfl (lv_at hl 0 rfl) ?_
          refine lv_if_eq (tgt := 78) hx hb dX5_stores_65 (by decide) (fun c9 => absurd c9 (show ¬ ((1 : Int32) = 0) from by decide)) (fun c9 => ?_)
          refine lv_aload_n hx hb dX5_stores_68 rfl (lv_at hl 1 rfl) ?_
          refine m_get_7 X G (by decide +kernel) dX5_stores_69 ?_
          refine lv_iload_n hx hb dX5_stores_72 rfl (lv_at hl 3 rfl) ?_
          refine lv_dup2_11 hx hb dX5_stores_73 rfl rfl ?_
          refine m_ld_7 X G (vin (rfl : r0.toInt = _) (by omega) (by omega)) dX5_stores_74 ?_
          refine lv_iconst (v := 1) hx hb dX5_stores_75 (by decide) ?_
          refine lv_iadd hx hb dX5_stores_76 ?_
          refine m_st_7 X G (vin (rfl : r0.toInt = _) (by omega) (by omega)) dX5_stores_77 (fun H locs G => ?_)
          refine lv_aload_n hx hb dX5_stores_78 rfl (lv_at hl 1 rfl) ?_
          refine lv_dup hx hb dX5_stores_79 rfl ?_
          refine m_get_5 X G (by decide +kernel) dX5_stores_80 ?_
          refine lv_iconst (v := 1) hx hb dX5_stores_83 (by decide) ?_
          refine lv_isub hx hb dX5_stores_84 ?_
          refine m_put_5 X G (by decide +kernel) dX5_stores_85 (fun H locs G => ?_)
          refine lv_aload_n hx hb dX5_stores_88 rfl (lv_at hl 1 rfl) ?_
          refine lv_aload_n hx hb dX5_stores_89 rfl (lv_at hl 1 rfl) ?_
          refine m_get_5 X G (by decide +kernel) dX5_stores_90 ?_
          refine lv_aload_n hx hb dX5_stores_93 rfl (lv_at hl 1 rfl) ?_
          refine lv_iload_n hx hb dX5_stores_94 rfl (lv_at hl 3 rfl) ?_
          refine m_calli (As := [.int r0]) (rest := [.int ((σ.1 5) - 1), .ref h]) X hml G hA (c_M_topOf l dC dI cI cJ h ad _ (si (sa σ 7 r0.toNatClampNeg ((σ.2.2.1 7 r0.toNatClampNeg) + 1)) 5 ((σ.1 5) - 1)) r0 hr0 hr1) (cwV 1 hts gX5_stores_X5_topOf rfl rfl rfl (by decide +kernel) ⟨Nat.le_of_ble_eq_true rfl, Nat.le_of_ble_eq_true rfl⟩) rfl hl.1 rfl (Nat.le_of_ble_eq_true rfl) dX5_stores_95 ⟨Nat.zero_le _, Nat.zero_le _⟩ (fun r_95 u_95 H locs hw_95 G => ?_)
          obtain ⟨rfl, hu_95⟩ := hw_95
          rw [hu_95] at G
          have hT := topOf_sa (σ := σ) (d := ((σ.1 5) - 1)) hr0 hr1 (i_addE (rfl : (σ.2.2.1 7 r0.toNatClampNeg).toInt = _) (show (1 : Int32).toInt = 1 from rfl) (by omega) (by omega)) (by omega) (by omega)
          refine m_callv (As := [.int ((σ.1 5) - 1), .int (F_topOf (si (sa σ 7 r0.toNatClampNeg ((σ.2.2.1 7 r0.toNatClampNeg) + 1)) 5 ((σ.1 5) - 1)) r0)]) (rest := []) X hml G hA (c_M_copy l dC dI cI cJ h ad _ (si (sa σ 7 r0.toNatClampNeg ((σ.2.2.1 7 r0.toNatClampNeg) + 1)) 5 ((σ.1 5) - 1)) ((σ.1 5) - 1) (F_topOf (si (sa σ 7 r0.toNatClampNeg ((σ.2.2.1 7 r0.toNatClampNeg) + 1)) 5 ((σ.1 5) - 1)) r0) (ge0 (i_subE (rfl : (σ.1 5).toInt = _) (show (1 : Int32).toInt = 1 from rfl) (by omega) (by omega)) (by omega)) (ltn (i_subE (rfl : (σ.1 5).toInt = _) (show (1 : Int32).toInt = 1 from rfl) (by omega) (by omega)) (by omega)) (ge0 hT (by omega)) (ltn hT (by omega)) (fun h9 => (htx _ (cl_lt (ge0 (i_subE (rfl : (σ.1 5).toInt = _) (show (1 : Int32).toInt = 1 from rfl) (by omega) (by omega)) (by omega)) (ltn (i_subE (rfl : (σ.1 5).toInt = _) (show (1 : Int32).toInt = 1 from rfl) (by omega) (by omega)) (by omega))) h9).2)) (cwV 2 hts gX5_stores_X5_copy rfl rfl rfl (by decide +kernel) ⟨Nat.le_of_ble_eq_true rfl, Nat.le_of_ble_eq_true rfl⟩) rfl hl.1 rfl (Nat.le_of_ble_eq_true rfl) dX5_stores_98 ⟨Nat.zero_le _, Nat.zero_le _⟩ (fun u_98 H locs hw_98 G => ?_)
          obtain ⟨b2_98, a3_98, a4_98, rfl⟩ := copy_st hw_98
          have htx_98 := copy_tx htx hw_98 (ge0 (i_subE (rfl : (σ.1 5).toInt = _) (show (1 : Int32).toInt = 1 from rfl) (by omega) (by omega)) (by omega)) (ltn (i_subE (rfl : (σ.1 5).toInt = _) (show (1 : Int32).toInt = 1 from rfl) (by omega) (by omega)) (by omega))
          refine lv_iconst (v := 1) hx hb dX5_stores_101 (by decide) ?_
          exact m_zret X G hr hlocks rfl (by simp only [F_stores, eq_false c_3, eq_true c_9, hw_14, eq_false c_17, eq_false c_55, hw_98, ↓reduceIte, si_self, sm_self, si_snd, sm_fst, si20_16, not_false_eq_true, not_true_eq_false, eq_self] <;> rfl) dX5_stores_102
        · have c_55 : (σ.2.2.1 7 r0.toNatClampNeg) = 10 := c_55
          refine lv_aload_n hx hb dX5_stores_58 rfl (lv_at hl 1 rfl) ?_
          refine lv_iconst (v := 5) hx hb dX5_stores_59 (by decide) ?_
          refine m_calli (As := [.int 5]) (rest := []) X hml G hA (c_M_fail l dC dI cI cJ h ad _ σ 5) (cwV 1 hts gX5_stores_X5_fail rfl rfl rfl (by decide +kernel) ⟨Nat.le_of_ble_eq_true rfl, Nat.le_of_ble_eq_true rfl⟩) rfl hl.1 rfl (Nat.le_of_ble_eq_true rfl) dX5_stores_60 ⟨Nat.zero_le _, Nat.zero_le _⟩ (fun r_60 u_60 H locs hw_60 G => ?_)
          obtain ⟨rfl, rfl⟩ := hw_60
          exact m_zret X G hr hlocks rfl (by simp only [F_stores, eq_false c_3, eq_true c_9, hw_14, eq_false c_17, eq_true c_55, ↓reduceIte, si_self, sm_self, si_snd, sm_fst, si20_16, not_false_eq_true, not_true_eq_false, eq_self] <;> rfl) dX5_stores_63
      · have c_17 : r_14 = 0 := c_17
        refine lv_iconst (v := 0) hx hb dX5_stores_20 (by decide) ?_
        exact m_zret X G hr hlocks rfl (by simp only [F_stores, eq_false c_3, eq_true c_9, hw_14, eq_true c_17, ↓reduceIte, si_self, sm_self, si_snd, sm_fst, si20_16, not_false_eq_true, not_true_eq_false, eq_self] <;> rfl) dX5_stores_21
def F_tests (σ : MS) (c0 : Int32) (r0 : Int32) (i0 : Int32) : Int32 × MS := let q_2 := F_numbers σ 2; if q_2.1 = 0 then ((0, q_2.2)) else let q_9 := F_compared σ; if q_9.1 = 0 then ((0, (si (sm (si σ 16 (q_9.2.1 16)) q_9.2.2.1) 20 (q_9.2.1 20)))) else if c0 = 60 then (if q_9.2.2.1 ≤ 0 then ((1, (si (si (sm (si σ 16 (q_9.2.1 16)) q_9.2.2.1) 20 (q_9.2.1 20)) 5 ((σ.1 5) - 2)))) else if (σ.2.2.1 7 r0.toNatClampNeg) = 0 then ((0, (si (si (sm (si σ 16 (q_9.2.1 16)) q_9.2.2.1) 20 (q_9.2.1 20)) 16 2))) else if (σ.2.2.1 3 (F_topOf (si (sm (si σ 16 (q_9.2.1 16)) q_9.2.2.1) 20 (q_9.2.1 20)) r0).toNatClampNeg) < 0 then (let q_132 := F_mayRun (si (sm (si σ 16 (q_9.2.1 16)) q_9.2.2.1) 20 (q_9.2.1 20)) i0; if q_132.1 = 0 then ((0, q_132.2)) else let q_157 := F_begin (si (si (sm (si σ 16 (q_9.2.1 16)) q_9.2.2.1) 20 (q_9.2.1 20)) 5 ((σ.1 5) - 2)) (F_topOf (si (si (sm (si σ 16 (q_9.2.1 16)) q_9.2.2.1) 20 (q_9.2.1 20)) 5 ((σ.1 5) - 2)) r0) i0; (1, q_157)) else (0, (si (si (sm (si σ 16 (q_9.2.1 16)) q_9.2.2.1) 20 (q_9.2.1 20)) 16 3))) else if c0 = 62 then (if 0 ≤ q_9.2.2.1 then ((1, (si (si (sm (si σ 16 (q_9.2.1 16)) q_9.2.2.1) 20 (q_9.2.1 20)) 5 ((σ.1 5) - 2)))) else if (σ.2.2.1 7 r0.toNatClampNeg) = 0 then ((0, (si (si (sm (si σ 16 (q_9.2.1 16)) q_9.2.2.1) 20 (q_9.2.1 20)) 16 2))) else if (σ.2.2.1 3 (F_topOf (si (sm (si σ 16 (q_9.2.1 16)) q_9.2.2.1) 20 (q_9.2.1 20)) r0).toNatClampNeg) < 0 then (let q_132 := F_mayRun (si (sm (si σ 16 (q_9.2.1 16)) q_9.2.2.1) 20 (q_9.2.1 20)) i0; if q_132.1 = 0 then ((0, q_132.2)) else let q_157 := F_begin (si (si (sm (si σ 16 (q_9.2.1 16)) q_9.2.2.1) 20 (q_9.2.1 20)) 5 ((σ.1 5) - 2)) (F_topOf (si (si (sm (si σ 16 (q_9.2.1 16)) q_9.2.2.1) 20 (q_9.2.1 20)) 5 ((σ.1 5) - 2)) r0) i0; (1, q_157)) else (0, (si (si (sm (si σ 16 (q_9.2.1 16)) q_9.2.2.1) 20 (q_9.2.1 20)) 16 3))) else if q_9.2.2.1 = 0 then (if (σ.2.2.1 7 r0.toNatClampNeg) = 0 then ((0, (si (si (sm (si σ 16 (q_9.2.1 16)) q_9.2.2.1) 20 (q_9.2.1 20)) 16 2))) else if (σ.2.2.1 3 (F_topOf (si (sm (si σ 16 (q_9.2.1 16)) q_9.2.2.1) 20 (q_9.2.1 20)) r0).toNatClampNeg) < 0 then (let q_132 := F_mayRun (si (sm (si σ 16 (q_9.2.1 16)) q_9.2.2.1) 20 (q_9.2.1 20)) i0; if q_132.1 = 0 then ((0, q_132.2)) else let q_157 := F_begin (si (si (sm (si σ 16 (q_9.2.1 16)) q_9.2.2.1) 20 (q_9.2.1 20)) 5 ((σ.1 5) - 2)) (F_topOf (si (si (sm (si σ 16 (q_9.2.1 16)) q_9.2.2.1) 20 (q_9.2.1 20)) 5 ((σ.1 5) - 2)) r0) i0; (1, q_157)) else (0, (si (si (sm (si σ 16 (q_9.2.1 16)) q_9.2.2.1) 20 (q_9.2.1 20)) 16 3))) else (1, (si (si (sm (si σ 16 (q_9.2.1 16)) q_9.2.2.1) 20 (q_9.2.1 20)) 5 ((σ.1 5) - 2)))
set_option maxHeartbeats 4000000 in
set_option maxRecDepth 100000 in
theorem c_M_tests (l : Launch) (dC : Nat → ClassId) (dI : Nat → Nat → Nat) (cI cJ : ClassId) (h : Nat) (ad : Nat → Nat) (sz : Nat) (σ : MS) (c0 : Int32) (r0 : Int32) (i0 : Int32) (hd0 : 0 ≤ (σ.1 5).toInt) (hd : (σ.1 5).toInt ≤ 40) (htx : tx (σ.2.2.1 3) (σ.2.2.2 2)) (hr0 : 0 ≤ r0.toInt) (hr1 : r0.toInt < 4) (hh0 : 0 ≤ (σ.2.2.1 7 r0.toNatClampNeg).toInt) (hh1 : (σ.2.2.1 7 r0.toNatClampNeg).toInt ≤ 10) (hi0 : 0 ≤ i0.toInt) (hl0 : 1 ≤ (σ.1 11).toInt) (hl1 : (σ.1 11).toInt ≤ 12) (hs : (σ.2.2.1 9 (σ.1 11 - 1).toNatClampNeg).toInt ≤ 160) : Met l yX5_tests wsX5_tests ({ frames := 3, cells := 0, slots := 0, locals := 67 } : Room) (va_Pc [.ref h, .int c0, .int r0, .int i0] (mPre dC dI cI cJ h ad sz σ)) (va_Qi (fun r u => F_tests σ c0 r0 i0 = (r, u)) (mAt dC dI cI cJ h ad (mA h ad cI cJ σ sz)) (mA h ad cI cJ σ sz)) 0 0 (mA h ad cI cJ σ sz) := by
  refine m_ofW (cc := cX5_tests) (maxL := 5) (ret := (some .boolean)) (by decide) rfl (by decide +kernel) rfl (Nat.le_of_ble_eq_true rfl) ?_
  intro p e s m below meth c X G hA hr hlocks hml ls hl
  have hl : lv_has ls 5 [(0, .ref h), (1, .int c0), (2, .int r0), (3, .int i0)] := hl
  have hx := X.1
  have hb := X.2.1
  have hts := X.2.2.1
  have hown := X.2.2.2.2.1
  have z0 : (0 : Int32).toInt = 0 := rfl
  have z1 : (1 : Int32).toInt = 1 := rfl
  have z2 : (2 : Int32).toInt = 2 := rfl
  have z10 : (10 : Int32).toInt = 10 := rfl
  refine lv_aload_n hx hb dX5_tests_0 rfl (lv_at hl 0 rfl) ?_
  refine lv_iconst (v := 2) hx hb dX5_tests_1 (by decide) ?_
  refine m_calli (As := [.int 2]) (rest := []) X hml G hA (c_M_numbers l dC dI cI cJ h ad _ σ 2 (by decide) hd) (cwV 1 hts gX5_tests_X5_numbers rfl rfl rfl (by decide +kernel) ⟨Nat.le_of_ble_eq_true rfl, Nat.le_of_ble_eq_true rfl⟩) rfl hl.1 rfl (Nat.le_of_ble_eq_true rfl) dX5_tests_2 ⟨Nat.zero_le _, Nat.zero_le _⟩ (fun r_2 u_2 H locs hw_2 G => ?_)
  refine lv_if_eq (tgt := 15) hx hb dX5_tests_5 (by decide) (fun c_5 => ?_) (fun c_5 => ?_)
  · have c_5 : r_2 = 0 := c_5
    refine lv_iconst (v := 0) hx hb dX5_tests_15 (by decide) ?_
    exact m_zret X G hr hlocks rfl (by simp only [F_tests, hw_2, eq_true c_5, ↓reduceIte, si_self, sm_self, si_snd, sm_fst, si20_16, not_false_eq_true, not_true_eq_false, eq_self] <;> rfl) dX5_tests_16
  · have c_5 : ¬ (r_2 = 0) := c_5
    obtain ⟨rfl, hn⟩ := numbers_ok hw_2 c_5
    have hn : 2 ≤ (σ.1 5).toInt := hn
    refine lv_aload_n hx hb dX5_tests_8 rfl (lv_at hl 0 rfl) ?_
    refine m_calli (As := []) (rest := []) X hml G hA (c_M_compared l dC dI cI cJ h ad _ σ hn hd) (cwV 0 hts gX5_tests_X5_compared rfl rfl rfl (by decide +kernel) ⟨Nat.le_of_ble_eq_true rfl, Nat.le_of_ble_eq_true rfl⟩) rfl hl.1 rfl (Nat.le_of_ble_eq_true rfl) dX5_tests_9 ⟨Nat.zero_le _, Nat.zero_le _⟩ (fun r_9 u_9 H locs hw_9 G => ?_)
    obtain ⟨f_9, m_9, n_9, rfl⟩ := compared_st hw_9
    refine lv_if_ne (tgt := 17) hx hb dX5_tests_12 (by decide) (fun c_12 => ?_) (fun c_12 => ?_)
    · have c_12 : ¬ (r_9 = 0) := c_12
      refine lv_iload_n hx hb dX5_tests_17 rfl (lv_at hl 1 rfl) ?_
      refine lv_bipush (v := 60) hx hb dX5_tests_18 (by decide) ?_
      refine lv_icmp_ne (tgt := 40) hx hb dX5_tests_20 (by decide) (fun c_20 => ?_) (fun c_20 => ?_)
      · have c_20 : ¬ (c0 = 60) := c_20
        refine lv_iload_n hx hb dX5_tests_40 rfl (lv_at hl 1 rfl) ?_
        refine lv_bipush (v := 62) hx hb dX5_tests_41 (by decide) ?_
        refine lv_icmp_ne (tgt := 63) hx hb dX5_tests_43 (by decide) (fun c_43 => ?_) (fun c_43 => ?_)
        · have c_43 : ¬ (c0 = 62) := c_43
          refine lv_aload_n hx hb dX5_tests_63 rfl (lv_at hl 0 rfl) ?_
          refine m_get_19 X G (by decide +kernel) dX5_tests_64 ?_
          refine lv_lconst (v := 0) hx hb dX5_tests_67 (by decide) ?_
          refine W.lcmp hx hb dX5_tests_68 ?_
          refine lv_if_ne (tgt := 76) hx hb dX5_tests_69 (by decide) (fun c_69 => ?_) (fun c_69 => ?_)
          · have c_69 := (mt (l_cmp_eq _ _).mpr c_69)
            have c_69 : ¬ (m_9 = 0) := c_69
            refine lv_iconst (v := 0) hx hb dX5_tests_76 (by decide) ?_
            refine lv_istore (lv' := [(4, .int 0), (0, .ref h), (1, .int c0), (2, .int r0), (3, .int i0)]) hx hb dX5_tests_77 hl (by decide) rfl (fun ls hl => ?_)
            refine lv_iload hx hb dX5_tests_79 (lv_at hl 0 rfl) ?_
            refine lv_if_ne (tgt := 96) hx hb dX5_tests_81 (by decide) (fun c9 => absurd (show (0 : Int32) = 0 from by decide) c9) (fun c9 => ?_)
            refine lv_aload_n hx hb dX5_tests_84 rfl (lv_at hl 1 rfl) ?_
            refine lv_dup hx hb dX5_tests_85 rfl ?_
            refine m_get_5 X G (by decide +kernel) dX5_tests_86 ?_
            refine lv_iconst (v := 2) hx hb dX5_tests_89 (by decide) ?_
            refine lv_isub hx hb dX5_tests_90 ?_
            refine m_put_5 X G (by decide +kernel) dX5_tests_91 (fun H locs G => ?_)
            refine lv_iconst (v := 1) hx hb dX5_tests_94 (by decide) ?_
            exact m_zret X G hr hlocks rfl (by simp only [F_tests, hw_2, eq_false c_5, hw_9, eq_false c_12, eq_false c_20, eq_false c_43, eq_false c_69, ↓reduceIte, si_self, sm_self, si_snd, sm_fst, si20_16, not_false_eq_true, not_true_eq_false, eq_self] <;> rfl) dX5_tests_95
          · have c_69 := ((l_cmp_eq _ _).mp c_69)
            have c_69 : m_9 = 0 := c_69
            refine lv_iconst (v := 1) hx hb dX5_tests_72 (by decide) ?_
            refine lv_goto (tgt := 77) hx hb dX5_tests_73 (by decide) ?_
            refine lv_istore (lv' := [(4, .int 1), (0, .ref h), (1, .int c0), (2, .int r0), (3, .int i0)]) hx hb dX5_tests_77 hl (by decide) rfl (fun ls hl => ?_)
            refine lv_iload hx hb dX5_tests_79 (lv_at hl 0 rfl) ?_
            refine lv_if_ne (tgt := 96) hx hb dX5_tests_81 (by decide) (fun c9 => ?_) (fun c9 => absurd c9 (show ¬ ((1 : Int32) = 0) from by decide))
            refine lv_aload_n hx hb dX5_tests_96 rfl (lv_at hl 1 rfl) ?_
            refine m_get_7 X G (by decide +kernel) dX5_tests_97 ?_
            refine lv_iload_n hx hb dX5_tests_100 rfl (lv_at hl 3 rfl) ?_
            refine m_ld_7 X G (vin (rfl : r0.toInt = _) (by omega) (by omega)) dX5_tests_101 ?_
            refine lv_if_ne (tgt := 111) hx hb dX5_tests_102 (by decide) (fun c_102 => ?_) (fun c_102 => ?_)
            · have c_102 : ¬ ((σ.2.2.1 7 r0.toNatClampNeg) = 0) := c_102
              refine lv_aload_n hx hb dX5_tests_111 rfl (lv_at hl 1 rfl) ?_
              refine m_get_3 X G (by decide +kernel) dX5_tests_112 ?_
              refine lv_aload_n hx hb dX5_tests_115 rfl (lv_at hl 1 rfl) ?_
              refine lv_iload_n hx hb dX5_tests_116 rfl (lv_at hl 3 rfl) ?_
              refine m_calli (As := [.int r0]) (rest := [.ref (ad 3)]) X hml G hA (c_M_topOf l dC dI cI cJ h ad _ (si (sm (si σ 16 f_9) m_9) 20 n_9) r0 hr0 hr1) (cwV 1 hts gX5_tests_X5_topOf rfl rfl rfl (by decide +kernel) ⟨Nat.le_of_ble_eq_true rfl, Nat.le_of_ble_eq_true rfl⟩) rfl hl.1 rfl (Nat.le_of_ble_eq_true rfl) dX5_tests_117 ⟨Nat.zero_le _, Nat.zero_le _⟩ (fun r_117 u_117 H locs hw_117 G => ?_)
              obtain ⟨rfl, hu_117⟩ := hw_117
              rw [hu_117] at G
              refine m_ld_3 X G (vin (topOf_v hr0 hr1 hh0 hh1) (by omega) (by omega)) dX5_tests_120 ?_
              refine lv_if_lt (tgt := 130) hx hb dX5_tests_121 (by decide) (fun c_121 => ?_) (fun c_121 => ?_)
              · have c_121 : (σ.2.2.1 3 (F_topOf (si (sm (si σ 16 f_9) m_9) 20 n_9) r0).toNatClampNeg) < 0 := c_121
                refine lv_aload_n hx hb dX5_tests_130 rfl (lv_at hl 1 rfl) ?_
                refine lv_iload_n hx hb dX5_tests_131 rfl (lv_at hl 4 rfl) ?_
                refine m_calli (As := [.int i0]) (rest := []) X hml G hA (c_M_mayRun l dC dI cI cJ h ad _ (si (sm (si σ 16 f_9) m_9) 20 n_9) i0 hi0 hl0 hl1 hs) (cwV 1 hts gX5_tests_X5_mayRun rfl rfl rfl (by decide +kernel) ⟨Nat.le_of_ble_eq_true rfl, Nat.le_of_ble_eq_true rfl⟩) rfl hl.1 rfl (Nat.le_of_ble_eq_true rfl) dX5_tests_132 ⟨Nat.zero_le _, Nat.zero_le _⟩ (fun r_132 u_132 H locs hw_132 G => ?_)
                refine lv_if_ne (tgt := 140) hx hb dX5_tests_135 (by decide) (fun c_135 => ?_) (fun c_135 => ?_)
                · have c_135 : ¬ (r_132 = 0) := c_135
                  obtain ⟨rfl, hmr⟩ := mayRun_ok hw_132 c_135
                  refine lv_aload_n hx hb dX5_tests_140 rfl (lv_at hl 1 rfl) ?_
                  refine lv_dup hx hb dX5_tests_141 rfl ?_
                  refine m_get_5 X G (by decide +kernel) dX5_tests_142 ?_
                  refine lv_iconst (v := 2) hx hb dX5_tests_145 (by decide) ?_
                  refine lv_isub hx hb dX5_tests_146 ?_
                  refine m_put_5 X G (by decide +kernel) dX5_tests_147 (fun H locs G => ?_)
                  refine lv_aload_n hx hb dX5_tests_150 rfl (lv_at hl 1 rfl) ?_
                  refine lv_aload_n hx hb dX5_tests_151 rfl (lv_at hl 1 rfl) ?_
                  refine lv_iload_n hx hb dX5_tests_152 rfl (lv_at hl 3 rfl) ?_
                  refine m_calli (As := [.int r0]) (rest := [.ref h]) X hml G hA (c_M_topOf l dC dI cI cJ h ad _ (si (si (sm (si σ 16 f_9) m_9) 20 n_9) 5 ((σ.1 5) - 2)) r0 hr0 hr1) (cwV 1 hts gX5_tests_X5_topOf rfl rfl rfl (by decide +kernel) ⟨Nat.le_of_ble_eq_true rfl, Nat.le_of_ble_eq_true rfl⟩) rfl hl.1 rfl (Nat.le_of_ble_eq_true rfl) dX5_tests_153 ⟨Nat.zero_le _, Nat.zero_le _⟩ (fun r_153 u_153 H locs hw_153 G => ?_)
                  obtain ⟨rfl, hu_153⟩ := hw_153
                  rw [hu_153] at G
                  refine lv_iload_n hx hb dX5_tests_156 rfl (lv_at hl 4 rfl) ?_
                  refine m_callv (As := [.int (F_topOf (si (si (sm (si σ 16 f_9) m_9) 20 n_9) 5 ((σ.1 5) - 2)) r0), .int i0]) (rest := []) X hml G hA (c_M_begin l dC dI cI cJ h ad _ (si (si (sm (si σ 16 f_9) m_9) 20 n_9) 5 ((σ.1 5) - 2)) (F_topOf (si (si (sm (si σ 16 f_9) m_9) 20 n_9) 5 ((σ.1 5) - 2)) r0) i0 hi0 hl0 hl1 hs (ge0 (topOf_v hr0 hr1 hh0 hh1) (by omega)) (ltn (topOf_v hr0 hr1 hh0 hh1) (by omega)) (htx _ (cl_lt (ge0 (topOf_v hr0 hr1 hh0 hh1) (by omega)) (ltn (topOf_v hr0 hr1 hh0 hh1) (by omega))) c_121).1 (htx _ (cl_lt (ge0 (topOf_v hr0 hr1 hh0 hh1) (by omega)) (ltn (topOf_v hr0 hr1 hh0 hh1) (by omega))) c_121).2 (hmr.imp id (fun h9 h8 => h9 (isDone_si5.symm.trans h8)))) (cwV 2 hts gX5_tests_X5_begin rfl rfl rfl (by decide +kernel) ⟨Nat.le_of_ble_eq_true rfl, Nat.le_of_ble_eq_true rfl⟩) rfl hl.1 rfl (Nat.le_of_ble_eq_true rfl) dX5_tests_157 ⟨Nat.zero_le _, Nat.zero_le _⟩ (fun u_157 H locs hw_157 G => ?_)
                  refine lv_iconst (v := 1) hx hb dX5_tests_160 (by decide) ?_
                  exact m_zret X G hr hlocks rfl (by simp only [F_tests, hw_2, eq_false c_5, hw_9, eq_false c_12, eq_false c_20, eq_false c_43, eq_true c_69, eq_false c_102, eq_true c_121, hw_132, eq_false c_135, hw_157, ↓reduceIte, si_self, sm_self, si_snd, sm_fst, si20_16, not_false_eq_true, not_true_eq_false, eq_self] <;> rfl) dX5_tests_161
                · have c_135 : r_132 = 0 := c_135
                  refine lv_iconst (v := 0) hx hb dX5_tests_138 (by decide) ?_
                  exact m_zret X G hr hlocks rfl (by simp only [F_tests, hw_2, eq_false c_5, hw_9, eq_false c_12, eq_false c_20, eq_false c_43, eq_true c_69, eq_false c_102, eq_true c_121, hw_132, eq_true c_135, ↓reduceIte, si_self, sm_self, si_snd, sm_fst, si20_16, not_false_eq_true, not_true_eq_false, eq_self] <;> rfl) dX5_tests_139
              · have c_121 : ¬ ((σ.2.2.1 3 (F_topOf (si (sm (si σ 16 f_9) m_9) 20 n_9) r0).toNatClampNeg) < 0) := c_121
                refine lv_aload_n hx hb dX5_tests_124 rfl (lv_at hl 1 rfl) ?_
                refine lv_iconst (v := 3) hx hb dX5_tests_125 (by decide) ?_
                refine m_calli (As := [.int 3]) (rest := []) X hml G hA (c_M_fail l dC dI cI cJ h ad _ (si (sm (si σ 16 f_9) m_9) 20 n_9) 3) (cwV 1 hts gX5_tests_X5_fail rfl rfl rfl (by decide +kernel) ⟨Nat.le_of_ble_eq_true rfl, Nat.le_of_ble_eq_true rfl⟩) rfl hl.1 rfl (Nat.le_of_ble_eq_true rfl) dX5_tests_126 ⟨Nat.zero_le _, Nat.zero_le _⟩ (fun r_126 u_126 H locs hw_126 G => ?_)
                obtain ⟨rfl, rfl⟩ := hw_126
                exact m_zret X G hr hlocks rfl (by simp only [F_tests, hw_2, eq_false c_5, hw_9, eq_false c_12, eq_false c_20, eq_false c_43, eq_true c_69, eq_false c_102, eq_false c_121, ↓reduceIte, si_self, sm_self, si_snd, sm_fst, si20_16, not_false_eq_true, not_true_eq_false, eq_self] <;> rfl) dX5_tests_129
            · have c_102 : (σ.2.2.1 7 r0.toNatClampNeg) = 0 := c_102
              refine lv_aload_n hx hb dX5_tests_105 rfl (lv_at hl 1 rfl) ?_
              refine lv_iconst (v := 2) hx hb dX5_tests_106 (by decide) ?_
              refine m_calli (As := [.int 2]) (rest := []) X hml G hA (c_M_fail l dC dI cI cJ h ad _ (si (sm (si σ 16 f_9) m_9) 20 n_9) 2) (cwV 1 hts gX5_tests_X5_fail rfl rfl rfl (by decide +kernel) ⟨Nat.le_of_ble_eq_true rfl, Nat.le_of_ble_eq_true rfl⟩) rfl hl.1 rfl (Nat.le_of_ble_eq_true rfl) dX5_tests_107 ⟨Nat.zero_le _, Nat.zero_le _⟩ (fun r_107 u_107 H locs hw_107 G => ?_)
              obtain ⟨rfl, rfl⟩ := hw_107
              exact m_zret X G hr hlocks rfl (by simp only [F_tests, hw_2, eq_false c_5, hw_9, eq_false c_12, eq_false c_20, eq_false c_43, eq_true c_69, eq_true c_102, ↓reduceIte, si_self, sm_self, si_snd, sm_fst, si20_16, not_false_eq_true, not_true_eq_false, eq_self] <;> rfl) dX5_tests_110
        · have c_43 : c0 = 62 := c_43
          refine lv_aload_n hx hb dX5_tests_46 rfl (lv_at hl 0 rfl) ?_
          refine m_get_19 X G (by decide +kernel) dX5_tests_47 ?_
          refine lv_lconst (v := 0) hx hb dX5_tests_50 (by decide) ?_
          refine W.lcmp hx hb dX5_tests_51 ?_
          refine lv_if_ge (tgt := 59) hx hb dX5_tests_52 (by decide) (fun c_52 => ?_) (fun c_52 => ?_)
          · have c_52 := ((l_cmp_ge _ _).mp c_52)
            have c_52 : 0 ≤ m_9 := c_52
            refine lv_iconst (v := 0) hx hb dX5_tests_59 (by decide) ?_
            refine lv_goto (tgt := 77) hx hb dX5_tests_60 (by decide) ?_
            refine lv_istore (lv' := [(4, .int 0), (0, .ref h), (1, .int c0), (2, .int r0), (3, .int i0)]) hx hb dX5_tests_77 hl (by decide) rfl (fun ls hl => ?_)
            refine lv_iload hx hb dX5_tests_79 (lv_at hl 0 rfl) ?_
            refine lv_if_ne (tgt := 96) hx hb dX5_tests_81 (by decide) (fun c9 => absurd (show (0 : Int32) = 0 from by decide) c9) (fun c9 => ?_)
            refine lv_aload_n hx hb dX5_tests_84 rfl (lv_at hl 1 rfl) ?_
            refine lv_dup hx hb dX5_tests_85 rfl ?_
            refine m_get_5 X G (by decide +kernel) dX5_tests_86 ?_
            refine lv_iconst (v := 2) hx hb dX5_tests_89 (by decide) ?_
            refine lv_isub hx hb dX5_tests_90 ?_
            refine m_put_5 X G (by decide +kernel) dX5_tests_91 (fun H locs G => ?_)
            refine lv_iconst (v := 1) hx hb dX5_tests_94 (by decide) ?_
            exact m_zret X G hr hlocks rfl (by simp only [F_tests, hw_2, eq_false c_5, hw_9, eq_false c_12, eq_false c_20, eq_true c_43, eq_true c_52, ↓reduceIte, si_self, sm_self, si_snd, sm_fst, si20_16, not_false_eq_true, not_true_eq_false, eq_self] <;> rfl) dX5_tests_95
          · have c_52 := (mt (l_cmp_ge _ _).mpr c_52)
            have c_52 : ¬ (0 ≤ m_9) := c_52
            refine lv_iconst (v := 1) hx hb dX5_tests_55 (by decide) ?_
            refine lv_goto (tgt := 77) hx hb dX5_tests_56 (by decide) ?_
            refine lv_istore (lv' := [(4, .int 1), (0, .ref h), (1, .int c0), (2, .int r0), (3, .int i0)]) hx hb dX5_tests_77 hl (by decide) rfl (fun ls hl => ?_)
            refine lv_iload hx hb dX5_tests_79 (lv_at hl 0 rfl) ?_
            refine lv_if_ne (tgt := 96) hx hb dX5_tests_81 (by decide) (fun c9 => ?_) (fun c9 => absurd c9 (show ¬ ((1 : Int32) = 0) from by decide))
            refine lv_aload_n hx hb dX5_tests_96 rfl (lv_at hl 1 rfl) ?_
            refine m_get_7 X G (by decide +kernel) dX5_tests_97 ?_
            refine lv_iload_n hx hb dX5_tests_100 rfl (lv_at hl 3 rfl) ?_
            refine m_ld_7 X G (vin (rfl : r0.toInt = _) (by omega) (by omega)) dX5_tests_101 ?_
            refine lv_if_ne (tgt := 111) hx hb dX5_tests_102 (by decide) (fun c_102 => ?_) (fun c_102 => ?_)
            · have c_102 : ¬ ((σ.2.2.1 7 r0.toNatClampNeg) = 0) := c_102
              refine lv_aload_n hx hb dX5_tests_111 rfl (lv_at hl 1 rfl) ?_
              refine m_get_3 X G (by decide +kernel) dX5_tests_112 ?_
              refine lv_aload_n hx hb dX5_tests_115 rfl (lv_at hl 1 rfl) ?_
              refine lv_iload_n hx hb dX5_tests_116 rfl (lv_at hl 3 rfl) ?_
              refine m_calli (As := [.int r0]) (rest := [.ref (ad 3)]) X hml G hA (c_M_topOf l dC dI cI cJ h ad _ (si (sm (si σ 16 f_9) m_9) 20 n_9) r0 hr0 hr1) (cwV 1 hts gX5_tests_X5_topOf rfl rfl rfl (by decide +kernel) ⟨Nat.le_of_ble_eq_true rfl, Nat.le_of_ble_eq_true rfl⟩) rfl hl.1 rfl (Nat.le_of_ble_eq_true rfl) dX5_tests_117 ⟨Nat.zero_le _, Nat.zero_le _⟩ (fun r_117 u_117 H locs hw_117 G => ?_)
              obtain ⟨rfl, hu_117⟩ := hw_117
              rw [hu_117] at G
              refine m_ld_3 X G (vin (topOf_v hr0 hr1 hh0 hh1) (by omega) (by omega)) dX5_tests_120 ?_
              refine lv_if_lt (tgt := 130) hx hb dX5_tests_121 (by decide) (fun c_121 => ?_) (fun c_121 => ?_)
              · have c_121 : (σ.2.2.1 3 (F_topOf (si (sm (si σ 16 f_9) m_9) 20 n_9) r0).toNatClampNeg) < 0 := c_121
                refine lv_aload_n hx hb dX5_tests_130 rfl (lv_at hl 1 rfl) ?_
                refine lv_iload_n hx hb dX5_tests_131 rfl (lv_at hl 4 rfl) ?_
                refine m_calli (As := [.int i0]) (rest := []) X hml G hA (c_M_mayRun l dC dI cI cJ h ad _ (si (sm (si σ 16 f_9) m_9) 20 n_9) i0 hi0 hl0 hl1 hs) (cwV 1 hts gX5_tests_X5_mayRun rfl rfl rfl (by decide +kernel) ⟨Nat.le_of_ble_eq_true rfl, Nat.le_of_ble_eq_true rfl⟩) rfl hl.1 rfl (Nat.le_of_ble_eq_true rfl) dX5_tests_132 ⟨Nat.zero_le _, Nat.zero_le _⟩ (fun r_132 u_132 H locs hw_132 G => ?_)
                refine lv_if_ne (tgt := 140) hx hb dX5_tests_135 (by decide) (fun c_135 => ?_) (fun c_135 => ?_)
                · have c_135 : ¬ (r_132 = 0) := c_135
                  obtain ⟨rfl, hmr⟩ := mayRun_ok hw_132 c_135
                  refine lv_aload_n hx hb dX5_tests_140 rfl (lv_at hl 1 rfl) ?_
                  refine lv_dup hx hb dX5_tests_141 rfl ?_
                  refine m_get_5 X G (by decide +kernel) dX5_tests_142 ?_
                  refine lv_iconst (v := 2) hx hb dX5_tests_145 (by decide) ?_
                  refine lv_isub hx hb dX5_tests_146 ?_
                  refine m_put_5 X G (by decide +kernel) dX5_tests_147 (fun H locs G => ?_)
                  refine lv_aload_n hx hb dX5_tests_150 rfl (lv_at hl 1 rfl) ?_
                  refine lv_aload_n hx hb dX5_tests_151 rfl (lv_at hl 1 rfl) ?_
                  refine lv_iload_n hx hb dX5_tests_152 rfl (lv_at hl 3 rfl) ?_
                  refine m_calli (As := [.int r0]) (rest := [.ref h]) X hml G hA (c_M_topOf l dC dI cI cJ h ad _ (si (si (sm (si σ 16 f_9) m_9) 20 n_9) 5 ((σ.1 5) - 2)) r0 hr0 hr1) (cwV 1 hts gX5_tests_X5_topOf rfl rfl rfl (by decide +kernel) ⟨Nat.le_of_ble_eq_true rfl, Nat.le_of_ble_eq_true rfl⟩) rfl hl.1 rfl (Nat.le_of_ble_eq_true rfl) dX5_tests_153 ⟨Nat.zero_le _, Nat.zero_le _⟩ (fun r_153 u_153 H locs hw_153 G => ?_)
                  obtain ⟨rfl, hu_153⟩ := hw_153
                  rw [hu_153] at G
                  refine lv_iload_n hx hb dX5_tests_156 rfl (lv_at hl 4 rfl) ?_
                  refine m_callv (As := [.int (F_topOf (si (si (sm (si σ 16 f_9) m_9) 20 n_9) 5 ((σ.1 5) - 2)) r0), .int i0]) (rest := []) X hml G hA (c_M_begin l dC dI cI cJ h ad _ (si (si (sm (si σ 16 f_9) m_9) 20 n_9) 5 ((σ.1 5) - 2)) (F_topOf (si (si (sm (si σ 16 f_9) m_9) 20 n_9) 5 ((σ.1 5) - 2)) r0) i0 hi0 hl0 hl1 hs (ge0 (topOf_v hr0 hr1 hh0 hh1) (by omega)) (ltn (topOf_v hr0 hr1 hh0 hh1) (by omega)) (htx _ (cl_lt (ge0 (topOf_v hr0 hr1 hh0 hh1) (by omega)) (ltn (topOf_v hr0 hr1 hh0 hh1) (by omega))) c_121).1 (htx _ (cl_lt (ge0 (topOf_v hr0 hr1 hh0 hh1) (by omega)) (ltn (topOf_v hr0 hr1 hh0 hh1) (by omega))) c_121).2 (hmr.imp id (fun h9 h8 => h9 (isDone_si5.symm.trans h8)))) (cwV 2 hts gX5_tests_X5_begin rfl rfl rfl (by decide +kernel) ⟨Nat.le_of_ble_eq_true rfl, Nat.le_of_ble_eq_true rfl⟩) rfl hl.1 rfl (Nat.le_of_ble_eq_true rfl) dX5_tests_157 ⟨Nat.zero_le _, Nat.zero_le _⟩ (fun u_157 H locs hw_157 G => ?_)
                  refine lv_iconst (v := 1) hx hb dX5_tests_160 (by decide) ?_
                  exact m_zret X G hr hlocks rfl (by simp only [F_tests, hw_2, eq_false c_5, hw_9, eq_false c_12, eq_false c_20, eq_true c_43, eq_false c_52, eq_false c_102, eq_true c_121, hw_132, eq_false c_135, hw_157, ↓reduceIte, si_self, sm_self, si_snd, sm_fst, si20_16, not_false_eq_true, not_true_eq_false, eq_self] <;> rfl) dX5_tests_161
                · have c_135 : r_132 = 0 := c_135
                  refine lv_iconst (v := 0) hx hb dX5_tests_138 (by decide) ?_
                  exact m_zret X G hr hlocks rfl (by simp only [F_tests, hw_2, eq_false c_5, hw_9, eq_false c_12, eq_false c_20, eq_true c_43, eq_false c_52, eq_false c_102, eq_true c_121, hw_132, eq_true c_135, ↓reduceIte, si_self, sm_self, si_snd, sm_fst, si20_16, not_false_eq_true, not_true_eq_false, eq_self] <;> rfl) dX5_tests_139
              · have c_121 : ¬ ((σ.2.2.1 3 (F_topOf (si (sm (si σ 16 f_9) m_9) 20 n_9) r0).toNatClampNeg) < 0) := c_121
                refine lv_aload_n hx hb dX5_tests_124 rfl (lv_at hl 1 rfl) ?_
                refine lv_iconst (v := 3) hx hb dX5_tests_125 (by decide) ?_
                refine m_calli (As := [.int 3]) (rest := []) X hml G hA (c_M_fail l dC dI cI cJ h ad _ (si (sm (si σ 16 f_9) m_9) 20 n_9) 3) (cwV 1 hts gX5_tests_X5_fail rfl rfl rfl (by decide +kernel) ⟨Nat.le_of_ble_eq_true rfl, Nat.le_of_ble_eq_true rfl⟩) rfl hl.1 rfl (Nat.le_of_ble_eq_true rfl) dX5_tests_126 ⟨Nat.zero_le _, Nat.zero_le _⟩ (fun r_126 u_126 H locs hw_126 G => ?_)
                obtain ⟨rfl, rfl⟩ := hw_126
                exact m_zret X G hr hlocks rfl (by simp only [F_tests, hw_2, eq_false c_5, hw_9, eq_false c_12, eq_false c_20, eq_true c_43, eq_false c_52, eq_false c_102, eq_false c_121, ↓reduceIte, si_self, sm_self, si_snd, sm_fst, si20_16, not_false_eq_true, not_true_eq_false, eq_self] <;> rfl) dX5_tests_129
            · have c_102 : (σ.2.2.1 7 r0.toNatClampNeg) = 0 := c_102
              refine lv_aload_n hx hb dX5_tests_105 rfl (lv_at hl 1 rfl) ?_
              refine lv_iconst (v := 2) hx hb dX5_tests_106 (by decide) ?_
              refine m_calli (As := [.int 2]) (rest := []) X hml G hA (c_M_fail l dC dI cI cJ h ad _ (si (sm (si σ 16 f_9) m_9) 20 n_9) 2) (cwV 1 hts gX5_tests_X5_fail rfl rfl rfl (by decide +kernel) ⟨Nat.le_of_ble_eq_true rfl, Nat.le_of_ble_eq_true rfl⟩) rfl hl.1 rfl (Nat.le_of_ble_eq_true rfl) dX5_tests_107 ⟨Nat.zero_le _, Nat.zero_le _⟩ (fun r_107 u_107 H locs hw_107 G => ?_)
              obtain ⟨rfl, rfl⟩ := hw_107
              exact m_zret X G hr hlocks rfl (by simp only [F_tests, hw_2, eq_false c_5, hw_9, eq_false c_12, eq_false c_20, eq_true c_43, eq_false c_52, eq_true c_102, ↓reduceIte, si_self, sm_self, si_snd, sm_fst, si20_16, not_false_eq_true, not_true_eq_false, eq_self] <;> rfl) dX5_tests_110
      · have c_20 : c0 = 60 := c_20
        refine lv_aload_n hx hb dX5_tests_23 rfl (lv_at hl 0 rfl) ?_
        refine m_get_19 X G (by decide +kernel) dX5_tests_24 ?_
        refine lv_lconst (v := 0) hx hb dX5_tests_27 (by decide) ?_
        refine W.lcmp hx hb dX5_tests_28 ?_
        refine lv_if_le (tgt := 36) hx hb dX5_tests_29 (by decide) (fun c_29 => ?_) (fun c_29 => ?_)
        · have c_29 := ((l_cmp_le _ _).mp c_29)
          have c_29 : m_9 ≤ 0 := c_29
          refine lv_iconst (v := 0) hx hb dX5_tests_36 (by decide) ?_
          refine lv_goto (tgt := 77) hx hb dX5_tests_37 (by decide) ?_
          refine lv_istore (lv' := [(4, .int 0), (0, .ref h), (1, .int c0), (2, .int r0), (3, .int i0)]) hx hb dX5_tests_77 hl (by decide) rfl (fun ls hl => ?_)
          refine lv_iload hx hb dX5_tests_79 (lv_at hl 0 rfl) ?_
          refine lv_if_ne (tgt := 96) hx hb dX5_tests_81 (by decide) (fun c9 => absurd (show (0 : Int32) = 0 from by decide) c9) (fun c9 => ?_)
          refine lv_aload_n hx hb dX5_tests_84 rfl (lv_at hl 1 rfl) ?_
          refine lv_dup hx hb dX5_tests_85 rfl ?_
          refine m_get_5 X G (by decide +kernel) dX5_tests_86 ?_
          refine lv_iconst (v := 2) hx hb dX5_tests_89 (by decide) ?_
          refine lv_isub hx hb dX5_tests_90 ?_
          refine m_put_5 X G (by decide +kernel) dX5_tests_91 (fun H locs G => ?_)
          refine lv_iconst (v := 1) hx hb dX5_tests_94 (by decide) ?_
          exact m_zret X G hr hlocks rfl (by simp only [F_tests, hw_2, eq_false c_5, hw_9, eq_false c_12, eq_true c_20, eq_true c_29, ↓reduceIte, si_self, sm_self, si_snd, sm_fst, si20_16, not_false_eq_true, not_true_eq_false, eq_self] <;> rfl) dX5_tests_95
        · have c_29 := (mt (l_cmp_le _ _).mpr c_29)
          have c_29 : ¬ (m_9 ≤ 0) := c_29
          refine lv_iconst (v := 1) hx hb dX5_tests_32 (by decide) ?_
          refine lv_goto (tgt := 77) hx hb dX5_tests_33 (by decide) ?_
          refine lv_istore (lv' := [(4, .int 1), (0, .ref h), (1, .int c0), (2, .int r0), (3, .int i0)]) hx hb dX5_tests_77 hl (by decide) rfl (fun ls hl => ?_)
          refine lv_iload hx hb dX5_tests_79 (lv_at hl 0 rfl) ?_
          refine lv_if_ne (tgt := 96) hx hb dX5_tests_81 (by decide) (fun c9 => ?_) (fun c9 => absurd c9 (show ¬ ((1 : Int32) = 0) from by decide))
          refine lv_aload_n hx hb dX5_tests_96 rfl (lv_at hl 1 rfl) ?_
          refine m_get_7 X G (by decide +kernel) dX5_tests_97 ?_
          refine lv_iload_n hx hb dX5_tests_100 rfl (lv_at hl 3 rfl) ?_
          refine m_ld_7 X G (vin (rfl : r0.toInt = _) (by omega) (by omega)) dX5_tests_101 ?_
          refine lv_if_ne (tgt := 111) hx hb dX5_tests_102 (by decide) (fun c_102 => ?_) (fun c_102 => ?_)
          · have c_102 : ¬ ((σ.2.2.1 7 r0.toNatClampNeg) = 0) := c_102
            refine lv_aload_n hx hb dX5_tests_111 rfl (lv_at hl 1 rfl) ?_
            refine m_get_3 X G (by decide +kernel) dX5_tests_112 ?_
            refine lv_aload_n hx hb dX5_tests_115 rfl (lv_at hl 1 rfl) ?_
            refine lv_iload_n hx hb dX5_tests_116 rfl (lv_at hl 3 rfl) ?_
            refine m_calli (As := [.int r0]) (rest := [.ref (ad 3)]) X hml G hA (c_M_topOf l dC dI cI cJ h ad _ (si (sm (si σ 16 f_9) m_9) 20 n_9) r0 hr0 hr1) (cwV 1 hts gX5_tests_X5_topOf rfl rfl rfl (by decide +kernel) ⟨Nat.le_of_ble_eq_true rfl, Nat.le_of_ble_eq_true rfl⟩) rfl hl.1 rfl (Nat.le_of_ble_eq_true rfl) dX5_tests_117 ⟨Nat.zero_le _, Nat.zero_le _⟩ (fun r_117 u_117 H locs hw_117 G => ?_)
            obtain ⟨rfl, hu_117⟩ := hw_117
            rw [hu_117] at G
            refine m_ld_3 X G (vin (topOf_v hr0 hr1 hh0 hh1) (by omega) (by omega)) dX5_tests_120 ?_
            refine lv_if_lt (tgt := 130) hx hb dX5_tests_121 (by decide) (fun c_121 => ?_) (fun c_121 => ?_)
            · have c_121 : (σ.2.2.1 3 (F_topOf (si (sm (si σ 16 f_9) m_9) 20 n_9) r0).toNatClampNeg) < 0 := c_121
              refine lv_aload_n hx hb dX5_tests_130 rfl (lv_at hl 1 rfl) ?_
              refine lv_iload_n hx hb dX5_tests_131 rfl (lv_at hl 4 rfl) ?_
              refine m_calli (As := [.int i0]) (rest := []) X hml G hA (c_M_mayRun l dC dI cI cJ h ad _ (si (sm (si σ 16 f_9) m_9) 20 n_9) i0 hi0 hl0 hl1 hs) (cwV 1 hts gX5_tests_X5_mayRun rfl rfl rfl (by decide +kernel) ⟨Nat.le_of_ble_eq_true rfl, Nat.le_of_ble_eq_true rfl⟩) rfl hl.1 rfl (Nat.le_of_ble_eq_true rfl) dX5_tests_132 ⟨Nat.zero_le _, Nat.zero_le _⟩ (fun r_132 u_132 H locs hw_132 G => ?_)
              refine lv_if_ne (tgt := 140) hx hb dX5_tests_135 (by decide) (fun c_135 => ?_) (fun c_135 => ?_)
              · have c_135 : ¬ (r_132 = 0) := c_135
                obtain ⟨rfl, hmr⟩ := mayRun_ok hw_132 c_135
                refine lv_aload_n hx hb dX5_tests_140 rfl (lv_at hl 1 rfl) ?_
                refine lv_dup hx hb dX5_tests_141 rfl ?_
                refine m_get_5 X G (by decide +kernel) dX5_tests_142 ?_
                refine lv_iconst (v := 2) hx hb dX5_tests_145 (by decide) ?_
                refine lv_isub hx hb dX5_tests_146 ?_
                refine m_put_5 X G (by decide +kernel) dX5_tests_147 (fun H locs G => ?_)
                refine lv_aload_n hx hb dX5_tests_150 rfl (lv_at hl 1 rfl) ?_
                refine lv_aload_n hx hb dX5_tests_151 rfl (lv_at hl 1 rfl) ?_
                refine lv_iload_n hx hb dX5_tests_152 rfl (lv_at hl 3 rfl) ?_
                refine m_calli (As := [.int r0]) (rest := [.ref h]) X hml G hA (c_M_topOf l dC dI cI cJ h ad _ (si (si (sm (si σ 16 f_9) m_9) 20 n_9) 5 ((σ.1 5) - 2)) r0 hr0 hr1) (cwV 1 hts gX5_tests_X5_topOf rfl rfl rfl (by decide +kernel) ⟨Nat.le_of_ble_eq_true rfl, Nat.le_of_ble_eq_true rfl⟩) rfl hl.1 rfl (Nat.le_of_ble_eq_true rfl) dX5_tests_153 ⟨Nat.zero_le _, Nat.zero_le _⟩ (fun r_153 u_153 H locs hw_153 G => ?_)
                obtain ⟨rfl, hu_153⟩ := hw_153
                rw [hu_153] at G
                refine lv_iload_n hx hb dX5_tests_156 rfl (lv_at hl 4 rfl) ?_
                refine m_callv (As := [.int (F_topOf (si (si (sm (si σ 16 f_9) m_9) 20 n_9) 5 ((σ.1 5) - 2)) r0), .int i0]) (rest := []) X hml G hA (c_M_begin l dC dI cI cJ h ad _ (si (si (sm (si σ 16 f_9) m_9) 20 n_9) 5 ((σ.1 5) - 2)) (F_topOf (si (si (sm (si σ 16 f_9) m_9) 20 n_9) 5 ((σ.1 5) - 2)) r0) i0 hi0 hl0 hl1 hs (ge0 (topOf_v hr0 hr1 hh0 hh1) (by omega)) (ltn (topOf_v hr0 hr1 hh0 hh1) (by omega)) (htx _ (cl_lt (ge0 (topOf_v hr0 hr1 hh0 hh1) (by omega)) (ltn (topOf_v hr0 hr1 hh0 hh1) (by omega))) c_121).1 (htx _ (cl_lt (ge0 (topOf_v hr0 hr1 hh0 hh1) (by omega)) (ltn (topOf_v hr0 hr1 hh0 hh1) (by omega))) c_121).2 (hmr.imp id (fun h9 h8 => h9 (isDone_si5.symm.trans h8)))) (cwV 2 hts gX5_tests_X5_begin rfl rfl rfl (by decide +kernel) ⟨Nat.le_of_ble_eq_true rfl, Nat.le_of_ble_eq_true rfl⟩) rfl hl.1 rfl (Nat.le_of_ble_eq_true rfl) dX5_tests_157 ⟨Nat.zero_le _, Nat.zero_le _⟩ (fun u_157 H locs hw_157 G => ?_)
                refine lv_iconst (v := 1) hx hb dX5_tests_160 (by decide) ?_
                exact m_zret X G hr hlocks rfl (by simp only [F_tests, hw_2, eq_false c_5, hw_9, eq_false c_12, eq_true c_20, eq_false c_29, eq_false c_102, eq_true c_121, hw_132, eq_false c_135, hw_157, ↓reduceIte, si_self, sm_self, si_snd, sm_fst, si20_16, not_false_eq_true, not_true_eq_false, eq_self] <;> rfl) dX5_tests_161
              · have c_135 : r_132 = 0 := c_135
                refine lv_iconst (v := 0) hx hb dX5_tests_138 (by decide) ?_
                exact m_zret X G hr hlocks rfl (by simp only [F_tests, hw_2, eq_false c_5, hw_9, eq_false c_12, eq_true c_20, eq_false c_29, eq_false c_102, eq_true c_121, hw_132, eq_true c_135, ↓reduceIte, si_self, sm_self, si_snd, sm_fst, si20_16, not_false_eq_true, not_true_eq_false, eq_self] <;> rfl) dX5_tests_139
            · have c_121 : ¬ ((σ.2.2.1 3 (F_topOf (si (sm (si σ 16 f_9) m_9) 20 n_9) r0).toNatClampNeg) < 0) := c_121
              refine lv_aload_n hx hb dX5_tests_124 rfl (lv_at hl 1 rfl) ?_
              refine lv_iconst (v := 3) hx hb dX5_tests_125 (by decide) ?_
              refine m_calli (As := [.int 3]) (rest := []) X hml G hA (c_M_fail l dC dI cI cJ h ad _ (si (sm (si σ 16 f_9) m_9) 20 n_9) 3) (cwV 1 hts gX5_tests_X5_fail rfl rfl rfl (by decide +kernel) ⟨Nat.le_of_ble_eq_true rfl, Nat.le_of_ble_eq_true rfl⟩) rfl hl.1 rfl (Nat.le_of_ble_eq_true rfl) dX5_tests_126 ⟨Nat.zero_le _, Nat.zero_le _⟩ (fun r_126 u_126 H locs hw_126 G => ?_)
              obtain ⟨rfl, rfl⟩ := hw_126
              exact m_zret X G hr hlocks rfl (by simp only [F_tests, hw_2, eq_false c_5, hw_9, eq_false c_12, eq_true c_20, eq_false c_29, eq_false c_102, eq_false c_121, ↓reduceIte, si_self, sm_self, si_snd, sm_fst, si20_16, not_false_eq_true, not_true_eq_false, eq_self] <;> rfl) dX5_tests_129
          · have c_102 : (σ.2.2.1 7 r0.toNatClampNeg) = 0 := c_102
            refine lv_aload_n hx hb dX5_tests_105 rfl (lv_at hl 1 rfl) ?_
            refine lv_iconst (v := 2) hx hb dX5_tests_106 (by decide) ?_
            refine m_calli (As := [.int 2]) (rest := []) X hml G hA (c_M_fail l dC dI cI cJ h ad _ (si (sm (si σ 16 f_9) m_9) 20 n_9) 2) (cwV 1 hts gX5_tests_X5_fail rfl rfl rfl (by decide +kernel) ⟨Nat.le_of_ble_eq_true rfl, Nat.le_of_ble_eq_true rfl⟩) rfl hl.1 rfl (Nat.le_of_ble_eq_true rfl) dX5_tests_107 ⟨Nat.zero_le _, Nat.zero_le _⟩ (fun r_107 u_107 H locs hw_107 G => ?_)
            obtain ⟨rfl, rfl⟩ := hw_107
            exact m_zret X G hr hlocks rfl (by simp only [F_tests, hw_2, eq_false c_5, hw_9, eq_false c_12, eq_true c_20, eq_false c_29, eq_true c_102, ↓reduceIte, si_self, sm_self, si_snd, sm_fst, si20_16, not_false_eq_true, not_true_eq_false, eq_self] <;> rfl) dX5_tests_110
    · have c_12 : r_9 = 0 := c_12
      refine lv_iconst (v := 0) hx hb dX5_tests_15 (by decide) ?_
      exact m_zret X G hr hlocks rfl (by simp only [F_tests, hw_2, eq_false c_5, hw_9, eq_true c_12, ↓reduceIte, si_self, sm_self, si_snd, sm_fst, si20_16, not_false_eq_true, not_true_eq_false, eq_self] <;> rfl) dX5_tests_16
def F_runs (σ : MS) (i0 : Int32) : Int32 × MS := let q_2 := F_have σ 1; if q_2.1 = 0 then ((0, q_2.2)) else if (σ.2.2.1 3 ((σ.1 5) - 1).toNatClampNeg) < 0 then (let q_28 := F_mayRun σ i0; if q_28.1 = 0 then ((0, q_28.2)) else let q_52 := F_begin (si σ 5 ((σ.1 5) - 1)) ((σ.1 5) - 1) i0; (1, q_52)) else (1, σ)
set_option maxHeartbeats 4000000 in
set_option maxRecDepth 100000 in
theorem c_M_runs (l : Launch) (dC : Nat → ClassId) (dI : Nat → Nat → Nat) (cI cJ : ClassId) (h : Nat) (ad : Nat → Nat) (sz : Nat) (σ : MS) (i0 : Int32) (hd : (σ.1 5).toInt ≤ 40) (htx : tx (σ.2.2.1 3) (σ.2.2.2 2)) (hi0 : 0 ≤ i0.toInt) (hl0 : 1 ≤ (σ.1 11).toInt) (hl1 : (σ.1 11).toInt ≤ 12) (hs : (σ.2.2.1 9 (σ.1 11 - 1).toNatClampNeg).toInt ≤ 160) : Met l yX5_runs wsX5_runs ({ frames := 3, cells := 0, slots := 0, locals := 67 } : Room) (va_Pc [.ref h, .int i0] (mPre dC dI cI cJ h ad sz σ)) (va_Qi (fun r u => F_runs σ i0 = (r, u)) (mAt dC dI cI cJ h ad (mA h ad cI cJ σ sz)) (mA h ad cI cJ σ sz)) 0 0 (mA h ad cI cJ σ sz) := by
  refine m_ofW (cc := cX5_runs) (maxL := 2) (ret := (some .boolean)) (by decide) rfl (by decide +kernel) rfl (Nat.le_of_ble_eq_true rfl) ?_
  intro p e s m below meth c X G hA hr hlocks hml ls hl
  have hl : lv_has ls 2 [(0, .ref h), (1, .int i0)] := hl
  have hx := X.1
  have hb := X.2.1
  have hts := X.2.2.1
  have hown := X.2.2.2.2.1
  have z0 : (0 : Int32).toInt = 0 := rfl
  have z1 : (1 : Int32).toInt = 1 := rfl
  have z2 : (2 : Int32).toInt = 2 := rfl
  refine lv_aload_n hx hb dX5_runs_0 rfl (lv_at hl 0 rfl) ?_
  refine lv_iconst (v := 1) hx hb dX5_runs_1 (by decide) ?_
  refine m_calli (As := [.int 1]) (rest := []) X hml G hA (c_M_have l dC dI cI cJ h ad _ σ 1) (cwV 1 hts gX5_runs_X5_have rfl rfl rfl (by decide +kernel) ⟨Nat.le_of_ble_eq_true rfl, Nat.le_of_ble_eq_true rfl⟩) rfl hl.1 rfl (Nat.le_of_ble_eq_true rfl) dX5_runs_2 ⟨Nat.zero_le _, Nat.zero_le _⟩ (fun r_2 u_2 H locs hw_2 G => ?_)
  refine lv_if_ne (tgt := 10) hx hb dX5_runs_5 (by decide) (fun c_5 => ?_) (fun c_5 => ?_)
  · have c_5 : ¬ (r_2 = 0) := c_5
    obtain ⟨rfl, hn⟩ := have_ok hw_2 c_5
    have hn : 1 ≤ (σ.1 5).toInt := hn
    refine lv_aload_n hx hb dX5_runs_10 rfl (lv_at hl 0 rfl) ?_
    refine m_get_3 X G (by decide +kernel) dX5_runs_11 ?_
    refine lv_aload_n hx hb dX5_runs_14 rfl (lv_at hl 0 rfl) ?_
    refine m_get_5 X G (by decide +kernel) dX5_runs_15 ?_
    refine lv_iconst (v := 1) hx hb dX5_runs_18 (by decide) ?_
    refine lv_isub hx hb dX5_runs_19 ?_
    refine m_ld_3 X G (vin (i_subE (rfl : (σ.1 5).toInt = _) (show (1 : Int32).toInt = 1 from rfl) (by omega) (by omega)) (by omega) (by omega)) dX5_runs_20 ?_
    refine lv_if_lt (tgt := 26) hx hb dX5_runs_21 (by decide) (fun c_21 => ?_) (fun c_21 => ?_)
    · have c_21 : (σ.2.2.1 3 ((σ.1 5) - 1).toNatClampNeg) < 0 := c_21
      refine lv_aload_n hx hb dX5_runs_26 rfl (lv_at hl 0 rfl) ?_
      refine lv_iload_n hx hb dX5_runs_27 rfl (lv_at hl 1 rfl) ?_
      refine m_calli (As := [.int i0]) (rest := []) X hml G hA (c_M_mayRun l dC dI cI cJ h ad _ σ i0 hi0 hl0 hl1 hs) (cwV 1 hts gX5_runs_X5_mayRun rfl rfl rfl (by decide +kernel) ⟨Nat.le_of_ble_eq_true rfl, Nat.le_of_ble_eq_true rfl⟩) rfl hl.1 rfl (Nat.le_of_ble_eq_true rfl) dX5_runs_28 ⟨Nat.zero_le _, Nat.zero_le _⟩ (fun r_28 u_28 H locs hw_28 G => ?_)
      refine lv_if_ne (tgt := 36) hx hb dX5_runs_31 (by decide) (fun c_31 => ?_) (fun c_31 => ?_)
      · have c_31 : ¬ (r_28 = 0) := c_31
        obtain ⟨rfl, hmr⟩ := mayRun_ok hw_28 c_31
        refine lv_aload_n hx hb dX5_runs_36 rfl (lv_at hl 0 rfl) ?_
        refine lv_dup hx hb dX5_runs_37 rfl ?_
        refine m_get_5 X G (by decide +kernel) dX5_runs_38 ?_
        refine lv_iconst (v := 1) hx hb dX5_runs_41 (by decide) ?_
        refine lv_isub hx hb dX5_runs_42 ?_
        refine m_put_5 X G (by decide +kernel) dX5_runs_43 (fun H locs G => ?_)
        refine lv_aload_n hx hb dX5_runs_46 rfl (lv_at hl 0 rfl) ?_
        refine lv_aload_n hx hb dX5_runs_47 rfl (lv_at hl 0 rfl) ?_
        refine m_get_5 X G (by decide +kernel) dX5_runs_48 ?_
        refine lv_iload_n hx hb dX5_runs_51 rfl (lv_at hl 1 rfl) ?_
        refine m_callv (As := [.int ((σ.1 5) - 1), .int i0]) (rest := []) X hml G hA (c_M_begin l dC dI cI cJ h ad _ (si σ 5 ((σ.1 5) - 1)) ((σ.1 5) - 1) i0 hi0 hl0 hl1 hs (ge0 (i_subE (rfl : (σ.1 5).toInt = _) (show (1 : Int32).toInt = 1 from rfl) (by omega) (by omega)) (by omega)) (ltn (i_subE (rfl : (σ.1 5).toInt = _) (show (1 : Int32).toInt = 1 from rfl) (by omega) (by omega)) (by omega)) (htx _ (cl_lt (ge0 (i_subE (rfl : (σ.1 5).toInt = _) (show (1 : Int32).toInt = 1 from rfl) (by omega) (by omega)) (by omega)) (ltn (i_subE (rfl : (σ.1 5).toInt = _) (show (1 : Int32).toInt = 1 from rfl) (by omega) (by omega)) (by omega))) c_21).1 (htx _ (cl_lt (ge0 (i_subE (rfl : (σ.1 5).toInt = _) (show (1 : Int32).toInt = 1 from rfl) (by omega) (by omega)) (by omega)) (ltn (i_subE (rfl : (σ.1 5).toInt = _) (show (1 : Int32).toInt = 1 from rfl) (by omega) (by omega)) (by omega))) c_21).2 (hmr.imp id (fun h9 h8 => h9 (isDone_si5.symm.trans h8)))) (cwV 2 hts gX5_runs_X5_begin rfl rfl rfl (by decide +kernel) ⟨Nat.le_of_ble_eq_true rfl, Nat.le_of_ble_eq_true rfl⟩) rfl hl.1 rfl (Nat.le_of_ble_eq_true rfl) dX5_runs_52 ⟨Nat.zero_le _, Nat.zero_le _⟩ (fun u_52 H locs hw_52 G => ?_)
        refine lv_iconst (v := 1) hx hb dX5_runs_55 (by decide) ?_
        exact m_zret X G hr hlocks rfl (by simp only [F_runs, hw_2, eq_false c_5, eq_true c_21, hw_28, eq_false c_31, hw_52, ↓reduceIte, si_self, sm_self, si_snd, sm_fst, si20_16, not_false_eq_true, not_true_eq_false, eq_self] <;> rfl) dX5_runs_56
      · have c_31 : r_28 = 0 := c_31
        refine lv_iconst (v := 0) hx hb dX5_runs_34 (by decide) ?_
        exact m_zret X G hr hlocks rfl (by simp only [F_runs, hw_2, eq_false c_5, eq_true c_21, hw_28, eq_true c_31, ↓reduceIte, si_self, sm_self, si_snd, sm_fst, si20_16, not_false_eq_true, not_true_eq_false, eq_self] <;> rfl) dX5_runs_35
    · have c_21 : ¬ ((σ.2.2.1 3 ((σ.1 5) - 1).toNatClampNeg) < 0) := c_21
      refine lv_iconst (v := 1) hx hb dX5_runs_24 (by decide) ?_
      exact m_zret X G hr hlocks rfl (by simp only [F_runs, hw_2, eq_false c_5, eq_false c_21, ↓reduceIte, si_self, sm_self, si_snd, sm_fst, si20_16, not_false_eq_true, not_true_eq_false, eq_self] <;> rfl) dX5_runs_25
  · have c_5 : r_2 = 0 := c_5
    refine lv_iconst (v := 0) hx hb dX5_runs_8 (by decide) ?_
    exact m_zret X G hr hlocks rfl (by simp only [F_runs, hw_2, eq_true c_5, ↓reduceIte, si_self, sm_self, si_snd, sm_fst, si20_16, not_false_eq_true, not_true_eq_false, eq_self] <;> rfl) dX5_runs_9
