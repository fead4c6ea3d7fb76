/-- the reference copies the program -/
theorem L63 {y0 len : Int32} (hl : 0 ≤ len.toInt ∧ len.toInt ≤ 160) : ∀ (m fu : Nat) (k : Int32) (τ : MS), τ.1 1 = len → 0 ≤ k.toInt → k.toInt ≤ len.toInt → (len.toInt - k.toInt).toNat = m → m < fu → ∃ υ : MS, F_run_L63 y0 fu k τ = F_run_L91 y0 200001 0 υ ∧ (RIs y0 200001 0 υ → RIt y0 fu k τ) ∧ υ.1 = τ.1 ∧ υ.2.2.2 = τ.2.2.2 ∧ (∀ q, q ≠ 8 → υ.2.2.1 q = τ.2.2.1 q) ∧ (∀ j : Nat, k.toInt ≤ j → (j : Int) < len.toInt → υ.2.2.1 8 j = τ.2.2.1 0 j) ∧ (∀ j : Nat, (j : Int) < k.toInt → υ.2.2.1 8 j = τ.2.2.1 8 j) := by
  intro m
  have z1 : (1 : Int32).toInt = 1 := rfl
  induction m with
  | zero =>
    intro fu k τ h1 h0 hk hm hfu
    obtain ⟨g, rfl⟩ : ∃ g, fu = g + 1 := ⟨fu - 1, by omega⟩
    have c : τ.1 1 ≤ k := by rw [h1, Int32.le_iff_toInt_le]; omega
    refine ⟨τ, by rw [F_run_L63, if_pos c], fun h => ?_, rfl, rfl, fun _ _ => rfl, fun j a b => by omega, fun _ _ => rfl⟩
    rw [RIt, if_pos c]; exact h
  | succ m ih =>
    intro fu k τ h1 h0 hk hm hfu
    obtain ⟨g, rfl⟩ : ∃ g, fu = g + 1 := ⟨fu - 1, by omega⟩
    have c : ¬ τ.1 1 ≤ k := by rw [h1, Int32.le_iff_toInt_le]; omega
    have ek : (k + 1).toInt = k.toInt + 1 := i_addE rfl z1 (by omega) (by omega)
    obtain ⟨υ, u1, u2, u3, u4, u5, u6, u7⟩ := ih g (k + 1) (sa τ 8 k.toNatClampNeg (τ.2.2.1 0 k.toNatClampNeg)) h1 (by omega) (by omega) (by omega) (by omega)
    refine ⟨υ, by rw [F_run_L63, if_neg c]; exact u1, fun h => ?_, u3, u4, fun q hq => by rw [u5 q hq]; simp [sa, hq], fun j a b => ?_, fun j hj => ?_⟩
    · rw [RIt, if_neg c]; exact u2 h
    · by_cases hj : (j : Int) = k.toInt
      · rw [u7 j (by omega)]
        have : j = k.toNatClampNeg := by rw [← Int32.toNat_toInt]; omega
        subst this
        simp only [sa, upd, ↓reduceIte]
      · rw [u6 j (by omega) b]
        simp only [sa, ↓reduceIte, show ¬ (0 = 8) by decide]
    · rw [u7 j (by omega)]
      simp only [sa, ↓reduceIte, upd]
      rw [if_neg (by rw [← Int32.toNat_toInt]; omega)]
/-- what was printed is forgotten, in both -/
theorem ST_clearP {σ : XS} {μ : MS} (h : ST σ μ) : ST (Xsh_clear σ 31) (si μ 14 0) := by
  obtain ⟨s1, s2, s3, s4, s5⟩ := h
  have e5 : (si μ 14 0).1 5 = μ.1 5 := by simp [si, upd]
  have e6 : (si μ 14 0).1 6 = μ.1 6 := by simp [si, upd]
  have e14 : (si μ 14 0).1 14 = 0 := by simp [si, upd]
  have z0 : (0 : Int32).toInt = 0 := rfl
  refine ⟨?_, fun r h4 => ?_, ⟨?_, ?_, ?_, fun i hi => ?_⟩, ?_, by rw [e6]; exact s5⟩
  · rw [e5]; exact shr_keep (xi_rs (by decide)) (xi_shq (by decide)) (fun _ _ => ⟨rfl, rfl, fun _ _ => rfl⟩) s1
  · exact shr_keep (ν := si μ 14 0) (xi_rs (by decide)) (xi_shq (by omega)) (fun _ _ => ⟨rfl, rfl, fun _ _ => rfl⟩) (s2 r h4)
  · rw [e14]; exact xi_1
  · rw [e14]; decide
  · rw [e14]; decide
  · rw [e14, z0] at hi; omega
  · rw [e6]; exact (xi_ne (by decide)).trans s4
/-- the states as the loops begin -/
def stX (σ : XS) : XS := Xnest_leaveAll (xi (Xsh_clear σ 31) 1 0)
def stM (μ : MS) : MS := sa (sa (si (si (si (si (si (si μ 17 1) 14 0) 15 0) 16 0) 18 0) 11 1) 9 (0 : Int32).toNatClampNeg (μ.1 1)) 10 (0 : Int32).toNatClampNeg 0
theorem stM_1 {μ : MS} : (stM μ).1 1 = μ.1 1 ∧ (stM μ).1 5 = μ.1 5 ∧ (stM μ).1 6 = μ.1 6 ∧ (stM μ).1 14 = 0 ∧ (stM μ).1 15 = 0 ∧ (stM μ).1 16 = 0 ∧ (stM μ).1 18 = 0 ∧ (stM μ).1 11 = 1 := by
  unfold stM
  refine ⟨?_, ?_, ?_, ?_, ?_, ?_, ?_, ?_⟩ <;> simp [sa, si, upd]
theorem stM_a {μ : MS} : (stM μ).2.2.2 = μ.2.2.2 ∧ (∀ q, q ≠ 9 → q ≠ 10 → (stM μ).2.2.1 q = μ.2.2.1 q) ∧ (stM μ).2.2.1 9 0 = μ.1 1 ∧ (stM μ).2.2.1 10 0 = 0 := by
  have z : (0 : Int32).toNatClampNeg = 0 := by decide
  unfold stM
  rw [z]
  refine ⟨rfl, fun q h9 h10 => ?_, ?_, ?_⟩
  · simp [sa, si, h9, h10]
  · simp [sa, si, upd]
  · simp [sa, upd]
theorem RI_st {μ : MS} (h : RI μ) : RI (stM μ) := by
  have h9 := h.2.2.2.2.2.2.2.2.2
  exact ri_at (by decide) (ri_size h9.1 h9.2 (ri_lev (by decide) (by decide) (ri_si (by decide) (ri_si (by decide) (ri_si (by decide) (ri_pri (by decide) (by decide) (ri_si (by decide) h)))))))
theorem Xrun_in {σ u : XS} {n : Int32} {f : Nat} (hf : f = 1000001) (hw : xWF σ) (h0 : 0 ≤ n.toInt) (h5 : n.toInt ≤ 500) (hen : Xnest_enter (stX σ) (some σ.2.2.2.2.1) 0 (σ.1 σ.2.2.2.2.1) = .inr u) : Xdesk_run σ n = Xdesk_run_L61 n f 0 u := by
  subst hf
  have z0 : (0 : Int32).toInt = 0 := rfl
  have z5 : (500 : Int32).toInt = 500 := by decide
  have h36 := hw.2.1
  have e : (stX σ).1 σ.2.2.2.2.1 = σ.1 σ.2.2.2.2.1 := by
    unfold stX Xnest_leaveAll Xsh_clear
    rw [xi_ne (by omega), xi_ne (by omega), xi_ne (by omega)]
  have e2 : (stX σ).2.2.2.2.1 = σ.2.2.2.2.1 := rfl
  unfold Xdesk_run
  rw [if_neg (by rw [Int32.lt_iff_toInt_lt]; omega), if_pos (by rw [Int32.le_iff_toInt_le]; omega)]
  dsimp only
  have hen' : Xnest_enter (Xnest_leaveAll (xi (Xsh_clear σ 31) 1 0)) (some (Xnest_leaveAll (xi (Xsh_clear σ 31) 1 0)).2.2.2.2.1) 0 ((Xnest_leaveAll (xi (Xsh_clear σ 31) 1 0)).1 (Xnest_leaveAll (xi (Xsh_clear σ 31) 1 0)).2.2.2.2.1) = .inr u := by
    have : (Xnest_leaveAll (xi (Xsh_clear σ 31) 1 0)) = stX σ := rfl
    rw [this, e2, e]; exact hen
  rw [hen']
theorem Frun_in {μ : MS} {n : Int32} {f : Nat} (hf : f = 161) (h : ¬ f_within n.toInt64 0 500 = 0) : F_run μ n = F_run_L63 n f 0 (stM μ) := by
  subst hf
  unfold F_run
  rw [if_neg h]
  rfl
theorem fuel_in {n : Int32} : f_within n.toInt64 0 500 = 0 ↔ ¬ (0 ≤ n.toInt ∧ n.toInt ≤ 500) := by
  have z0 : (0 : Int64).toInt = 0 := rfl
  have z5 : (500 : Int64).toInt = 500 := by decide
  have e := Int32.toInt_toInt64 n
  unfold f_within
  by_cases c1 : n.toInt64 < 0
  · rw [if_pos c1]; rw [Int64.lt_iff_toInt_lt] at c1; exact ⟨fun _ => by omega, fun _ => rfl⟩
  · rw [if_neg c1]
    rw [Int64.lt_iff_toInt_lt] at c1
    by_cases c2 : 500 < n.toInt64
    · rw [if_pos c2]; rw [Int64.lt_iff_toInt_lt] at c2; exact ⟨fun _ => by omega, fun _ => rfl⟩
    · rw [if_neg c2]; rw [Int64.lt_iff_toInt_lt] at c2; exact ⟨fun h => absurd h (by decide), fun h => absurd ⟨by omega, by omega⟩ h⟩
theorem L_P {n c W : Int} (h0 : c = 0) (hn : n ≤ 500) (hW : W ≤ 161) : W + 161 * (n - c) ≤ ((80661 : Nat) : Int) := by omega
/-- run, in both -/
theorem run_rel {σ : XS} {μ : MS} {n : Int32} {rx : (String × XS) ⊕ (Int32 × XS)} {rm : Int32 × MS} (hP : PS σ μ) (hR : RI μ) (hx : Xdesk_run σ n = rx) (hm : F_run μ n = rm) : rres rx rm ∧ (¬ f_within n.toInt64 0 500 = 0 → RIt n 161 0 (stM μ)) := by
  have z0 : (0 : Int32).toInt = 0 := rfl
  by_cases hin : 0 ≤ n.toInt ∧ n.toInt ≤ 500
  · have hnw : ¬ f_within n.toInt64 0 500 = 0 := fun e => fuel_in.mp e hin
    obtain ⟨hn0, hn5⟩ := hin
    obtain ⟨f1, hf1⟩ : ∃ f : Nat, f = 1000001 := ⟨_, rfl⟩
    obtain ⟨f2, hf2⟩ : ∃ f : Nat, f = 161 := ⟨_, rfl⟩
    obtain ⟨p1, p2, p3, p4, p5⟩ := id hP
    obtain ⟨m1, m5, m6, m14, m15, m16, m18, m11⟩ := stM_1 (μ := μ)
    obtain ⟨ma, mb, m9, m10⟩ := stM_a (μ := μ)
    have hln := hR.2.2.2.2.2.2.2.2.2
    have h36 := p1.2.1
    obtain ⟨r1, r2, r3⟩ := p2 _ p1.2
    have hps : (stX σ).1 σ.2.2.2.2.1 = σ.1 σ.2.2.2.2.1 := by
      unfold stX Xnest_leaveAll Xsh_clear
      rw [xi_ne (by omega), xi_ne (by omega), xi_ne (by omega)]
    have hs2 : (stX σ).1 2 = 0 := xi_1
    have hen := enter_eq (τ := stX σ) (r := some σ.2.2.2.2.1) (s := 0) (n := σ.1 σ.2.2.2.2.1) (by rw [hs2]; decide) (by rw [hs2]; decide)
    rw [hs2] at hen
    rw [Xrun_in hf1 p1 hn0 hn5 hen] at hx
    rw [Frun_in hf2 hnw] at hm
    obtain ⟨υ, u1, u2, u3, u4, u5, u6, -⟩ := L63 (y0 := n) (len := μ.1 1) hln ((μ.1 1).toInt - (0 : Int32).toInt).toNat f2 0 (stM μ) m1 (by decide) (by rw [z0]; exact hln.1) rfl (by rw [hf2, z0]; omega)
    rw [u1] at hm
    have hwu := enter_wf (σ := stX σ) (r0 := some σ.2.2.2.2.1) (s0 := 0) (n0 := σ.1 σ.2.2.2.2.1) p1 (fun k hk => by
      have e : k = σ.2.2.2.2.1 := (Option.some.inj hk).symm
      subst e; exact p1.2) hen
    have hrs : rs σ (stX σ) := (xi_rs (by decide)).tr ((xi_rs (by decide)).tr (xi_rs (by decide)))
    have hST : ST (ent (stX σ) (0 : Int32).toInt.toNat (some σ.2.2.2.2.1) 0 (σ.1 σ.2.2.2.2.1) (0 + 1)) υ := by
      have a1 := ST_tick (v := 0) (w := 0) (ST_clearP p3)
      have hk : kn (xi (Xsh_clear σ 31) 1 0) (ent (stX σ) (0 : Int32).toInt.toNat (some σ.2.2.2.2.1) 0 (σ.1 σ.2.2.2.2.1) (0 + 1)) := kn.tr (τ := stX σ) ⟨xi_rs (by decide), fun k hk => xi_ne hk, rfl, fun _ _ => rfl, fun _ _ _ => rfl⟩ ent_kn
      refine ST_kn hk ?_ ⟨?_, ?_, ?_, ?_⟩ ?_ (fun k => ⟨?_, ?_, fun j _ => ?_⟩) a1
      · rw [u3, m5]; simp [si, upd]
      · rw [u3, m14]; simp [si, upd]
      · rw [u3, m6]; simp [si, upd]
      · rw [u4, ma]; rfl
      · rw [u5 13 (by decide), mb 13 (by decide) (by decide)]; rfl
      · rw [u5 7 (by decide), mb 7 (by decide) (by decide)]; rfl
      · rw [u4, ma]; rfl
      · rw [u5 3 (by decide), mb 3 (by decide) (by decide)]; rfl
      · rw [u5 4 (by decide), mb 4 (by decide) (by decide)]; rfl
    have hke := ent_kn (τ := stX σ) (N := (0 : Int32).toInt.toNat) (r := some σ.2.2.2.2.1) (s := 0) (n := σ.1 σ.2.2.2.2.1) (v := 0 + 1)
    have hre : rs σ (ent (stX σ) (0 : Int32).toInt.toNat (some σ.2.2.2.2.1) 0 (σ.1 σ.2.2.2.2.1) (0 + 1)) := hrs.tr hke.1
    have hPu : PS (ent (stX σ) (0 : Int32).toInt.toNat (some σ.2.2.2.2.1) 0 (σ.1 σ.2.2.2.2.1) (0 + 1)) υ := by
      refine ⟨hwu, rok_rs hre p2, hST, prg_keep p1 hre (by rw [u3]; exact m1) (by rw [u5 0 (by decide)]; exact mb 0 (by decide) (by decide)) p4, ?_⟩
      rw [u3, m15, hke.2.1 1 (by decide)]
      unfold stX Xnest_leaveAll
      rw [xi_ne (by decide)]
      exact xi_1
    have hpe : σ.1 σ.2.2.2.2.1 = μ.1 1 := p4.1
    have hNu : NR (ent (stX σ) (0 : Int32).toInt.toNat (some σ.2.2.2.2.1) 0 (σ.1 σ.2.2.2.2.1) (0 + 1)) υ := by
      refine ent_NR (N := 0) (by decide) (by decide) (by rw [u3, m11]; decide) (fun l hl => absurd hl (Nat.not_lt_zero _)) p1.2 (by decide) (by rw [hpe]; exact hln.1) (by rw [hpe]; exact hln.2) (by rw [hps, z0]; omega) ?_ ?_ (fun j hj => ?_)
      · rw [u5 9 (by decide), m9]; exact hpe.symm
      · rw [u5 10 (by decide)]; exact m10
      · rw [hpe] at hj
        have e1 : (stX σ).2.1 (σ.2.2.2.2.1 + 1) = σ.2.1 (σ.2.2.2.2.1 + 1) := rfl
        rw [e1, Nat.mul_zero, Nat.zero_add, u6 j (by rw [z0]; omega) hj, mb 0 (by decide) (by decide)]
        have e2 : (0 : Int32).toInt.toNat + j = j := by rw [z0]; simp
        rw [e2]
        exact p4.2 j hj
    have hWu : Wt υ ≤ 161 := by
      unfold Wt
      rw [u3, m11]
      have e : (1 : Int32).toInt.toNat = 0 + 1 := by decide
      rw [e, wsum_succ, u5 9 (by decide), u5 10 (by decide), m9, m10, z0]
      show 0 + _ ≤ _
      omega
    have hRu : RI υ := by
      refine RI_of (RI_st hR) hST (fs_fc (fc_same (by rw [u4]) (u5 3 (by decide)))) (by rw [u3]) (by rw [u3, m11]; decide) (fun j hj => ?_)
      have q := RI_st hR
      rw [u5 9 (by decide), u5 10 (by decide)]
      exact ⟨q.2.2.2.2.2.1 j hj, q.2.2.2.2.2.2.1 j hj⟩
    have r := loop_rel hn0 hn5 80661 200001 f1 0 0 _ υ rx rm hx hm hPu hNu hRu (by rw [u3]; exact m16) (by rw [u3]; exact m18) (by rw [u3, m15]; decide) (by rw [u3, m15, z0]; exact hn0) (L_P (by rw [u3, m15]; rfl) hn5 hWu) (by decide) (by rw [hf1]; decide) (by decide) (by decide) (by decide) (by decide)
    exact ⟨r.1, fun _ => by rw [← hf2]; exact u2 r.2⟩
  · have hw0 : f_within n.toInt64 0 500 = 0 := fuel_in.mpr hin
    refine ⟨?_, fun h => absurd hw0 h⟩
    have z5 : (500 : Int32).toInt = 500 := by decide
    have eX : Xdesk_run σ n = .inl ("java/lang/IllegalArgumentException", σ) := by
      unfold Xdesk_run
      by_cases c : n < 0
      · rw [if_pos c]
      · rw [if_neg c]
        rw [Int32.lt_iff_toInt_lt] at c
        rw [if_neg (by rw [Int32.le_iff_toInt_le]; omega)]
    have eM : F_run μ n = (0, si μ 17 1) := by unfold F_run; rw [if_pos hw0]
    rw [eX] at hx
    rw [eM] at hm
    rw [← hx, ← hm]
    exact ⟨by rw [xcd_1]; simp [si, upd], PS_si (by decide) hP, ri_si (by decide) hR⟩
