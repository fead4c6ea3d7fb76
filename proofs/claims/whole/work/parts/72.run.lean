/-! the run -/
def rnext (y0 k1 : Int32) (τ : MS) : Option MS := if 200000 ≤ k1 then none else if (τ.1 11) ≤ 0 then none else if (τ.1 18) = 0 then (if (τ.1 16) = 0 then some (if (τ.2.2.1 10 ((τ.1 11) - 1).toNatClampNeg) < (τ.2.2.1 9 ((τ.1 11) - 1).toNatClampNeg) then (if (f_isNothing (τ.2.2.1 8 ((160 * ((τ.1 11) - 1)) + (τ.2.2.1 10 ((τ.1 11) - 1).toNatClampNeg)).toNatClampNeg)) = 0 then (if (τ.1 15) = y0 then (si τ 16 5) else if (F_command τ (τ.2.2.1 10 ((τ.1 11) - 1).toNatClampNeg)).1 = 0 then (F_command τ (τ.2.2.1 10 ((τ.1 11) - 1).toNatClampNeg)).2 else si (F_command τ (τ.2.2.1 10 ((τ.1 11) - 1).toNatClampNeg)).2 15 (((F_command τ (τ.2.2.1 10 ((τ.1 11) - 1).toNatClampNeg)).2.1 15) + 1)) else sa τ 10 ((τ.1 11) - 1).toNatClampNeg ((τ.2.2.1 10 ((τ.1 11) - 1).toNatClampNeg) + 1)) else si τ 11 ((τ.1 11) - 1)) else none) else none
def rend (τ : MS) : Int32 × MS := if (τ.1 16) ≤ 0 then (((τ.1 15), (si τ 17 (τ.1 16)))) else (0, (si τ 17 (τ.1 16)))
/-- the bounds hold at every state of the loop -/
def RIs (y0 : Int32) : Nat → Int32 → MS → Prop
  | 0, _, _ => True
  | f + 1, k1, τ => RI τ ∧ ∀ τ', rnext y0 k1 τ = some τ' → RIs y0 f (k1 + 1) τ'
def RIt (y0 : Int32) : Nat → Int32 → MS → Prop
  | 0, _, _ => True
  | f + 1, k1, τ => if (τ.1 1) ≤ k1 then RIs y0 200001 0 τ else RIt y0 f (k1 + 1) (sa τ 8 k1.toNatClampNeg (τ.2.2.1 0 k1.toNatClampNeg))
theorem L91_none {y0 k : Int32} {f : Nat} {τ : MS} (h : rnext y0 k τ = none) : F_run_L91 y0 (f + 1) k τ = rend τ := by
  rw [F_run_L91]
  unfold rnext at h
  unfold rend
  by_cases c1 : 200000 ≤ k
  · rw [if_pos c1]
  · rw [if_neg c1] at h ⊢
    by_cases c2 : τ.1 11 ≤ 0
    · rw [if_pos c2]
    · rw [if_neg c2] at h ⊢
      by_cases c3 : τ.1 18 = 0
      · rw [if_pos c3] at h ⊢
        by_cases c4 : τ.1 16 = 0
        · rw [if_pos c4] at h; exact absurd h (by simp)
        · rw [if_neg c4]
      · rw [if_neg c3]
theorem L91_some {y0 k : Int32} {f : Nat} {τ τ' : MS} (h : rnext y0 k τ = some τ') : F_run_L91 y0 (f + 1) k τ = F_run_L91 y0 f (k + 1) τ' := by
  rw [F_run_L91]
  unfold rnext at h
  by_cases c1 : 200000 ≤ k
  · rw [if_pos c1] at h; exact absurd h (by simp)
  · rw [if_neg c1] at h ⊢
    by_cases c2 : τ.1 11 ≤ 0
    · rw [if_pos c2] at h; exact absurd h (by simp)
    · rw [if_neg c2] at h ⊢
      by_cases c3 : τ.1 18 = 0
      · rw [if_pos c3] at h ⊢
        by_cases c4 : τ.1 16 = 0
        · rw [if_pos c4] at h ⊢
          have e := Option.some.inj h
          subst e
          by_cases c5 : (τ.2.2.1 10 ((τ.1 11) - 1).toNatClampNeg) < (τ.2.2.1 9 ((τ.1 11) - 1).toNatClampNeg)
          · rw [if_pos c5, if_pos c5]
            by_cases c6 : (f_isNothing (τ.2.2.1 8 ((160 * ((τ.1 11) - 1)) + (τ.2.2.1 10 ((τ.1 11) - 1).toNatClampNeg)).toNatClampNeg)) = 0
            · rw [if_pos c6, if_pos c6]
              by_cases c7 : (τ.1 15) = y0
              · rw [if_pos c7, if_pos c7]
              · rw [if_neg c7, if_neg c7]
                dsimp only
                by_cases c8 : (F_command τ (τ.2.2.1 10 ((τ.1 11) - 1).toNatClampNeg)).1 = 0
                · rw [if_pos c8, if_pos c8]
                · rw [if_neg c8, if_neg c8]
            · rw [if_neg c6, if_neg c6]
          · rw [if_neg c5, if_neg c5]
        · rw [if_neg c4] at h; exact absurd h (by simp)
      · rw [if_neg c3] at h; exact absurd h (by simp)
theorem rn_some {y0 k : Int32} {τ : MS} (hk : k.toInt < 200000) (hl : 1 ≤ (τ.1 11).toInt) (h18 : τ.1 18 = 0) (h16 : τ.1 16 = 0) : rnext y0 k τ = some (if (τ.2.2.1 10 ((τ.1 11) - 1).toNatClampNeg) < (τ.2.2.1 9 ((τ.1 11) - 1).toNatClampNeg) then (if (f_isNothing (τ.2.2.1 8 ((160 * ((τ.1 11) - 1)) + (τ.2.2.1 10 ((τ.1 11) - 1).toNatClampNeg)).toNatClampNeg)) = 0 then (if (τ.1 15) = y0 then (si τ 16 5) else if (F_command τ (τ.2.2.1 10 ((τ.1 11) - 1).toNatClampNeg)).1 = 0 then (F_command τ (τ.2.2.1 10 ((τ.1 11) - 1).toNatClampNeg)).2 else si (F_command τ (τ.2.2.1 10 ((τ.1 11) - 1).toNatClampNeg)).2 15 (((F_command τ (τ.2.2.1 10 ((τ.1 11) - 1).toNatClampNeg)).2.1 15) + 1)) else sa τ 10 ((τ.1 11) - 1).toNatClampNeg ((τ.2.2.1 10 ((τ.1 11) - 1).toNatClampNeg) + 1)) else si τ 11 ((τ.1 11) - 1)) := by
  have z2 : (200000 : Int32).toInt = 200000 := by decide
  have z0 : (0 : Int32).toInt = 0 := rfl
  unfold rnext
  rw [if_neg (by rw [Int32.le_iff_toInt_le]; omega), if_neg (by rw [Int32.le_iff_toInt_le]; omega), if_pos h18, if_pos h16]
theorem rn_fault {y0 k : Int32} {τ : MS} (h : ¬ τ.1 16 = 0) : rnext y0 k τ = none := by
  unfold rnext
  rw [if_neg h, ite_self, ite_self, ite_self]
theorem rn_over {y0 k : Int32} {τ : MS} (h : ¬ τ.1 18 = 0) : rnext y0 k τ = none := by
  unfold rnext
  rw [if_neg h, ite_self, ite_self]
theorem rn_lev {y0 k : Int32} {τ : MS} (h : τ.1 11 ≤ 0) : rnext y0 k τ = none := by
  unfold rnext
  rw [if_pos h, ite_self]
theorem RIs_end {y0 k : Int32} {f : Nat} {τ : MS} (hR : RI τ) (h : rnext y0 k τ = none) : RIs y0 (f + 1) k τ := ⟨hR, fun τ' e => by rw [h] at e; exact absurd e (by simp)⟩
theorem RIs_next {y0 k : Int32} {f : Nat} {τ τ' : MS} (hR : RI τ) (h : rnext y0 k τ = some τ') (hn : RIs y0 f (k + 1) τ') : RIs y0 (f + 1) k τ := ⟨hR, fun τ2 e => by rw [h] at e; have e := Option.some.inj e; subst e; exact hn⟩
theorem sa_same {τ : MS} {k j : Nat} {v : Int32} (h : τ.2.2.1 k j = v) : sa τ k j v = τ := by
  obtain ⟨a, b, c, d⟩ := τ
  unfold sa
  refine Prod.ext rfl (Prod.ext rfl (Prod.ext ?_ rfl))
  funext q
  dsimp only
  by_cases e : q = k
  · rw [if_pos e, e]
    funext i
    unfold upd
    by_cases e2 : i = j
    · rw [if_pos e2, e2]; exact h.symm
    · rw [if_neg e2]
  · rw [if_neg e]
theorem sa_twice {τ : MS} {k j : Nat} {v w : Int32} : sa (sa τ k j v) k j w = sa τ k j w := by
  unfold sa
  refine Prod.ext rfl (Prod.ext rfl (Prod.ext ?_ rfl))
  funext q
  dsimp only
  by_cases e : q = k
  · rw [if_pos e, if_pos e, if_pos rfl]
    funext i
    unfold upd
    by_cases e2 : i = j
    · rw [if_pos e2, if_pos e2]
    · rw [if_neg e2, if_neg e2, if_neg e2]
  · rw [if_neg e, if_neg e, if_neg e]
theorem ofI {a : Int} (h0 : 0 ≤ a) (h1 : a ≤ 1000000) : (Int32.ofInt a).toInt = a := by
  rw [Int32.toInt_ofInt]; exact i_bm (by omega) (by omega)
/-- the reference passes blanks, one a round -/
theorem M_bl {y0 : Int32} : ∀ (d f : Nat) (k v : Int32) (τ : MS), 1 ≤ (τ.1 11).toInt → (τ.1 11).toInt ≤ 12 → τ.1 18 = 0 → τ.1 16 = 0 → 0 ≤ (τ.2.2.1 10 ((τ.1 11).toInt - 1).toNat).toInt → v.toInt = (τ.2.2.1 10 ((τ.1 11).toInt - 1).toNat).toInt + d → v.toInt ≤ (τ.2.2.1 9 ((τ.1 11).toInt - 1).toNat).toInt → (τ.2.2.1 9 ((τ.1 11).toInt - 1).toNat).toInt ≤ 160 → (∀ j : Nat, (τ.2.2.1 10 ((τ.1 11).toInt - 1).toNat).toInt ≤ j → (j : Int) < v.toInt → blk (τ.2.2.1 8 (160 * ((τ.1 11).toInt - 1).toNat + j))) → 0 ≤ k.toInt → k.toInt + d < 200000 → ∃ k' : Int32, k'.toInt = k.toInt + d ∧ F_run_L91 y0 (f + d) k τ = F_run_L91 y0 f k' (sa τ 10 ((τ.1 11).toInt - 1).toNat v) ∧ (RI τ → RIs y0 f k' (sa τ 10 ((τ.1 11).toInt - 1).toNat v) → RIs y0 (f + d) k τ) := by
  intro d
  induction d with
  | zero =>
    intro f k v τ h1 h2 h18 h16 ha hv hs h160 hb hk hk2
    have e : τ.2.2.1 10 ((τ.1 11).toInt - 1).toNat = v := Int32.toInt_inj.mp (by rw [hv]; simp)
    rw [sa_same e]
    exact ⟨k, by simp, rfl, fun _ h => h⟩
  | succ d ih =>
    intro f k v τ h1 h2 h18 h16 ha hv hs h160 hb hk hk2
    have z1 : (1 : Int32).toInt = 1 := rfl
    rw [Int.natCast_add, Int.natCast_one] at hv hk2
    have hL := lvN h1 h2
    have ea : (τ.2.2.1 10 ((τ.1 11).toInt - 1).toNat + 1).toInt = (τ.2.2.1 10 ((τ.1 11).toInt - 1).toNat).toInt + 1 := i_addE rfl z1 (by omega) (by omega)
    have ek : (k + 1).toInt = k.toInt + 1 := i_addE rfl z1 (by omega) (by omega)
    have hbl := hb (τ.2.2.1 10 ((τ.1 11).toInt - 1).toNat).toInt.toNat (by omega) (by omega)
    have hix := (ix_lv (μ := τ) (i := τ.2.2.1 10 ((τ.1 11).toInt - 1).toNat) h1 h2 ⟨ha, by omega⟩).2
    have hn : rnext y0 k τ = some (sa τ 10 ((τ.1 11).toInt - 1).toNat (τ.2.2.1 10 ((τ.1 11).toInt - 1).toNat + 1)) := by
      rw [rn_some (by omega) h1 h18 h16, hL, hix, if_pos (by rw [Int32.lt_iff_toInt_lt]; omega), if_neg (fun e => isNothing_eq.mp e hbl)]
    have at1 : (sa τ 10 ((τ.1 11).toInt - 1).toNat (τ.2.2.1 10 ((τ.1 11).toInt - 1).toNat + 1)).2.2.1 10 ((τ.1 11).toInt - 1).toNat = τ.2.2.1 10 ((τ.1 11).toInt - 1).toNat + 1 := by
      rw [sa10_10]; unfold upd; exact if_pos rfl
    obtain ⟨k', q1, q2, q3⟩ := ih f (k + 1) v (sa τ 10 ((τ.1 11).toInt - 1).toNat (τ.2.2.1 10 ((τ.1 11).toInt - 1).toNat + 1)) h1 h2 h18 h16 (by show 0 ≤ ((sa τ 10 ((τ.1 11).toInt - 1).toNat (τ.2.2.1 10 ((τ.1 11).toInt - 1).toNat + 1)).2.2.1 10 ((τ.1 11).toInt - 1).toNat).toInt; rw [at1, ea]; omega) (by show v.toInt = ((sa τ 10 ((τ.1 11).toInt - 1).toNat (τ.2.2.1 10 ((τ.1 11).toInt - 1).toNat + 1)).2.2.1 10 ((τ.1 11).toInt - 1).toNat).toInt + d; rw [at1, ea]; omega) (by rw [sa10_9]; exact hs) (by rw [sa10_9]; exact h160) (by
      intro j j1 j2
      have j1' : ((sa τ 10 ((τ.1 11).toInt - 1).toNat (τ.2.2.1 10 ((τ.1 11).toInt - 1).toNat + 1)).2.2.1 10 ((τ.1 11).toInt - 1).toNat).toInt ≤ j := j1
      rw [at1, ea] at j1'
      rw [sa10_8]
      exact hb j (by omega) j2) (by omega) (by omega)
    have e9 : sa (sa τ 10 ((τ.1 11).toInt - 1).toNat (τ.2.2.1 10 ((τ.1 11).toInt - 1).toNat + 1)) 10 ((τ.1 11).toInt - 1).toNat v = sa τ 10 ((τ.1 11).toInt - 1).toNat v := sa_twice
    have q2' : F_run_L91 y0 (f + d) (k + 1) (sa τ 10 ((τ.1 11).toInt - 1).toNat (τ.2.2.1 10 ((τ.1 11).toInt - 1).toNat + 1)) = F_run_L91 y0 f k' (sa (sa τ 10 ((τ.1 11).toInt - 1).toNat (τ.2.2.1 10 ((τ.1 11).toInt - 1).toNat + 1)) 10 ((τ.1 11).toInt - 1).toNat v) := q2
    have q3' : RI (sa τ 10 ((τ.1 11).toInt - 1).toNat (τ.2.2.1 10 ((τ.1 11).toInt - 1).toNat + 1)) → RIs y0 f k' (sa (sa τ 10 ((τ.1 11).toInt - 1).toNat (τ.2.2.1 10 ((τ.1 11).toInt - 1).toNat + 1)) 10 ((τ.1 11).toInt - 1).toNat v) → RIs y0 (f + d) (k + 1) (sa τ 10 ((τ.1 11).toInt - 1).toNat (τ.2.2.1 10 ((τ.1 11).toInt - 1).toNat + 1)) := q3
    rw [e9] at q2' q3'
    refine ⟨k', by rw [q1, ek, Int.natCast_add, Int.natCast_one]; omega, ?_, fun hR hr => ?_⟩
    · rw [← Nat.add_assoc, L91_some hn]; exact q2'
    · rw [← Nat.add_assoc]
      exact RIs_next hR hn (q3' (ri_at (by rw [ea]; omega) hR) hr)
/-! the class's loop, a step at a time -/
theorem XL_done {n k : Int32} {f : Nat} {σ : XS} (h : σ.1 2 ≤ 0) : Xdesk_run_L61 n (f + 1) k σ = .inr (σ.1 1, σ) := by
  rw [Xdesk_run_L61]
  unfold Xdesk_run_S61
  rw [if_pos h, ite_self]
theorem XL_leave {n k : Int32} {f : Nat} {σ : XS} (hk : k.toInt < 1000000) (h : 1 ≤ (σ.1 2).toInt) (hl : Xnest_look (Xnest_skipBlanks σ) = 0) : Xdesk_run_L61 n (f + 1) k σ = Xdesk_run_L61 n f (k + 1) (Xnest_leave (Xnest_skipBlanks σ)) := by
  have z2 : (1000000 : Int32).toInt = 1000000 := by decide
  have z0 : (0 : Int32).toInt = 0 := rfl
  rw [Xdesk_run_L61]
  unfold Xdesk_run_S61
  rw [if_neg (by rw [Int32.le_iff_toInt_le]; omega), if_neg (by rw [Int32.le_iff_toInt_le]; omega)]
  dsimp only
  rw [if_pos hl]
theorem XL_fuel {n k : Int32} {f : Nat} {σ : XS} (hk : k.toInt < 1000000) (h : 1 ≤ (σ.1 2).toInt) (hl : ¬ Xnest_look (Xnest_skipBlanks σ) = 0) (hc : ¬ (Xnest_skipBlanks σ).1 1 < n) : Xdesk_run_L61 n (f + 1) k σ = .inl ("java/lang/UnsupportedOperationException", Xnest_skipBlanks σ) := by
  have z2 : (1000000 : Int32).toInt = 1000000 := by decide
  have z0 : (0 : Int32).toInt = 0 := rfl
  rw [Xdesk_run_L61]
  unfold Xdesk_run_S61
  rw [if_neg (by rw [Int32.le_iff_toInt_le]; omega), if_neg (by rw [Int32.le_iff_toInt_le]; omega)]
  dsimp only
  rw [if_neg hl, if_neg hc]
theorem XL_bad {n k : Int32} {f : Nat} {σ : XS} {e : String × XS} (hk : k.toInt < 1000000) (h : 1 ≤ (σ.1 2).toInt) (hl : ¬ Xnest_look (Xnest_skipBlanks σ) = 0) (hc : (Xnest_skipBlanks σ).1 1 < n) (hd : Xdesk_doCommand (Xnest_skipBlanks σ) = .inl e) : Xdesk_run_L61 n (f + 1) k σ = .inl e := by
  have z2 : (1000000 : Int32).toInt = 1000000 := by decide
  have z0 : (0 : Int32).toInt = 0 := rfl
  rw [Xdesk_run_L61]
  unfold Xdesk_run_S61
  rw [if_neg (by rw [Int32.le_iff_toInt_le]; omega), if_neg (by rw [Int32.le_iff_toInt_le]; omega)]
  dsimp only
  rw [if_neg hl, if_pos hc, hd]
theorem XL_cmd {n k : Int32} {f : Nat} {σ u : XS} (hk : k.toInt < 1000000) (h : 1 ≤ (σ.1 2).toInt) (hl : ¬ Xnest_look (Xnest_skipBlanks σ) = 0) (hc : (Xnest_skipBlanks σ).1 1 < n) (hd : Xdesk_doCommand (Xnest_skipBlanks σ) = .inr u) : Xdesk_run_L61 n (f + 1) k σ = Xdesk_run_L61 n f (k + 1) (xi u 1 (u.1 1 + 1)) := by
  have z2 : (1000000 : Int32).toInt = 1000000 := by decide
  have z0 : (0 : Int32).toInt = 0 := rfl
  rw [Xdesk_run_L61]
  unfold Xdesk_run_S61
  rw [if_neg (by rw [Int32.le_iff_toInt_le]; omega), if_neg (by rw [Int32.le_iff_toInt_le]; omega)]
  dsimp only
  rw [if_neg hl, if_pos hc, hd]
/-- a run's outcome -/
def rres (rx : (String × XS) ⊕ (Int32 × XS)) (rm : Int32 × MS) : Prop := match rx with
  | .inr p => rm.1 = p.1 ∧ rm.2.1 17 = 0 ∧ PS p.2 rm.2 ∧ RI rm.2
  | .inl e => rm.2.1 17 = xcd e.1 ∧ PS e.2 rm.2 ∧ RI rm.2
theorem PS_m {σ : XS} {μ ν : MS} (h : PS σ μ) (h1 : ∀ k, k ≠ 11 → k ≠ 16 → k ≠ 17 → k ≠ 18 → ν.1 k = μ.1 k) (h2 : ν.2.2.2 = μ.2.2.2) (h3 : ∀ k, k ≠ 8 → k ≠ 9 → k ≠ 10 → ν.2.2.1 k = μ.2.2.1 k) : PS σ ν := by
  obtain ⟨p1, p2, p3, p4, p5⟩ := h
  refine ⟨p1, p2, ?_, ?_, ?_⟩
  · refine ST_kn kn.rf (h1 5 (by decide) (by decide) (by decide) (by decide)) ⟨h1 14 (by decide) (by decide) (by decide) (by decide), h1 6 (by decide) (by decide) (by decide) (by decide), by rw [h2], h3 13 (by decide) (by decide) (by decide)⟩ (h3 7 (by decide) (by decide) (by decide)) (fun k => ⟨by rw [h2], by rw [h3 3 (by decide) (by decide) (by decide)], fun j _ => by rw [h3 4 (by decide) (by decide) (by decide)]⟩) p3
  · exact prg_keep p1 rs.rf (h1 1 (by decide) (by decide) (by decide) (by decide)) (h3 0 (by decide) (by decide) (by decide)) p4
  · rw [h1 15 (by decide) (by decide) (by decide) (by decide)]; exact p5
theorem PS_kn {σ u : XS} {μ : MS} (hk : kn σ u) (hw : xWF u) (h : PS σ μ) : PS u μ := by
  obtain ⟨p1, p2, p3, p4, p5⟩ := h
  exact ⟨hw, rok_rs hk.1 p2, ST_kn hk rfl mrest.rf rfl (fun _ => msame.rf) p3, prg_keep p1 hk.1 rfl rfl p4, by rw [hk.2.1 1 (by decide)]; exact p5⟩
theorem PS_si {σ : XS} {μ : MS} {k : Nat} {v : Int32} (hk : k = 11 ∨ k = 16 ∨ k = 17 ∨ k = 18) (h : PS σ μ) : PS σ (si μ k v) := by
  refine PS_m h (fun j a b c d => ?_) rfl (fun _ _ _ _ => rfl)
  show upd μ.1 k v j = μ.1 j
  unfold upd
  rw [if_neg (by omega)]
theorem PS_sa {σ : XS} {μ : MS} {j : Nat} {v : Int32} (h : PS σ μ) : PS σ (sa μ 10 j v) := PS_m h (fun _ _ _ _ _ => rfl) rfl (fun k _ _ h10 => by simp [sa, h10])
theorem ST_tick {u : XS} {ν : MS} {v w : Int32} (h : ST u ν) : ST (xi u 1 v) (si ν 15 w) := by
  obtain ⟨s1, s2, s3, s4, s5⟩ := h
  have e5 : (si ν 15 w).1 5 = ν.1 5 := by simp [si, upd]
  have e6 : (si ν 15 w).1 6 = ν.1 6 := by simp [si, upd]
  refine ⟨?_, fun r h4 => ?_, prn_keep (xi_shq (by decide)) ⟨by simp [si, upd], e6, rfl, rfl⟩ s3, ?_, by rw [e6]; exact s5⟩
  · rw [e5]; exact shr_keep (xi_rs (by decide)) (xi_shq (by decide)) (fun _ _ => ⟨rfl, rfl, fun _ _ => rfl⟩) s1
  · exact shr_keep (ν := si ν 15 w) (xi_rs (by decide)) (xi_shq (by omega)) (fun _ _ => ⟨rfl, rfl, fun _ _ => rfl⟩) (s2 r h4)
  · rw [e6]; exact (xi_ne (by decide)).trans s4
theorem PS_tick {u : XS} {ν : MS} (h : PS u ν) : PS (xi u 1 (u.1 1 + 1)) (si ν 15 (ν.1 15 + 1)) := by
  obtain ⟨p1, p2, p3, p4, p5⟩ := h
  refine ⟨p1, rok_rs (xi_rs (by decide)) p2, ST_tick p3, prg_keep p1 (xi_rs (by decide)) (by simp [si, upd]) rfl p4, ?_⟩
  rw [p5]
  simp [xi, si, upd]
theorem NR_tick {u : XS} {ν : MS} {v w : Int32} (h : NR u ν) : NR (xi u 1 v) (si ν 15 w) := by
  obtain ⟨⟨c1, c2, c3⟩, hl⟩ := h
  have e11 : (si ν 15 w).1 11 = ν.1 11 := by simp [si, upd]
  refine ⟨⟨by rw [e11]; exact (xi_ne (by decide)).trans c1, by rw [e11]; exact c2, by rw [e11]; exact c3⟩, fun l hl9 => ?_⟩
  rw [e11] at hl9
  exact lvl_keep (xi_rs (by decide)) rfl rfl rfl rfl rfl rfl (hl l hl9)
theorem Wt_arr {μ ν : MS} (h11 : ν.1 11 = μ.1 11) (h9 : ν.2.2.1 9 = μ.2.2.1 9) (h10 : ν.2.2.1 10 = μ.2.2.1 10) : Wt ν = Wt μ := by
  unfold Wt
  rw [h11]
  have : ∀ L, wsum ν L = wsum μ L := by
    intro L
    induction L with
    | zero => rfl
    | succ L ih => rw [wsum_succ, wsum_succ, ih, h9, h10]
  exact this _
theorem Wt_leave {μ : MS} (h1 : 1 ≤ (μ.1 11).toInt) (h2 : (μ.1 11).toInt ≤ 12) : Wt μ = Wt (si μ 11 (μ.1 11 - 1)) + ((μ.2.2.1 9 ((μ.1 11).toInt - 1).toNat).toInt - (μ.2.2.1 10 ((μ.1 11).toInt - 1).toNat).toInt + 1) := by
  have e : (μ.1 11 - 1).toInt = (μ.1 11).toInt - 1 := i_subE rfl (show (1 : Int32).toInt = 1 from rfl) (by omega) (by omega)
  have eL : (μ.1 11).toInt.toNat = ((μ.1 11).toInt - 1).toNat + 1 := by omega
  have key : ∀ L, wsum (si μ 11 (μ.1 11 - 1)) L = wsum μ L := by
    intro L
    induction L with
    | zero => rfl
    | succ L ih => rw [wsum_succ, wsum_succ, ih]; rfl
  have e1 : Wt (si μ 11 (μ.1 11 - 1)) = wsum μ ((μ.1 11).toInt - 1).toNat := by
    unfold Wt
    rw [show (si μ 11 (μ.1 11 - 1)).1 11 = μ.1 11 - 1 by simp [si, upd], e, key]
  have e2 : Wt μ = wsum μ (((μ.1 11).toInt - 1).toNat + 1) := by rw [← eL]; rfl
  rw [e1, e2, wsum_succ]
theorem wsum_pos {u : XS} {μ : MS} : ∀ L : Nat, (∀ l : Nat, l < L → lvl u l μ) → (L : Int) ≤ wsum μ L := by
  intro L
  induction L with
  | zero => intro _; exact Int.le_refl _
  | succ L ih =>
    intro h
    have h1 := ih (fun l hl => h l (Nat.lt_succ_of_lt hl))
    obtain ⟨n, st, a, ha, b1, b2, -⟩ := h L (Nat.lt_succ_self _)
    have a7 := ha.2.2.2.2.2.2.1
    rw [wsum_succ, Int.natCast_add, Int.natCast_one]
    omega
theorem Wt_pos {u : XS} {μ : MS} (h : NR u μ) : (μ.1 11).toInt ≤ Wt μ := by
  have := wsum_pos (u := u) (μ := μ) (μ.1 11).toInt.toNat (fun l hl => h.2 l (by omega))
  have h0 := h.1.2.1
  unfold Wt
  omega
theorem leave_eq {σ : XS} {μ : MS} (h : cntR σ μ) (h1 : 1 ≤ (μ.1 11).toInt) : Xnest_leave σ = xi σ 2 (μ.1 11 - 1) := by
  obtain ⟨c1, c2, c3⟩ := h
  have z0 : (0 : Int32).toInt = 0 := rfl
  have eL : (μ.1 11 - 1).toInt = (μ.1 11).toInt - 1 := i_subE rfl (show (1 : Int32).toInt = 1 from rfl) (by omega) (by omega)
  unfold Xnest_leave
  rw [c1]
  by_cases c9 : (0 : Int32) < μ.1 11 - 1
  · rw [if_pos c9]
  · rw [if_neg c9]
    congr 1
    apply Int32.toInt_inj.mp
    rw [Int32.lt_iff_toInt_lt, z0, eL] at c9
    rw [z0, eL]; omega
theorem leave_rel {σ : XS} {μ : MS} {i : Int} (hP : PS σ μ) (hn : NX σ μ i) : PS (Xnest_leave σ) (si μ 11 (μ.1 11 - 1)) ∧ NR (Xnest_leave σ) (si μ 11 (μ.1 11 - 1)) := by
  obtain ⟨hc, h1, hl, -⟩ := hn
  have eL : (μ.1 11 - 1).toInt = (μ.1 11).toInt - 1 := i_subE rfl (show (1 : Int32).toInt = 1 from rfl) (by have := hc.2.2; omega) (by have := hc.2.2; omega)
  have e11 : (si μ 11 (μ.1 11 - 1)).1 11 = μ.1 11 - 1 := by simp [si, upd]
  have hk : kn σ (xi σ 2 (μ.1 11 - 1)) := ⟨xi_rs (by decide), fun k hk => xi_ne hk, rfl, fun _ _ => rfl, fun _ _ _ => rfl⟩
  rw [leave_eq hc h1]
  refine ⟨PS_si (Or.inl rfl) (PS_kn hk hP.1 hP), ⟨?_, ?_, ?_⟩, fun l hl9 => ?_⟩
  · rw [e11]; exact xi_1
  · rw [e11, eL]; omega
  · rw [e11, eL]; have := hc.2.2; omega
  · rw [e11, eL] at hl9
    exact lvl_keep (xi_rs (by decide)) rfl rfl rfl rfl rfl rfl (hl l hl9)
/-- blanks passed in both -/
theorem stage {σ : XS} {τ : MS} (hr : rok σ) (hN : NR σ τ) (h1 : 1 ≤ (τ.1 11).toInt) : ∃ (v : Int32) (d : Nat), v.toInt = (τ.2.2.1 10 ((τ.1 11).toInt - 1).toNat).toInt + d ∧ 0 ≤ (τ.2.2.1 10 ((τ.1 11).toInt - 1).toNat).toInt ∧ v.toInt ≤ (τ.2.2.1 9 ((τ.1 11).toInt - 1).toNat).toInt ∧ (τ.2.2.1 9 ((τ.1 11).toInt - 1).toNat).toInt ≤ 160 ∧ (∀ j : Nat, (τ.2.2.1 10 ((τ.1 11).toInt - 1).toNat).toInt ≤ j → (j : Int) < v.toInt → blk (τ.2.2.1 8 (160 * ((τ.1 11).toInt - 1).toNat + j))) ∧ NX (Xnest_skipBlanks σ) τ v.toInt ∧ kp σ (Xnest_skipBlanks σ) ∧ (v.toInt < (τ.2.2.1 9 ((τ.1 11).toInt - 1).toNat).toInt → ¬ blk (τ.2.2.1 8 (160 * ((τ.1 11).toInt - 1).toNat + v.toInt.toNat))) := by
  have c3 := hN.1.2.2
  obtain ⟨n, st, a, ha, b1, b2, b3⟩ := hN.2 ((τ.1 11).toInt - 1).toNat (by omega)
  have a6 := ha.2.2.2.2.2.1
  have a7 := ha.2.2.2.2.2.2.1
  have a8 := ha.2.2.2.2.2.2.2.1
  have hx : NX σ τ (Int32.ofInt a).toInt := by
    rw [ofI a6 (by omega)]
    exact ⟨hN.1, h1, fun l hl => hN.2 l (by omega), n, st, ha⟩
  have ea := ofI (a := a) a6 (by omega)
  clear ha
  obtain ⟨s1, s2, s3⟩ := sk_ar (S := (τ.2.2.1 9 ((τ.1 11).toInt - 1).toNat).toInt) (i := (Int32.ofInt a).toInt) (by omega) a8
  obtain ⟨i', q1, q2, q3, q4, q5, q6, -⟩ := skip_done (μ := τ) (x0 := 0) (v2 := τ.1 11 - 1) rfl ((τ.2.2.1 9 ((τ.1 11).toInt - 1).toNat).toInt - (Int32.ofInt a).toInt).toNat 161 (((τ.2.2.1 9 ((τ.1 11).toInt - 1).toNat).toInt - (Int32.ofInt a).toInt).toNat + 1) σ (Int32.ofInt a) 0 hx hr rfl s1 s2 (by decide) s3
  have hsk : Xnest_skipBlanks_L2 161 0 σ = Xnest_skipBlanks σ := rfl
  rw [hsk] at q3 q4
  rw [ea] at q1 q5
  have ei := ofI (a := i') (by omega) (by omega)
  refine ⟨Int32.ofInt i', (i' - (τ.2.2.1 10 ((τ.1 11).toInt - 1).toNat).toInt).toNat, by rw [ei]; omega, b1, by rw [ei]; exact q2, a8, fun j j1 j2 => ?_, by rw [ei]; exact q3, q4, by rw [ei]; exact q6⟩
  rw [ei] at j2
  by_cases hj : (j : Int) < a
  · exact b3 j j1 hj
  · exact q5 j (by omega) j2
theorem xcd_ne {E : String} : ¬ xcd E = 0 ∧ ¬ xcd E ≤ 0 := by
  unfold xcd
  repeat' split
  all_goals exact ⟨by decide, by decide⟩
theorem end_bad {y0 k : Int32} {f : Nat} {τ : MS} {u : XS} {E : String} (hP : PS u τ) (hR : RI τ) (h16 : τ.1 16 = xcd E) : rres (.inl (E, u)) (F_run_L91 y0 (f + 1) k τ) ∧ RIs y0 (f + 1) k τ := by
  have hn : rnext y0 k τ = none := rn_fault (by rw [h16]; exact xcd_ne.1)
  rw [L91_none hn]
  refine ⟨?_, RIs_end hR hn⟩
  unfold rend
  rw [h16, if_neg xcd_ne.2]
  exact ⟨by simp [si, upd], PS_si (by decide) hP, ri_si (by decide) hR⟩
theorem end_good {y0 k : Int32} {f : Nat} {τ : MS} {u : XS} (hP : PS u τ) (hR : RI τ) (h16 : τ.1 16 = 0) (hn : rnext y0 k τ = none) : rres (.inr (u.1 1, u)) (F_run_L91 y0 (f + 1) k τ) ∧ RIs y0 (f + 1) k τ := by
  rw [L91_none hn]
  refine ⟨?_, RIs_end hR hn⟩
  unfold rend
  rw [h16, if_pos (by decide)]
  exact ⟨hP.2.2.2.2.symm, by simp [si, upd], PS_si (by decide) hP, ri_si (by decide) hR⟩
