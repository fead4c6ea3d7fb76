/-! write: the characters -/
theorem bv_sh (x : BitVec 64) (s : Nat) (hs : s + 8 ≤ 64) : (x >>> s).signExtend 32 &&& 255#32 = (x.sshiftRight s).signExtend 32 &&& 255#32 := by
  rw [BitVec.signExtend_eq_setWidth_of_le _ (by decide), BitVec.signExtend_eq_setWidth_of_le _ (by decide)]
  apply BitVec.eq_of_getLsbD_eq
  intro i hi
  rw [BitVec.getLsbD_and, BitVec.getLsbD_and, BitVec.getLsbD_setWidth, BitVec.getLsbD_setWidth, BitVec.getLsbD_ushiftRight, BitVec.getLsbD_sshiftRight]
  by_cases h8 : i < 8
  · rw [if_pos (by omega), show decide (64 ≤ i) = false from decide_eq_false (by omega)]
    simp
  · have e : (255#32).getLsbD i = false := by
      have : Nat.testBit (2 ^ 8 - 1) i = decide (i < 8) := Nat.testBit_two_pow_sub_one 8 i
      rw [BitVec.getLsbD_ofNat, show (255 : Nat) = 2 ^ 8 - 1 from rfl, this, decide_eq_false h8]
      simp
    rw [e, Bool.and_false, Bool.and_false]
theorem k8 {k : Int32} (h0 : 0 ≤ k.toInt) (h1 : k.toInt < 8) : k = 0 ∨ k = 1 ∨ k = 2 ∨ k = 3 ∨ k = 4 ∨ k = 5 ∨ k = 6 ∨ k = 7 := by
  have key : ∀ c : Int32, k.toInt = c.toInt → k = c := fun c e => Int32.toInt_inj.mp e
  have z : (0 : Int32).toInt = 0 ∧ (1 : Int32).toInt = 1 ∧ (2 : Int32).toInt = 2 ∧ (3 : Int32).toInt = 3 ∧ (4 : Int32).toInt = 4 ∧ (5 : Int32).toInt = 5 ∧ (6 : Int32).toInt = 6 ∧ (7 : Int32).toInt = 7 := by decide
  obtain ⟨z0, z1, z2, z3, z4, z5, z6, z7⟩ := z
  rcases (show k.toInt = 0 ∨ k.toInt = 1 ∨ k.toInt = 2 ∨ k.toInt = 3 ∨ k.toInt = 4 ∨ k.toInt = 5 ∨ k.toInt = 6 ∨ k.toInt = 7 by omega) with h | h | h | h | h | h | h | h
  · exact Or.inl (key 0 (by rw [h, z0]))
  · exact Or.inr (Or.inl (key 1 (by rw [h, z1])))
  · exact Or.inr (Or.inr (Or.inl (key 2 (by rw [h, z2]))))
  · exact Or.inr (Or.inr (Or.inr (Or.inl (key 3 (by rw [h, z3])))))
  · exact Or.inr (Or.inr (Or.inr (Or.inr (Or.inl (key 4 (by rw [h, z4]))))))
  · exact Or.inr (Or.inr (Or.inr (Or.inr (Or.inr (Or.inl (key 5 (by rw [h, z5])))))))
  · exact Or.inr (Or.inr (Or.inr (Or.inr (Or.inr (Or.inr (Or.inl (key 6 (by rw [h, z6]))))))))
  · exact Or.inr (Or.inr (Or.inr (Or.inr (Or.inr (Or.inr (Or.inr (key 7 (by rw [h, z7]))))))))
theorem ch_c {x : Int64} {k : Int32} {a : UInt64} {b : Int64} {s : Nat} (hs : s + 8 ≤ 64) (e1 : (8 * k).toInt64.toUInt64 &&& Int64.toUInt64 63 = a) (e2 : (8 * k).toInt64 &&& 63 = b) (ha : (a.toBitVec % 64#64).toNat = s) (hb : (b.toBitVec.smod 64#64).toNat = s) : Xd_charOf x k = ((x >>> ((8 * k).toInt64 &&& 63)).toInt32) &&& 255 := by
  unfold Xd_charOf
  rw [e1, e2]
  apply Int32.toBitVec_inj.1
  have h := bv_sh x.toBitVec s hs
  have l : (((x.toUInt64 >>> a).toInt64).toInt32 &&& 255).toBitVec = (x.toBitVec >>> (a.toBitVec % 64#64).toNat).signExtend 32 &&& 255#32 := rfl
  have r : ((x >>> b).toInt32 &&& 255).toBitVec = (x.toBitVec.sshiftRight (b.toBitVec.smod 64#64).toNat).signExtend 32 &&& 255#32 := rfl
  rw [l, r, ha, hb]
  exact h
theorem ch_same {x : Int64} {k : Int32} (h0 : 0 ≤ k.toInt) (h1 : k.toInt < 8) : Xd_charOf x k = ((x >>> ((8 * k).toInt64 &&& 63)).toInt32) &&& 255 := by
  rcases k8 h0 h1 with rfl | rfl | rfl | rfl | rfl | rfl | rfl | rfl
  · exact ch_c (a := 0) (b := 0) (s := 0) (by decide) (by decide) (by decide) (by decide) (by decide)
  · exact ch_c (a := 8) (b := 8) (s := 8) (by decide) (by decide) (by decide) (by decide) (by decide)
  · exact ch_c (a := 16) (b := 16) (s := 16) (by decide) (by decide) (by decide) (by decide) (by decide)
  · exact ch_c (a := 24) (b := 24) (s := 24) (by decide) (by decide) (by decide) (by decide) (by decide)
  · exact ch_c (a := 32) (b := 32) (s := 32) (by decide) (by decide) (by decide) (by decide) (by decide)
  · exact ch_c (a := 40) (b := 40) (s := 40) (by decide) (by decide) (by decide) (by decide) (by decide)
  · exact ch_c (a := 48) (b := 48) (s := 48) (by decide) (by decide) (by decide) (by decide) (by decide)
  · exact ch_c (a := 56) (b := 56) (s := 56) (by decide) (by decide) (by decide) (by decide) (by decide)
theorem and_nat {v : Int32} {n : Nat} (hn : n ≤ 30) {c : Int32} (hc : c.toBitVec.toNat = 2 ^ n - 1) : (v &&& c).toInt = ((v.toBitVec.toNat % 2 ^ n : Nat) : Int) := by
  have e : (v &&& c).toBitVec.toNat = v.toBitVec.toNat % 2 ^ n := by
    have l : (v &&& c).toBitVec = v.toBitVec &&& c.toBitVec := rfl
    rw [l, BitVec.toNat_and, hc, Nat.and_two_pow_sub_one_eq_mod]
  have hlt : v.toBitVec.toNat % 2 ^ n < 2 ^ 31 := Nat.lt_of_lt_of_le (Nat.mod_lt _ (Nat.two_pow_pos n)) (Nat.pow_le_pow_right (by decide) (by omega))
  have t : (v &&& c).toInt = (v &&& c).toBitVec.toInt := rfl
  rw [t, BitVec.toInt_eq_toNat_of_lt (by rw [e]; omega), e]
theorem ch_b {v : Int32} : 0 ≤ (v &&& 255).toInt ∧ (v &&& 255).toInt ≤ 255 ∧ ((v &&& 255).toInt ≤ 127 → v &&& 127 = v &&& 255) := by
  have e1 := and_nat (v := v) (n := 8) (by decide) (c := 255) (by decide)
  have e2 := and_nat (v := v) (n := 7) (by decide) (c := 127) (by decide)
  refine ⟨by rw [e1]; omega, by rw [e1]; omega, fun h => ?_⟩
  apply Int32.toInt_inj.mp
  rw [e1] at h
  rw [e1, e2]
  omega
theorem nar_b {c : Int32} (h0 : 0 ≤ c.toInt) (h1 : c.toInt ≤ 127) : vp_nar .byte c.toInt8.toInt32 = c := by
  have key : ∀ d : Int32, 0 ≤ d.toInt → d.toInt ≤ 127 → d.toInt8.toInt32 = d := fun d a b => by
    apply Int32.toInt_inj.mp
    rw [Int8.toInt_toInt32, Int32.toInt_toInt8]
    exact Int.bmod_eq_of_le (by omega) (by omega)
  rw [key c h0 h1, vp_nar_byte, key c h0 h1]
/-! rows that grow -/
def rg (σ τ : XS) : Prop := (∀ k, k < 36 → τ.1 k = σ.1 k ∧ τ.2.1 k = σ.2.1 k) ∧ τ.2.2.1 = σ.2.2.1 ∧ τ.2.2.2.1 = σ.2.2.2.1 ∧ ∀ n, xv σ n → xv τ n ∧ (σ.1 n).toInt ≤ (τ.1 n).toInt ∧ ∀ j : Nat, (j : Int) < (σ.1 n).toInt → τ.2.1 (n + 1) j = σ.2.1 (n + 1) j
theorem rg.rf {σ : XS} : rg σ σ := ⟨fun _ _ => ⟨rfl, rfl⟩, rfl, rfl, fun _ h => ⟨h, Int.le_refl _, fun _ _ => rfl⟩⟩
theorem rg.tr {σ τ υ : XS} (h : rg σ τ) (h2 : rg τ υ) : rg σ υ := by
  refine ⟨fun k hk => ⟨(h2.1 k hk).1.trans (h.1 k hk).1, (h2.1 k hk).2.trans (h.1 k hk).2⟩, h2.2.1.trans h.2.1, h2.2.2.1.trans h.2.2.1, fun n hn => ?_⟩
  obtain ⟨a, b, c⟩ := h.2.2.2 n hn
  obtain ⟨d, e, f⟩ := h2.2.2.2 n a
  exact ⟨d, Int.le_trans b e, fun j hj => (f j (Int.lt_of_lt_of_le hj b)).trans (c j hj)⟩
theorem itk_rg {σ τ : XS} (h : rg σ τ) {row : Option Nat} {st : Int32} {v : Int64} {p : Int32} {lt : Nat → Int32} (hi : itk σ row st v p lt) : itk τ row st v p lt := by
  rcases hi with h1 | ⟨n, h1, h2, h3, h4, h5, h6, h7, h8⟩
  · exact Or.inl h1
  · obtain ⟨a, b, c⟩ := h.2.2.2 n h3
    refine Or.inr ⟨n, h1, h2, a, h4, h5, h6, by omega, fun j hj => ?_⟩
    rw [c _ (by omega)]; exact h8 j hj
theorem shr_rg {σ τ : XS} {μ : MS} {c base : Nat} {cnt : Int32} (h : rg σ τ) (hc : c ∈ shN) (hs : shr σ c μ cnt base) : shr τ c μ cnt base := by
  have hl := shN_lt hc
  obtain ⟨h1, h2, h3, h4⟩ := hs
  refine ⟨by rw [(h.1 c (by omega)).1]; exact h1, h2, h3, fun i hi => ?_⟩
  obtain ⟨a1, a2, a3⟩ := h4 i hi
  unfold itm
  rw [h.2.1, h.2.2.1, (h.1 (c + 2) (by omega)).2, (h.1 (c + 4) (by omega)).2]
  exact ⟨a1, a2, itk_rg h a3⟩
theorem ST_rg {σ τ : XS} {μ : MS} (h : rg σ τ) (hs : ST σ μ) : ST τ μ := by
  obtain ⟨s1, s2, s3, s4, s5⟩ := hs
  refine ⟨shr_rg h (by decide) s1, fun r h4 => shr_rg h (regsh h4) (s2 r h4), ?_, by rw [(h.1 0 (by decide)).1]; exact s4, s5⟩
  unfold prn at *
  rw [(h.1 31 (by decide)).1, h.2.1, (h.1 33 (by decide)).2]
  exact s3
