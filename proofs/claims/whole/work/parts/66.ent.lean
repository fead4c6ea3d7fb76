/-- only the nest differs -/
def kn (σ τ : XS) : Prop := rs σ τ ∧ (∀ k, k ≠ 2 → τ.1 k = σ.1 k) ∧ τ.2.2.1 = σ.2.2.1 ∧ (∀ k, k ≠ 3 → τ.2.2.2.1 k = σ.2.2.2.1 k) ∧ ∀ k, k ≠ 4 → k ≠ 5 → τ.2.1 k = σ.2.1 k
theorem kn_kp {σ τ : XS} (h : kp σ τ) : kn σ τ := ⟨h.1, fun k _ => by rw [h.2.1], h.2.2.1, fun k _ => by rw [h.2.2.2.1], fun k h4 _ => h.2.2.2.2 k h4⟩
theorem kn.tr {σ τ υ : XS} (h : kn σ τ) (h2 : kn τ υ) : kn σ υ := ⟨h.1.tr h2.1, fun k hk => (h2.2.1 k hk).trans (h.2.1 k hk), h2.2.2.1.trans h.2.2.1, fun k hk => (h2.2.2.2.1 k hk).trans (h.2.2.2.1 k hk), fun k h4 h5 => (h2.2.2.2.2 k h4 h5).trans (h.2.2.2.2 k h4 h5)⟩
theorem ST_kn {σ τ : XS} {μ ν : MS} (h : kn σ τ) (e5 : ν.1 5 = μ.1 5) (hr : mrest μ ν) (e7 : ν.2.2.1 7 = μ.2.2.1 7) (hm : ∀ k, msame μ ν k) (hs : ST σ μ) : ST τ ν := by
  have hq : ∀ c, c ∈ shN → shq σ τ c := fun c hc => by
    have := shN_lt hc
    exact ⟨h.2.1 c (by omega), by rw [h.2.2.1], h.2.2.2.2 _ (by omega) (by omega), h.2.2.2.1 _ (by omega), h.2.2.2.2 _ (by omega) (by omega)⟩
  obtain ⟨s1, s2, s3, s4, s5⟩ := hs
  refine ⟨?_, fun r h4 => ?_, prn_keep (hq 31 (by decide)) hr s3, ?_, by rw [hr.2.1]; exact s5⟩
  · rw [e5]; exact shr_keep h.1 (hq 6 (by decide)) (fun _ _ => hm _) s1
  · rw [e7]; exact shr_keep h.1 (hq _ (regsh h4)) (fun _ _ => hm _) (s2 r h4)
  · rw [hr.2.1, h.2.1 0 (by decide)]; exact s4
theorem lvA_keep2 {σ τ : XS} {μ ν : MS} {l n : Nat} {st a : Int} (h : rs σ τ) (h3 : τ.2.2.2.1 3 l = σ.2.2.2.1 3 l) (h4 : τ.2.1 4 l = σ.2.1 4 l) (h5 : τ.2.1 5 l = σ.2.1 5 l) (m8 : ∀ j : Nat, j < 160 → ν.2.2.1 8 (160 * l + j) = μ.2.2.1 8 (160 * l + j)) (m9 : ν.2.2.1 9 l = μ.2.2.1 9 l) (hl : lvA σ l μ n st a) : lvA τ l ν n st a := by
  obtain ⟨a1, a2, a3, a4, a5, a6, a7, a8, a9, a10⟩ := hl
  have h36 := a2.1
  unfold lvA
  rw [h3, h4, h5, m9, (h.2 n h36).1, (h.2 (n + 1) (by omega)).2]
  exact ⟨a1, rs_v h a2, a3, a4, a5, a6, a7, a8, a9, fun j hj => by rw [m8 j (by omega)]; exact a10 j hj⟩
theorem lvl_keep2 {σ τ : XS} {μ ν : MS} {l : Nat} (h : rs σ τ) (h3 : τ.2.2.2.1 3 l = σ.2.2.2.1 3 l) (h4 : τ.2.1 4 l = σ.2.1 4 l) (h5 : τ.2.1 5 l = σ.2.1 5 l) (m8 : ∀ j : Nat, j < 160 → ν.2.2.1 8 (160 * l + j) = μ.2.2.1 8 (160 * l + j)) (m9 : ν.2.2.1 9 l = μ.2.2.1 9 l) (m10 : ν.2.2.1 10 l = μ.2.2.1 10 l) (hl : lvl σ l μ) : lvl τ l ν := by
  obtain ⟨n, st, a, b1, b2, b3, b4⟩ := hl
  have b7 := b1.2.2.2.2.2.2.1
  have b8 := b1.2.2.2.2.2.2.2.1
  refine ⟨n, st, a, lvA_keep2 h h3 h4 h5 m8 m9 b1, ?_⟩
  rw [m10]
  exact ⟨b2, b3, fun j h1 h2 => by rw [m8 j (by omega)]; exact b4 j h1 h2⟩
/-- a text entered -/
def ent (τ : XS) (N : Nat) (r : Option Nat) (s n v : Int32) : XS := xi (xa (xa (xr τ 3 N r) 4 N s) 5 N (s + n)) 2 v
theorem enter_eq {τ : XS} {r : Option Nat} {s n : Int32} (h0 : 0 ≤ (τ.1 2).toInt) (h1 : (τ.1 2).toInt < 12) : Xnest_enter τ r s n = .inr (ent τ (τ.1 2).toInt.toNat r s n (τ.1 2 + 1)) := by
  have z0 : (0 : Int32).toInt = 0 := rfl
  have z12 : (12 : Int32).toInt = 12 := rfl
  have hN : (τ.1 2).toNatClampNeg = (τ.1 2).toInt.toNat := (Int32.toNat_toInt _).symm
  unfold Xnest_enter
  rw [if_neg (by rw [Int32.lt_iff_toInt_lt]; omega), if_pos (by rw [Int32.lt_iff_toInt_lt]; omega)]
  rw [← hN]
  rfl
theorem enter_full {τ : XS} {r : Option Nat} {s n : Int32} (h1 : ¬ (τ.1 2).toInt < 12) : Xnest_enter τ r s n = .inl ("java/lang/UnsupportedOperationException", τ) := by
  have z12 : (12 : Int32).toInt = 12 := rfl
  unfold Xnest_enter
  split
  · rfl
  · rw [if_neg (by rw [Int32.lt_iff_toInt_lt]; omega)]
theorem ent_kn {τ : XS} {N : Nat} {r : Option Nat} {s n v : Int32} : kn τ (ent τ N r s n v) := by
  refine ⟨⟨rfl, fun k hk => ⟨?_, ?_⟩⟩, fun k hk => ?_, rfl, fun k hk => ?_, fun k h4 h5 => ?_⟩
  · show upd τ.1 2 v k = τ.1 k; unfold upd; rw [if_neg (by omega)]
  · simp only [ent, xi, xa, xr]; rw [if_neg (by omega), if_neg (by omega)]
  · show upd τ.1 2 v k = τ.1 k; unfold upd; rw [if_neg hk]
  · simp only [ent, xi, xa, xr]; rw [if_neg hk]
  · simp only [ent, xi, xa, xr]; rw [if_neg h5, if_neg h4]
theorem ent_at {τ : XS} {N : Nat} {r : Option Nat} {s n v : Int32} : (ent τ N r s n v).2.2.2.1 3 N = r ∧ (ent τ N r s n v).2.1 4 N = s ∧ (ent τ N r s n v).2.1 5 N = s + n ∧ (ent τ N r s n v).1 2 = v := by
  refine ⟨by simp [ent, xi, xa, xr, va_up], by simp [ent, xi, xa, xr, upd], by simp [ent, xi, xa, xr, upd], by simp [ent, xi, upd]⟩
theorem ent_ne {τ : XS} {N l : Nat} {r : Option Nat} {s n v : Int32} (h : l ≠ N) : (ent τ N r s n v).2.2.2.1 3 l = τ.2.2.2.1 3 l ∧ (ent τ N r s n v).2.1 4 l = τ.2.1 4 l ∧ (ent τ N r s n v).2.1 5 l = τ.2.1 5 l := by
  refine ⟨by simp [ent, xi, xa, xr, va_up, h], by simp [ent, xi, xa, xr, upd, h], by simp [ent, xi, xa, xr, upd, h]⟩
theorem isDone_congr {x0 : Int32} {μ ν : MS} (h8 : ν.2.2.1 8 = μ.2.2.1 8) (h9 : ν.2.2.1 9 = μ.2.2.1 9) : ∀ (f : Nat) (v k : Int32), F_isDone_L9 x0 f v k ν = F_isDone_L9 x0 f v k μ := by
  intro f
  induction f with
  | zero => intro v k; rfl
  | succ f ih =>
    intro v k
    rw [F_isDone_L9, F_isDone_L9, h8, h9, ih]
theorem wsum_top {μ ν : MS} {L : Nat} {d : Int} (h : ∀ l, l < L → (ν.2.2.1 9 l).toInt - (ν.2.2.1 10 l).toInt ≤ (μ.2.2.1 9 l).toInt - (μ.2.2.1 10 l).toInt) (hd : (ν.2.2.1 9 L).toInt - (ν.2.2.1 10 L).toInt + 1 ≤ d) : wsum ν (L + 1) ≤ wsum μ L + d := by
  have := wsum_le L h
  show wsum ν L + _ ≤ _
  omega
theorem ent_NR {τ : XS} {ν : MS} {N nr : Nat} {ss len v : Int32} (hN : N ≤ 11) (hv : v.toInt = N + 1) (h11 : ν.1 11 = v) (hlow : ∀ l : Nat, l < N → lvl τ l ν) (hx : xv τ nr) (hss : 0 ≤ ss.toInt) (hl0 : 0 ≤ len.toInt) (hl1 : len.toInt ≤ 160) (hsl : ss.toInt + len.toInt ≤ (τ.1 nr).toInt) (h9 : ν.2.2.1 9 N = len) (h10 : ν.2.2.1 10 N = 0) (h8 : ∀ j : Nat, (j : Int) < len.toInt → τ.2.1 (nr + 1) (ss.toInt.toNat + j) = ν.2.2.1 8 (160 * N + j)) : NR (ent τ N (some nr) ss len v) ν := by
  have hb := Int32.toInt_lt (τ.1 nr)
  have z0 : (0 : Int32).toInt = 0 := rfl
  have es : (ss + len).toInt = ss.toInt + len.toInt := i_addE rfl rfl (by omega) (by omega)
  have h36 := hx.1
  have hk := ent_kn (τ := τ) (N := N) (r := some nr) (s := ss) (n := len) (v := v)
  obtain ⟨e1, e2, e3, e4⟩ := ent_at (τ := τ) (N := N) (r := some nr) (s := ss) (n := len) (v := v)
  refine ⟨⟨by rw [h11]; exact e4, by rw [h11, hv]; omega, by rw [h11, hv]; omega⟩, fun l hl => ?_⟩
  rw [h11, hv] at hl
  by_cases hlN : l = N
  · subst hlN
    refine ⟨nr, ss.toInt, 0, ⟨e1, rs_v hk.1 hx, hss, by rw [e2]; omega, by rw [e3, h9]; exact es, Int.le_refl _, by rw [h9]; exact hl0, by rw [h9]; exact hl1, by rw [h9, hk.2.1 nr (by omega)]; exact hsl, fun j hj => ?_⟩, by rw [h10]; exact Int.le_refl _, by rw [h10]; exact Int.le_refl _, fun j h1 h2 => by omega⟩
    rw [h9] at hj
    rw [hk.2.2.2.2 (nr + 1) (by omega) (by omega)]
    exact h8 j hj
  · obtain ⟨f1, f2, f3⟩ := ent_ne (τ := τ) (N := N) (l := l) (r := some nr) (s := ss) (n := len) (v := v) hlN
    exact lvl_keep2 hk.1 f1 f2 f3 (fun _ _ => rfl) rfl rfl (hlow l (by omega))
theorem lvN {a : Int32} (h1 : 1 ≤ a.toInt) (h2 : a.toInt ≤ 12) : (a - 1).toNatClampNeg = (a.toInt - 1).toNat := by
  have e : (a - 1).toInt = a.toInt - 1 := i_subE rfl (show (1 : Int32).toInt = 1 from rfl) (by omega) (by omega)
  rw [← Int32.toNat_toInt, e]
theorem clN {a : Int32} : a.toNatClampNeg = a.toInt.toNat := (Int32.toNat_toInt a).symm
theorem sk_ar {S i : Int} (h1 : 0 ≤ i) (h2 : S ≤ 160) : (S - i).toNat < 161 ∧ (S - i).toNat < (S - i).toNat + 1 ∧ (0 : Int) + ((S - i).toNat : Nat) ≤ 160 := by
  refine ⟨by omega, by omega, by omega⟩
theorem mac_ix {l j N : Nat} (hl : l < N) (hj : j < 160) : 160 * l + j < 160 * N := by omega
theorem mac_ar {a : Int} (h1 : 1 ≤ a) (h2 : a < 12) : a.toNat ≤ 11 ∧ a + 1 = (a.toNat : Int) + 1 ∧ (a - 1).toNat ≠ a.toNat ∧ (a + 1).toNat = a.toNat + 1 := by
  refine ⟨by omega, by omega, by omega, by omega⟩
theorem mac_ar2 {a : Int} (h1 : 1 ≤ a) (h2 : a ≤ 12) : (a - 1).toNat ≤ 11 ∧ a = ((a - 1).toNat : Int) + 1 ∧ a.toNat = (a - 1).toNat + 1 ∧ True := by
  refine ⟨by omega, by omega, by omega, trivial⟩
theorem mac_low2 {l : Nat} {a : Int} (h : l < (a - 1).toNat) : (l : Int) < a - 1 := by omega
theorem mac_ne2 {n : Nat} (h : 36 ≤ n) : n ≠ 2 := by omega
theorem mac_j {j : Nat} {i S : Int} (h : (j : Int) < i) (h2 : i ≤ S) (h3 : S ≤ 160) : j < 160 := by omega
theorem mac_low {l : Nat} {a : Int} (h : l < a.toNat) (h2 : l ≠ (a - 1).toNat) : (l : Int) < a - 1 := by omega
theorem mac_ne {n : Nat} (h : 36 ≤ n) : n + 1 ≠ 4 := by omega
theorem mac_out {j : Nat} {a : Int} (h1 : 1 ≤ a) (h : ¬ (j : Int) < a + 1) : j ≠ a.toNat ∧ j ≠ (a - 1).toNat := ⟨by omega, by omega⟩
theorem mac_out2 {j : Nat} {a : Int} (h1 : 1 ≤ a) (h : ¬ (j : Int) < a) : j ≠ (a - 1).toNat := by omega
/-- a macro begun, in both: i1 the place behind the command, the item in slot s0 -/
theorem mac_rel {σ : XS} {μ μ0 : MS} {i1 s0 ss len : Int32} {nr : Nat} (hn : NX σ μ i1.toInt) (hr : rok σ) (hw : xWF σ) (hat0 : 0 ≤ (μ.2.2.1 10 ((μ.1 11).toInt - 1).toNat).toInt) (hat : (μ.2.2.1 10 ((μ.1 11).toInt - 1).toNat).toInt ≤ i1.toInt) (hs0 : 0 ≤ s0.toInt ∧ s0.toInt ≤ 81) (hv : xv σ nr) (hss : 0 ≤ ss.toInt) (hl0 : 0 ≤ len.toInt) (hl1 : len.toInt ≤ 160) (hsl : ss.toInt + len.toInt ≤ (σ.1 nr).toInt) (hch : ∀ j : Nat, (j : Int) < len.toInt → σ.2.1 (nr + 1) (ss.toInt.toNat + j) = μ.2.2.1 4 (160 * s0.toInt.toNat + j)) (hvl : (μ.2.2.2 2 s0.toInt.toNat).toInt32 = len) (h0i : ∀ k, k ≠ 5 → k ≠ 16 → k ≠ 20 → μ0.1 k = μ.1 k) (h0a : μ0.2.2 = μ.2.2) :
    (∃ u, Xnest_enterMacro σ (some nr) ss len = .inl ("java/lang/UnsupportedOperationException", u) ∧ kn σ u ∧ xWF u ∧ F_mayRun μ i1 = (0, si μ 16 5)) ∨
    (∃ u, Xnest_enterMacro σ (some nr) ss len = .inr u ∧ kn σ u ∧ F_mayRun μ i1 = (1, μ) ∧ NR u (F_begin μ0 s0 i1) ∧ Wt (F_begin μ0 s0 i1) ≤ Wt μ + 161 ∧ (∀ k, k ≠ 11 → (F_begin μ0 s0 i1).1 k = μ0.1 k) ∧ (F_begin μ0 s0 i1).2.2.2 = μ.2.2.2 ∧ (∀ k, k ≠ 8 → k ≠ 9 → k ≠ 10 → (F_begin μ0 s0 i1).2.2.1 k = μ.2.2.1 k) ∧ ∀ j : Nat, ¬ (j : Int) < ((F_begin μ0 s0 i1).1 11).toInt → (F_begin μ0 s0 i1).2.2.1 9 j = μ.2.2.1 9 j ∧ (F_begin μ0 s0 i1).2.2.1 10 j = μ.2.2.1 10 j) := by
  have z0 : (0 : Int32).toInt = 0 := rfl
  have z1 : (1 : Int32).toInt = 1 := rfl
  have z12 : (12 : Int32).toInt = 12 := rfl
  obtain ⟨hc, hlv, _, n0, st0, ha⟩ := id hn
  have a6 := ha.2.2.2.2.2.1
  have a7 := ha.2.2.2.2.2.2.1
  have a8 := ha.2.2.2.2.2.2.2.1
  clear ha
  have hlv2 := hc.2.2
  obtain ⟨s1, s2, s3⟩ := sk_ar a6 a8
  obtain ⟨i', b1, b2, b3, b4, b5, b6, b7⟩ := skip_done (x0 := i1) (v2 := μ.1 11 - 1) rfl ((μ.2.2.1 9 ((μ.1 11).toInt - 1).toNat).toInt - i1.toInt).toNat 161 (((μ.2.2.1 9 ((μ.1 11).toInt - 1).toNat).toInt - i1.toInt).toNat + 1) σ i1 0 hn hr rfl s1 s2 (by decide) s3
  have hsk : Xnest_skipBlanks_L2 161 0 σ = Xnest_skipBlanks σ := rfl
  rw [hsk] at b3 b4
  have hw1 := skipBlanks_wf hw
  generalize hq1 : Xnest_skipBlanks σ = σ1 at *
  have hr1 := rok_rs b4.1 hr
  obtain ⟨k1, k2⟩ := look_eq hr1 b3
  have hD : F_isDone μ i1 = if i' = (μ.2.2.1 9 ((μ.1 11).toInt - 1).toNat).toInt then 1 else 0 := by
    unfold F_isDone; rw [lvN hlv hlv2]; exact b7
  have hD0 : F_isDone (sa μ0 10 (μ0.1 11 - 1).toNatClampNeg i1) i1 = if i' = (μ.2.2.1 9 ((μ.1 11).toInt - 1).toNat).toInt then 1 else 0 := by
    have e11 : μ0.1 11 = μ.1 11 := h0i 11 (by decide) (by decide) (by decide)
    have e9 : (sa μ0 10 (μ0.1 11 - 1).toNatClampNeg i1).2.2.1 9 = μ.2.2.1 9 := by simp only [sa, ↓reduceIte, show ¬ (9 = 10) by decide]; rw [h0a]
    have e8 : (sa μ0 10 (μ0.1 11 - 1).toNatClampNeg i1).2.2.1 8 = μ.2.2.1 8 := by simp only [sa, ↓reduceIte, show ¬ (8 = 10) by decide]; rw [h0a]
    unfold F_isDone
    rw [isDone_congr (μ := μ) e8 e9, e9]
    show F_isDone_L9 i1 (((μ.2.2.1 9 (μ0.1 11 - 1).toNatClampNeg).toInt - i1.toInt).toNat + 1) (μ0.1 11 - 1) i1 μ = _
    rw [e11, lvN hlv hlv2]
    exact b7
  have e11 : μ0.1 11 = μ.1 11 := h0i 11 (by decide) (by decide) (by decide)
  by_cases hdn : i' = (μ.2.2.1 9 ((μ.1 11).toInt - 1).toNat).toInt
  · rw [if_pos hdn] at hD hD0
    have hlk : Xnest_look σ1 = 0 := k2 (by omega)
    have c1 : σ1.1 2 = μ.1 11 := by rw [b4.2.1]; exact hc.1
    have eL : (μ.1 11 - 1).toInt = (μ.1 11).toInt - 1 := i_subE rfl z1 (by omega) (by omega)
    have hlv9 : Xnest_leave σ1 = xi σ1 2 (μ.1 11 - 1) := by
      unfold Xnest_leave
      rw [c1]
      by_cases c9 : (0 : Int32) < μ.1 11 - 1
      · rw [if_pos c9]
      · rw [if_neg c9]
        congr 1
        apply Int32.toInt_inj.mp
        rw [Int32.lt_iff_toInt_lt, z0, eL] at c9
        rw [z0, eL]; omega
    have hX : Xnest_enterMacro σ (some nr) ss len = (match Xnest_enter (xi σ1 2 (μ.1 11 - 1)) (some nr) ss len with | .inl e9 => .inl e9 | .inr u19 => .inr u19) := by
      unfold Xnest_enterMacro
      simp only [hq1, hlk, hlv9, ↓reduceIte]
      cases Xnest_enter (xi σ1 2 (μ.1 11 - 1)) (some nr) ss len <;> rfl
    have hE := enter_eq (τ := xi σ1 2 (μ.1 11 - 1)) (r := some nr) (s := ss) (n := len) (by rw [xi_1, eL]; omega) (by rw [xi_1, eL]; omega)
    rw [xi_1, eL] at hE
    obtain ⟨g1, g2, g3, g4⟩ := mac_ar2 hlv hlv2
    have hkl : kn σ1 (xi σ1 2 (μ.1 11 - 1)) := ⟨xi_rs (by decide), fun k hk => xi_ne hk, rfl, fun _ _ => rfl, fun _ _ _ => rfl⟩
    right
    refine ⟨_, by rw [hX, hE], ((kn_kp b4).tr hkl).tr ent_kn, ?_, ?_⟩
    · unfold F_mayRun
      rw [hD, if_neg (show ¬ (1 : Int32) = 0 by decide), ite_self]
    · have hB : F_begin μ0 s0 i1 = F_begin_L58 s0 i1 161 0 (sa (sa (si (sa μ0 10 ((μ.1 11).toInt - 1).toNat i1) 11 (μ.1 11 - 1)) 9 ((μ.1 11).toInt - 1).toNat len) 10 ((μ.1 11).toInt - 1).toNat 0) := by
        unfold F_begin
        rw [hD0, if_neg (show ¬ (1 : Int32) = 0 by decide), e11, lvN hlv hlv2, clN (a := s0), show μ0.2.2.2 2 s0.toInt.toNat = μ.2.2.2 2 s0.toInt.toNat by rw [h0a], hvl]
      obtain ⟨υ, u1, u2, u3, u4, u5, u6⟩ := L58 (s0 := s0) (x0 := i1) (L := μ.1 11 - 1) (sz := len) hs0 (by rw [eL]; omega) (by omega) (len.toInt - (0 : Int32).toInt).toNat 161 0 (sa (sa (si (sa μ0 10 ((μ.1 11).toInt - 1).toNat i1) 11 (μ.1 11 - 1)) 9 ((μ.1 11).toInt - 1).toNat len) 10 ((μ.1 11).toInt - 1).toNat 0) (by simp [sa, si, upd]) (by rw [eL]; simp [sa, upd]) (by decide) (by rw [z0]; omega) rfl (by rw [z0]; omega)
      rw [eL] at u5 u6
      rw [hB, u1]
      have m9 : υ.2.2.1 9 = upd (μ.2.2.1 9) ((μ.1 11).toInt - 1).toNat len := by rw [u4 9 (by decide)]; simp [sa, si]; rw [h0a]
      have m10 : ∀ l, l ≠ ((μ.1 11).toInt - 1).toNat → υ.2.2.1 10 l = μ.2.2.1 10 l := fun l hl => by rw [u4 10 (by decide)]; simp only [sa, si, ↓reduceIte, upd, show ¬ (10 = 9) by decide]; rw [if_neg hl, if_neg hl, h0a]
      have m10' : υ.2.2.1 10 ((μ.1 11).toInt - 1).toNat = 0 := by rw [u4 10 (by decide)]; simp only [sa, ↓reduceIte, upd]
      have m8 : ∀ l j : Nat, l < ((μ.1 11).toInt - 1).toNat → j < 160 → υ.2.2.1 8 (160 * l + j) = μ.2.2.1 8 (160 * l + j) := fun l j hl hj => by
        rw [u6 _ (Or.inl (mac_ix hl hj))]; simp [sa, si]; rw [h0a]
      have m8' : ∀ j : Nat, (j : Int) < len.toInt → υ.2.2.1 8 (160 * ((μ.1 11).toInt - 1).toNat + j) = μ.2.2.1 4 (160 * s0.toInt.toNat + j) := fun j hj => by
        rw [u5 j (by rw [z0]; exact Int.natCast_nonneg _) hj]; simp [sa, si]; rw [h0a]
      have ev : (μ.1 11 - 1 + 1).toInt = (μ.1 11).toInt := by rw [i_addE eL z1 (by omega) (by omega)]; omega
      clear hB u1 hE hX
      refine ⟨?_, ?_, fun k hk => ?_, ?_, fun k h8 h9 h10 => ?_, fun j hj => ?_⟩
      · refine ent_NR g1 (by rw [ev]; exact g2) (by simp [si, upd]) (fun l hl => ?_) (rs_v hkl.1 (rs_v b4.1 hv)) hss hl0 hl1 (by rw [hkl.2.1 nr (mac_ne2 hv.1), b4.2.1]; exact hsl) ?_ m10' (fun j hj => ?_)
        · have hlow := b3.2.2.1 l (mac_low2 hl)
          have hlne : l ≠ ((μ.1 11).toInt - 1).toNat := Nat.ne_of_lt hl
          exact lvl_keep2 hkl.1 rfl rfl rfl (fun j hj => m8 l j hl hj) (by show υ.2.2.1 9 l = _; rw [m9]; unfold upd; rw [if_neg hlne]) (m10 l hlne) hlow
        · show υ.2.2.1 9 _ = _; rw [m9]; unfold upd; rw [if_pos rfl]
        · have x := m8' j hj
          show _ = υ.2.2.1 8 (160 * ((μ.1 11).toInt - 1).toNat + j)
          rw [x]
          show σ1.2.1 (nr + 1) _ = _
          rw [b4.2.2.2.2 (nr + 1) (mac_ne hv.1)]
          exact hch j hj
      · have eW : Wt (si υ 11 (μ.1 11 - 1 + 1)) = wsum (si υ 11 (μ.1 11 - 1 + 1)) (((μ.1 11).toInt - 1).toNat + 1) := by
          unfold Wt
          rw [show (si υ 11 (μ.1 11 - 1 + 1)).1 11 = μ.1 11 - 1 + 1 by simp [si, upd], ev, g3]
        have eW2 : Wt μ = wsum μ ((μ.1 11).toInt - 1).toNat + ((μ.2.2.1 9 ((μ.1 11).toInt - 1).toNat).toInt - (μ.2.2.1 10 ((μ.1 11).toInt - 1).toNat).toInt + 1) := by
          unfold Wt
          rw [g3]; rfl
        have hT : wsum (si υ 11 (μ.1 11 - 1 + 1)) (((μ.1 11).toInt - 1).toNat + 1) ≤ wsum μ ((μ.1 11).toInt - 1).toNat + 161 := by
          refine wsum_top (fun l hl => ?_) ?_
          · show (υ.2.2.1 9 l).toInt - (υ.2.2.1 10 l).toInt ≤ _
            have hlne : l ≠ ((μ.1 11).toInt - 1).toNat := Nat.ne_of_lt hl
            rw [m9, m10 l hlne]
            unfold upd
            rw [if_neg hlne]; exact Int.le_refl _
          · show (υ.2.2.1 9 _).toInt - (υ.2.2.1 10 _).toInt + 1 ≤ _
            rw [m9, m10']
            unfold upd
            rw [if_pos rfl, z0]
            omega
        rw [eW, eW2]
        omega
      · show upd υ.1 11 (μ.1 11 - 1 + 1) k = _; unfold upd; rw [if_neg hk, u2]; show upd μ0.1 11 _ k = _; unfold upd; rw [if_neg hk]
      · show υ.2.2.2 = _; rw [u3]; show μ0.2.2.2 = _; rw [h0a]
      · show υ.2.2.1 k = _; rw [u4 k h8]; simp only [sa, si]; rw [if_neg h10, if_neg h9, if_neg h10, h0a]
      · have e : (si υ 11 (μ.1 11 - 1 + 1)).1 11 = μ.1 11 - 1 + 1 := by simp [si, upd]
        rw [e, ev] at hj
        have hne : j ≠ ((μ.1 11).toInt - 1).toNat := mac_out2 hlv hj
        refine ⟨?_, m10 j hne⟩
        show υ.2.2.1 9 j = _; rw [m9]; unfold upd; rw [if_neg hne]
  · rw [if_neg hdn] at hD hD0
    have hlk : ¬ Xnest_look σ1 = 0 := fun e => by
      obtain ⟨-, p, -⟩ := k1 (by omega)
      rw [e] at p; exact absurd p (by decide)
    have hX : Xnest_enterMacro σ (some nr) ss len = (match Xnest_enter σ1 (some nr) ss len with | .inl e9 => .inl e9 | .inr u19 => .inr u19) := by
      unfold Xnest_enterMacro
      simp only [hq1, hlk, ↓reduceIte]
      cases Xnest_enter σ1 (some nr) ss len <;> rfl
    have c1 : σ1.1 2 = μ.1 11 := by rw [b4.2.1]; exact hc.1
    by_cases h12 : (μ.1 11).toInt < 12
    · right
      have hE := enter_eq (τ := σ1) (r := some nr) (s := ss) (n := len) (by rw [c1]; omega) (by rw [c1]; exact h12)
      rw [c1] at hE
      refine ⟨_, by rw [hX, hE], (kn_kp b4).tr ent_kn, ?_, ?_⟩
      · unfold F_mayRun; rw [if_pos (by rw [Int32.lt_iff_toInt_lt]; omega)]
      · have hB : F_begin μ0 s0 i1 = F_begin_L58 s0 i1 161 0 (sa (sa (sa μ0 10 ((μ.1 11).toInt - 1).toNat i1) 9 (μ.1 11).toInt.toNat len) 10 (μ.1 11).toInt.toNat 0) := by
          unfold F_begin
          rw [hD0, if_pos rfl, e11, lvN hlv hlv2, clN (a := μ.1 11), clN (a := s0), show μ0.2.2.2 2 s0.toInt.toNat = μ.2.2.2 2 s0.toInt.toNat by rw [h0a], hvl]
        obtain ⟨υ, u1, u2, u3, u4, u5, u6⟩ := L58 (s0 := s0) (x0 := i1) (L := μ.1 11) (sz := len) hs0 (by omega) (by omega) (len.toInt - (0 : Int32).toInt).toNat 161 0 (sa (sa (sa μ0 10 ((μ.1 11).toInt - 1).toNat i1) 9 (μ.1 11).toInt.toNat len) 10 (μ.1 11).toInt.toNat 0) e11 (by simp [sa, upd]) (by decide) (by rw [z0]; omega) rfl (by rw [z0]; omega)
        rw [hB, u1]
        have m9 : υ.2.2.1 9 = upd (μ.2.2.1 9) (μ.1 11).toInt.toNat len := by rw [u4 9 (by decide)]; simp [sa]; rw [h0a]
        have m10 : υ.2.2.1 10 = upd (upd (μ.2.2.1 10) ((μ.1 11).toInt - 1).toNat i1) (μ.1 11).toInt.toNat 0 := by rw [u4 10 (by decide)]; simp [sa]; rw [h0a]
        have m8 : ∀ l j : Nat, l < (μ.1 11).toInt.toNat → j < 160 → υ.2.2.1 8 (160 * l + j) = μ.2.2.1 8 (160 * l + j) := fun l j hl hj => by
          rw [u6 _ (Or.inl (mac_ix hl hj))]; simp [sa]; rw [h0a]
        have m8' : ∀ j : Nat, (j : Int) < len.toInt → υ.2.2.1 8 (160 * (μ.1 11).toInt.toNat + j) = μ.2.2.1 4 (160 * s0.toInt.toNat + j) := fun j hj => by
          rw [u5 j (by rw [z0]; exact Int.natCast_nonneg _) hj]; simp [sa]; rw [h0a]
        obtain ⟨g1, g2, g3, g4⟩ := mac_ar hlv h12
        have ev : (μ.1 11 + 1).toInt = (μ.1 11).toInt + 1 := i_addE rfl z1 (by omega) (by omega)
        clear hB u1 hE hX
        refine ⟨?_, ?_, fun k hk => ?_, ?_, fun k h8 h9 h10 => ?_, fun j hj => ?_⟩
        · refine ent_NR g1 (by rw [ev]; exact g2) (by simp [si, upd]) (fun l hl => ?_) (rs_v b4.1 hv) hss hl0 hl1 (by rw [b4.2.1]; exact hsl) ?_ ?_ (fun j hj => ?_)
          · by_cases hlt : l = ((μ.1 11).toInt - 1).toNat
            · subst hlt
              obtain ⟨n9, st9, hA9⟩ := b3.2.2.2
              have t9 : (si υ 11 (μ.1 11 + 1)).2.2.1 9 ((μ.1 11).toInt - 1).toNat = μ.2.2.1 9 ((μ.1 11).toInt - 1).toNat := by show υ.2.2.1 9 _ = _; rw [m9]; unfold upd; rw [if_neg g3]
              have t10 : (si υ 11 (μ.1 11 + 1)).2.2.1 10 ((μ.1 11).toInt - 1).toNat = i1 := by show υ.2.2.1 10 _ = _; rw [m10]; unfold upd; rw [if_neg g3, if_pos rfl]
              refine ⟨n9, st9, i', lvA_keep2 rs.rf rfl rfl rfl (fun j hj => m8 _ j hl hj) t9 hA9, by rw [t10]; exact a6, by rw [t10]; exact b1, fun j h1 h2 => ?_⟩
              rw [t10] at h1
              have := b5 j h1 h2
              have e8 : (si υ 11 (μ.1 11 + 1)).2.2.1 8 (160 * ((μ.1 11).toInt - 1).toNat + j) = μ.2.2.1 8 (160 * ((μ.1 11).toInt - 1).toNat + j) := m8 _ j hl (mac_j h2 b2 a8)
              rw [e8]; exact this
            · have hlow := b3.2.2.1 l (mac_low hl hlt)
              have hlne : l ≠ (μ.1 11).toInt.toNat := Nat.ne_of_lt hl
              exact lvl_keep2 rs.rf rfl rfl rfl (fun j hj => m8 l j hl hj) (by show υ.2.2.1 9 l = _; rw [m9]; unfold upd; rw [if_neg hlne]) (by show υ.2.2.1 10 l = _; rw [m10]; unfold upd; rw [if_neg hlne, if_neg hlt]) hlow
          · show υ.2.2.1 9 _ = _; rw [m9]; unfold upd; rw [if_pos rfl]
          · show υ.2.2.1 10 _ = _; rw [m10]; unfold upd; rw [if_pos rfl]
          · have x := m8' j hj
            show _ = υ.2.2.1 8 (160 * (μ.1 11).toInt.toNat + j)
            rw [x, b4.2.2.2.2 (nr + 1) (mac_ne hv.1)]
            exact hch j hj
        · have eW : Wt (si υ 11 (μ.1 11 + 1)) = wsum (si υ 11 (μ.1 11 + 1)) ((μ.1 11).toInt.toNat + 1) := by
            unfold Wt
            rw [show (si υ 11 (μ.1 11 + 1)).1 11 = μ.1 11 + 1 by simp [si, upd], ev, g4]
          rw [eW]
          refine wsum_top (fun l hl => ?_) ?_
          · show (υ.2.2.1 9 l).toInt - (υ.2.2.1 10 l).toInt ≤ _
            have hlne : l ≠ (μ.1 11).toInt.toNat := Nat.ne_of_lt hl
            rw [m9, m10]
            unfold upd
            rw [if_neg hlne, if_neg hlne]
            by_cases hlt : l = ((μ.1 11).toInt - 1).toNat
            · rw [if_pos hlt, hlt]; omega
            · rw [if_neg hlt]; exact Int.le_refl _
          · show (υ.2.2.1 9 _).toInt - (υ.2.2.1 10 _).toInt + 1 ≤ _
            rw [m9, m10]
            unfold upd
            rw [if_pos rfl, if_pos rfl, z0]
            omega
        · show upd υ.1 11 (μ.1 11 + 1) k = _; unfold upd; rw [if_neg hk, u2]; rfl
        · show υ.2.2.2 = _; rw [u3]; show μ0.2.2.2 = _; rw [h0a]
        · show υ.2.2.1 k = _; rw [u4 k h8]; simp only [sa]; rw [if_neg h10, if_neg h9, if_neg h10, h0a]
        · have e : (si υ 11 (μ.1 11 + 1)).1 11 = μ.1 11 + 1 := by simp [si, upd]
          rw [e, ev] at hj
          obtain ⟨hne, hne2⟩ := mac_out hlv hj
          refine ⟨?_, ?_⟩
          · show υ.2.2.1 9 j = _; rw [m9]; unfold upd; rw [if_neg hne]
          · show υ.2.2.1 10 j = _; rw [m10]; unfold upd; rw [if_neg hne, if_neg hne2]
    · left
      refine ⟨σ1, ?_, kn_kp b4, hw1, ?_⟩
      · rw [hX, enter_full (by rw [c1]; exact h12)]
      · unfold F_mayRun
        rw [if_neg (by rw [Int32.lt_iff_toInt_lt]; omega), hD, if_pos rfl]
