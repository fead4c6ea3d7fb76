def nq (σ τ : XS) : Prop := τ.1 2 = σ.1 2 ∧ τ.2.2.2.1 3 = σ.2.2.2.1 3 ∧ τ.2.1 4 = σ.2.1 4 ∧ τ.2.1 5 = σ.2.1 5
/-- the class's rows, nest and cost stay -/
def kx (σ τ : XS) : Prop := rs σ τ ∧ nq σ τ ∧ τ.1 1 = σ.1 1
def mn (μ ν : MS) : Prop := ν.1 11 = μ.1 11 ∧ ν.2.2.1 8 = μ.2.2.1 8 ∧ ν.2.2.1 9 = μ.2.2.1 9 ∧ ν.2.2.1 10 = μ.2.2.1 10
/-- the reference's program, cost, texts stay -/
def km (μ ν : MS) : Prop := mn μ ν ∧ ν.1 1 = μ.1 1 ∧ ν.2.2.1 0 = μ.2.2.1 0 ∧ ν.1 15 = μ.1 15 ∧ ν.1 18 = μ.1 18
def mrest (μ ν : MS) : Prop := ν.1 14 = μ.1 14 ∧ ν.1 6 = μ.1 6 ∧ ν.2.2.2 12 = μ.2.2.2 12 ∧ ν.2.2.1 13 = μ.2.2.1 13
theorem nq.rf {σ : XS} : nq σ σ := ⟨rfl, rfl, rfl, rfl⟩
theorem nq.tr {σ τ υ : XS} (h : nq σ τ) (h2 : nq τ υ) : nq σ υ := ⟨h2.1.trans h.1, h2.2.1.trans h.2.1, h2.2.2.1.trans h.2.2.1, h2.2.2.2.trans h.2.2.2⟩
theorem kx.rf {σ : XS} : kx σ σ := ⟨rs.rf, nq.rf, rfl⟩
theorem kx.tr {σ τ υ : XS} (h : kx σ τ) (h2 : kx τ υ) : kx σ υ := ⟨h.1.tr h2.1, h.2.1.tr h2.2.1, h2.2.2.trans h.2.2⟩
theorem mn.rf {μ : MS} : mn μ μ := ⟨rfl, rfl, rfl, rfl⟩
theorem km.rf {μ : MS} : km μ μ := ⟨mn.rf, rfl, rfl, rfl, rfl⟩
theorem km.tr {μ ν ξ : MS} (h : km μ ν) (h2 : km ν ξ) : km μ ξ := ⟨⟨h2.1.1.trans h.1.1, h2.1.2.1.trans h.1.2.1, h2.1.2.2.1.trans h.1.2.2.1, h2.1.2.2.2.trans h.1.2.2.2⟩, h2.2.1.trans h.2.1, h2.2.2.1.trans h.2.2.1, h2.2.2.2.1.trans h.2.2.2.1, h2.2.2.2.2.trans h.2.2.2.2⟩
theorem mrest.rf {μ : MS} : mrest μ μ := ⟨rfl, rfl, rfl, rfl⟩
def good (σ u : XS) (μ ν : MS) : Prop := ST u ν ∧ kx σ u ∧ km μ ν ∧ ν.1 16 = 0
def bad (σ u : XS) (μ ν : MS) (E : String) : Prop := ST u ν ∧ kx σ u ∧ km μ ν ∧ ν.1 16 = xcd E ∧ xWF u
def cres (σ : XS) (μ : MS) (rx : (String × XS) ⊕ XS) (rm : Int32 × MS) : Prop := match rx with
  | .inr u => rm.1 = 1 ∧ good σ u μ rm.2
  | .inl e => rm.1 = 0 ∧ bad σ e.2 μ rm.2 e.1
theorem cres_ok {σ u : XS} {μ ν : MS} {rx : (String × XS) ⊕ XS} {rm : Int32 × MS} (h1 : rx = .inr u) (h2 : rm = (1, ν)) (hg : good σ u μ ν) : cres σ μ rx rm := by subst h1; subst h2; exact ⟨rfl, hg⟩
theorem cres_no {σ u : XS} {μ ν : MS} {E : String} {rx : (String × XS) ⊕ XS} {rm : Int32 × MS} (h1 : rx = .inl (E, u)) (h2 : rm = (0, ν)) (hb : bad σ u μ ν E) : cres σ μ rx rm := by subst h1; subst h2; exact ⟨rfl, hb⟩
/-- the same numbers of the reference -/
theorem ST_m {σ : XS} {μ ν : MS} (h5 : ν.1 5 = μ.1 5) (h14 : ν.1 14 = μ.1 14) (h6 : ν.1 6 = μ.1 6) (h2 : ν.2.2 = μ.2.2) (h : ST σ μ) : ST σ ν := by
  unfold ST shr prn itm at *
  rw [h5, h14, h6, h2]
  exact h
theorem ST_sfm {σ : XS} {μ ν : MS} (hs : sfm μ ν) (h : ST σ μ) : ST σ ν := ST_m (hs.1 5 (by decide) (by decide)) (hs.1 14 (by decide) (by decide)) (hs.1 6 (by decide) (by decide)) hs.2 h
theorem km_sfm {μ ν : MS} (hs : sfm μ ν) : km μ ν := by
  refine ⟨⟨hs.1 11 (by decide) (by decide), ?_, ?_, ?_⟩, hs.1 1 (by decide) (by decide), ?_, hs.1 15 (by decide) (by decide), hs.1 18 (by decide) (by decide)⟩ <;> rw [hs.2]
theorem bad_sfm {σ : XS} {μ ν : MS} {E : String} (hw : xWF σ) (h : ST σ μ) (hn : noC μ ν (xcd E)) : bad σ σ μ ν E := ⟨ST_sfm hn.1 h, kx.rf, km_sfm hn.1, hn.2, hw⟩
theorem noC_si {μ : MS} {v : Int32} : noC μ (si μ 16 v) v := ⟨sfm_si16 sfm_rf, z16⟩
theorem prn_keep {σ τ : XS} {μ ν : MS} (hq : shq σ τ 31) (hm : mrest μ ν) (h : prn σ μ) : prn τ ν := by
  obtain ⟨q0, q1, q2, -, -⟩ := hq
  obtain ⟨m1, m2, m3, m4⟩ := hm
  unfold prn at *
  rw [q0, m1, m3, m4, q1, q2]
  exact h
theorem prn_keep' {σ τ : XS} {μ ν : MS} (q0 : τ.1 31 = σ.1 31) (q1 : τ.2.2.1 32 = σ.2.2.1 32) (q2 : τ.2.1 33 = σ.2.1 33) (hm : mrest μ ν) (h : prn σ μ) : prn τ ν := by
  obtain ⟨m1, m2, m3, m4⟩ := hm
  unfold prn at *
  rw [q0, m1, m3, m4, q1, q2]
  exact h
theorem shput_kx {σ : XS} {c N : Nat} {v : Int64} {p : Int32} {r : Option Nat} {s : Int32} (hc : c ∈ shN) : kx σ (shput σ c N v p r s) := by
  have := shN_lt hc
  refine ⟨shput_rs hc, ⟨shput_1 (by omega), ?_, ?_, ?_⟩, shput_1 (by omega)⟩
  · simp only [shput, xa, xr, xb, xi]; rw [if_neg (by omega)]
  · simp only [shput, xa, xr, xb, xi]; rw [if_neg (by omega), if_neg (by omega)]
  · simp only [shput, xa, xr, xb, xi]; rw [if_neg (by omega), if_neg (by omega)]
theorem xi_rs {σ : XS} {c : Nat} {v : Int32} (hc : c < 36) : rs σ (xi σ c v) := ⟨rfl, fun n hn => ⟨by show upd σ.1 c v n = σ.1 n; unfold upd; rw [if_neg (by omega)], rfl⟩⟩
theorem xi_ne {σ : XS} {c k : Nat} {v : Int32} (h : k ≠ c) : (xi σ c v).1 k = σ.1 k := by show upd σ.1 c v k = σ.1 k; unfold upd; rw [if_neg h]
theorem xi_kx {σ : XS} {c : Nat} {v : Int32} (hc : c < 36) (h1 : c ≠ 1) (h2 : c ≠ 2) : kx σ (xi σ c v) := ⟨xi_rs hc, ⟨xi_ne (Ne.symm h2), rfl, rfl, rfl⟩, xi_ne (Ne.symm h1)⟩
theorem xi_shq {σ : XS} {c d : Nat} {v : Int32} (h : d ≠ c) : shq σ (xi σ c v) d := ⟨xi_ne h, rfl, rfl, rfl, rfl⟩
theorem drop_eq {σ : XS} {c : Nat} {n : Int32} (h0 : 0 ≤ n.toInt) (h1 : n.toInt ≤ (σ.1 c).toInt) (h2 : (σ.1 c).toInt ≤ 100) : Xsh_drop σ c n = xi σ c (σ.1 c - n) := by
  have z0 : (0 : Int32).toInt = 0 := rfl
  obtain ⟨e, -⟩ := clamp_sub h0 h1 h2
  unfold Xsh_drop
  by_cases c9 : (0 : Int32) < σ.1 c - n
  · rw [if_pos c9]
  · rw [if_neg c9]
    congr 1
    apply Int32.toInt_inj.mp
    rw [Int32.lt_iff_toInt_lt] at c9
    omega
theorem regsh {r : Nat} (h : r < 4) : 11 + 5 * r ∈ shN := by
  rcases (show r = 0 ∨ r = 1 ∨ r = 2 ∨ r = 3 by omega) with rfl | rfl | rfl | rfl <;> decide
theorem reglen {r : Nat} (h : r < 4) : xlen (11 + 5 * r) = 10 := by
  rcases (show r = 0 ∨ r = 1 ∨ r = 2 ∨ r = 3 by omega) with rfl | rfl | rfl | rfl <;> decide
/-- items dropped from the stack -/
theorem ST_drop {σ : XS} {μ ν : MS} {n : Int32} (h : ST σ μ) (h0 : 0 ≤ n.toInt) (h1 : n.toInt ≤ (μ.1 5).toInt) (e5 : ν.1 5 = μ.1 5 - n) (hr : mrest μ ν) (e2 : ν.2.2 = μ.2.2) : ST (Xsh_drop σ 6 n) ν := by
  obtain ⟨d1, d2, d3⟩ := h.depth
  obtain ⟨hs, hg, hp, hk, hk9⟩ := h
  rw [drop_eq h0 (by rw [d1]; exact h1) (by rw [d1]; omega), d1]
  obtain ⟨e, -⟩ := clamp_sub h0 h1 (by omega)
  have hm : ∀ k, msame μ ν k := fun k => by unfold msame; rw [e2]; exact ⟨rfl, rfl, fun _ _ => rfl⟩
  refine ⟨?_, fun r h4 => ?_, prn_keep (xi_shq (by decide)) hr hp, ?_, ?_⟩
  · rw [e5]
    exact shr_less (xi_rs (by decide)) xi_1 ⟨rfl, rfl, rfl, rfl⟩ (by omega) (by omega) (fun i _ => hm _) hs
  · rw [show ν.2.2.1 7 r = μ.2.2.1 7 r by rw [e2]]
    exact shr_keep (xi_rs (by decide)) (xi_shq (by omega)) (fun i _ => hm _) (hg r h4)
  · rw [hr.2.1]; exact (xi_ne (by decide)).trans hk
  · rw [hr.2.1]; exact hk9
theorem drop_kx {σ : XS} {c : Nat} {n : Int32} (hc : c ∈ shN) : kx σ (Xsh_drop σ c n) := by
  have := shN_lt hc
  exact xi_kx (by omega) (by omega) (by omega)
/-- an item more on the stack -/
theorem ST_push {σ : XS} {μ ν : MS} {v : Int64} {p : Int32} {r : Option Nat} {s : Int32} (h : ST σ μ) (hd : (μ.1 5).toInt < 40) (e5 : ν.1 5 = μ.1 5 + 1) (hr : mrest μ ν) (e7 : ν.2.2.1 7 = μ.2.2.1 7) (hm : ∀ k, k < 80 → k ≠ (μ.1 5).toInt.toNat → msame μ ν k) (hv : ν.2.2.2 2 (μ.1 5).toInt.toNat = v) (hp : ν.2.2.1 3 (μ.1 5).toInt.toNat = p) (hi : itk σ r s v p (fun j => ν.2.2.1 4 (160 * (μ.1 5).toInt.toNat + j))) : Xsh_put σ 6 v p r s = .inr (shput σ 6 (μ.1 5).toInt.toNat v p r s) ∧ ST (shput σ 6 (μ.1 5).toInt.toNat v p r s) ν := by
  obtain ⟨d1, d2, d3⟩ := h.depth
  obtain ⟨hs, hg, hpn, hk, hk9⟩ := h
  have x6 : xlen 6 = 40 := by decide
  have hput := put_eq (σ := σ) (c := 6) (v := v) (p := p) (r := r) (s := s) (by decide) (by rw [d1]; exact d2) (by rw [d1, x6]; omega)
  rw [d1] at hput
  refine ⟨hput, ?_, fun q h4 => ?_, ?_, ?_, ?_⟩
  · rw [e5]
    refine shr_put (by decide) hs (by rw [x6]; omega) (fun i hi9 => hm _ (by omega) (by omega)) ?_ ?_ ?_
    · rw [Nat.zero_add]; exact hv
    · rw [Nat.zero_add]; exact hp
    · rw [Nat.zero_add]; exact hi
  · rw [e7]
    have hgq := hg q h4
    have hl := hgq.2.2.1
    rw [reglen h4] at hl
    exact shr_keep (shput_rs (by decide)) (shput_shq (sh_apart (by decide) (regsh h4) (by omega))) (fun i hi9 => hm _ (by omega) (by omega)) hgq
  · exact prn_keep (shput_shq (sh_apart (by decide) (by decide) (by decide))) hr hpn
  · rw [hr.2.1]; exact (shput_1 (by decide)).trans hk
  · rw [hr.2.1]; exact hk9
/-- an item more in a register -/
theorem ST_rpush {σ : XS} {μ ν : MS} {q : Nat} {v : Int64} {p : Int32} {r : Option Nat} {s : Int32} (h : ST σ μ) (h4 : q < 4) (hd : (μ.2.2.1 7 q).toInt < 10) (e5 : ν.1 5 = μ.1 5) (hr : mrest μ ν) (e7 : ν.2.2.1 7 q = μ.2.2.1 7 q + 1) (e7' : ∀ k, k ≠ q → ν.2.2.1 7 k = μ.2.2.1 7 k) (hm : ∀ k, k < 80 → k ≠ 40 + 10 * q + (μ.2.2.1 7 q).toInt.toNat → msame μ ν k) (hv : ν.2.2.2 2 (40 + 10 * q + (μ.2.2.1 7 q).toInt.toNat) = v) (hp : ν.2.2.1 3 (40 + 10 * q + (μ.2.2.1 7 q).toInt.toNat) = p) (hi : itk σ r s v p (fun j => ν.2.2.1 4 (160 * (40 + 10 * q + (μ.2.2.1 7 q).toInt.toNat) + j))) : Xsh_put σ (11 + 5 * q) v p r s = .inr (shput σ (11 + 5 * q) (μ.2.2.1 7 q).toInt.toNat v p r s) ∧ ST (shput σ (11 + 5 * q) (μ.2.2.1 7 q).toInt.toNat v p r s) ν := by
  obtain ⟨d1, d2, d3⟩ := h.depth
  obtain ⟨hs, hg, hpn, hk, hk9⟩ := h
  obtain ⟨g1, g2, g3, g4⟩ := hg q h4
  have hc := regsh h4
  have xl := reglen h4
  have hput := put_eq (σ := σ) (c := 11 + 5 * q) (v := v) (p := p) (r := r) (s := s) hc (by rw [g1]; exact g2) (by rw [g1, xl]; omega)
  rw [g1] at hput
  refine ⟨hput, ?_, fun q' h4' => ?_, ?_, ?_, ?_⟩
  · rw [e5]
    exact shr_keep (shput_rs hc) (shput_shq (sh_apart hc (by decide) (by omega))) (fun i hi9 => hm _ (by omega) (by omega)) hs
  · by_cases hq : q' = q
    · subst hq
      rw [e7]
      exact shr_put hc ⟨g1, g2, g3, g4⟩ (by rw [xl]; omega) (fun i hi9 => hm _ (by omega) (by omega)) hv hp hi
    · rw [e7' q' hq]
      have hgq := hg q' h4'
      have hl := hgq.2.2.1
      rw [reglen h4'] at hl
      exact shr_keep (shput_rs hc) (shput_shq (sh_apart hc (regsh h4') (by omega))) (fun i hi9 => hm _ (by omega) (by omega)) hgq
  · exact prn_keep (shput_shq (sh_apart hc (by decide) (by omega))) hr hpn
  · rw [hr.2.1]; exact (shput_1 (by omega)).trans hk
  · rw [hr.2.1]; exact hk9
/-- an item less in a register -/
theorem ST_rdrop {σ : XS} {μ ν : MS} {q : Nat} (h : ST σ μ) (h4 : q < 4) (hd : 1 ≤ (μ.2.2.1 7 q).toInt) (e5 : ν.1 5 = μ.1 5) (hr : mrest μ ν) (e7 : ν.2.2.1 7 q = μ.2.2.1 7 q - 1) (e7' : ∀ k, k ≠ q → ν.2.2.1 7 k = μ.2.2.1 7 k) (hm : ∀ k, k < 80 → k ≠ 40 + 10 * q + (μ.2.2.1 7 q).toInt.toNat - 1 → msame μ ν k) : ST (Xsh_drop σ (11 + 5 * q) 1) ν := by
  obtain ⟨d1, d2, d3⟩ := h.depth
  obtain ⟨hs, hg, hpn, hk, hk9⟩ := h
  obtain ⟨g1, g2, g3, g4⟩ := hg q h4
  have hc := regsh h4
  have xl := reglen h4
  have z1 : (1 : Int32).toInt = 1 := rfl
  rw [xl] at g3
  rw [drop_eq (by decide) (by rw [g1, z1]; exact hd) (by rw [g1]; omega), g1]
  obtain ⟨e, -⟩ := clamp_sub (d := μ.2.2.1 7 q) (k := 1) (by decide) (by rw [z1]; exact hd) (by omega)
  rw [z1] at e
  refine ⟨?_, fun q' h4' => ?_, prn_keep (xi_shq (by omega)) hr hpn, ?_, ?_⟩
  · rw [e5]
    exact shr_keep (xi_rs (by omega)) (xi_shq (by omega)) (fun i hi9 => hm _ (by omega) (by omega)) hs
  · by_cases hq : q' = q
    · subst hq
      rw [e7]
      exact shr_less (cnt := μ.2.2.1 7 q') (xi_rs (by omega)) xi_1 ⟨rfl, rfl, rfl, rfl⟩ (by omega) (by omega) (fun i hi9 => hm _ (by omega) (by omega)) ⟨g1, g2, by rw [xl]; exact g3, g4⟩
    · rw [e7' q' hq]
      have hgq := hg q' h4'
      have hl := hgq.2.2.1
      rw [reglen h4'] at hl
      exact shr_keep (xi_rs (by omega)) (xi_shq (by omega)) (fun i hi9 => hm _ (by omega) (by omega)) hgq
  · rw [hr.2.1]; exact (xi_ne (by omega)).trans hk
  · rw [hr.2.1]; exact hk9
