theorem putTop_eq {σ u : XS} {c d : Nat} (h : Xsh_put σ c (Xsh_valueAt σ d (Xsh_slotBelowTop σ d 0)) (Xsh_placesAt σ d (Xsh_slotBelowTop σ d 0)) (Xsh_rowAt σ d (Xsh_slotBelowTop σ d 0)) (Xsh_startAt σ d (Xsh_slotBelowTop σ d 0)) = .inr u) : Xsh_putTopOf σ c d = .inr u := by unfold Xsh_putTopOf; rw [h]
theorem putTop_full {σ : XS} {c d : Nat} (hc : c ∈ shN) (h1 : ¬ (σ.1 c).toInt < xlen c) : Xsh_putTopOf σ c d = .inl ("java/lang/UnsupportedOperationException", σ) := by unfold Xsh_putTopOf; rw [put_full hc h1]
theorem mrest_copy {μ ν : MS} (h1 : ν.1 = μ.1) (h2 : ∀ q, q ≠ 2 → ν.2.2.2 q = μ.2.2.2 q) (h3 : ∀ q, q ≠ 3 → q ≠ 4 → ν.2.2.1 q = μ.2.2.1 q) : mrest μ ν := ⟨by rw [h1], by rw [h1], h2 12 (by decide), h3 13 (by decide) (by decide)⟩
theorem km_copy {μ ν : MS} (h1 : ν.1 = μ.1) (h3 : ∀ q, q ≠ 3 → q ≠ 4 → ν.2.2.1 q = μ.2.2.1 q) : km μ ν := ⟨⟨by rw [h1], h3 8 (by decide) (by decide), h3 9 (by decide) (by decide), h3 10 (by decide) (by decide)⟩, by rw [h1], h3 0 (by decide) (by decide), by rw [h1], by rw [h1]⟩
theorem km_si {μ : MS} {k : Nat} {v : Int32} (h : k ≠ 11 ∧ k ≠ 1 ∧ k ≠ 15 ∧ k ≠ 18) : km μ (si μ k v) := by
  obtain ⟨h1, h2, h3, h4⟩ := h
  refine ⟨⟨?_, rfl, rfl, rfl⟩, ?_, rfl, ?_, ?_⟩ <;> (simp only [si, upd]; rw [if_neg (by omega)])
/-- the stack's item at a slot replaced -/
def setslot (σ : XS) (c N : Nat) (v : Int64) (p : Int32) (r : Option Nat) (s : Int32) : XS := xa (xr (xa (xb σ (c + 1) N v) (c + 2) N p) (c + 3) N r) (c + 4) N s
theorem set_eq {σ : XS} {c : Nat} {i : Int32} {v : Int64} {p : Int32} {r : Option Nat} {s : Int32} (hc : c ∈ shN) (h0 : 0 ≤ i.toInt) (h1 : i.toInt < (σ.1 c).toInt) (h2 : (σ.1 c).toInt ≤ xlen c) : Xsh_set σ c i v p r s = setslot σ c i.toInt.toNat v p r s := by
  have hn : i.toNatClampNeg = i.toInt.toNat := (Int32.toNat_toInt i).symm
  unfold Xsh_set
  rw [has_yes hc h0 h1 h2, if_neg (by decide), hn]
  rfl
theorem setslot_kx {σ : XS} {c N : Nat} {v : Int64} {p : Int32} {r : Option Nat} {s : Int32} (hc : c ∈ shN) : kx σ (setslot σ c N v p r s) := by
  have := shN_lt hc
  refine ⟨⟨rfl, fun n hn => ⟨rfl, ?_⟩⟩, ⟨rfl, ?_, ?_, ?_⟩, rfl⟩
  · simp only [setslot, xa, xr, xb]; rw [if_neg (by omega), if_neg (by omega)]
  · simp only [setslot, xa, xr, xb]; rw [if_neg (by omega)]
  · simp only [setslot, xa, xr, xb]; rw [if_neg (by omega), if_neg (by omega)]
  · simp only [setslot, xa, xr, xb]; rw [if_neg (by omega), if_neg (by omega)]
theorem setslot_shq {σ : XS} {c d N : Nat} {v : Int64} {p : Int32} {r : Option Nat} {s : Int32} (h : apart c d) : shq σ (setslot σ c N v p r s) d := by
  unfold apart at h
  refine ⟨rfl, ?_, ?_, ?_, ?_⟩
  · simp only [setslot, xa, xr, xb]; rw [if_neg (by omega)]
  · simp only [setslot, xa, xr, xb]; rw [if_neg (by omega), if_neg (by omega)]
  · simp only [setslot, xa, xr, xb]; rw [if_neg (by omega)]
  · simp only [setslot, xa, xr, xb]; rw [if_neg (by omega), if_neg (by omega)]
theorem ST_set {σ : XS} {μ ν : MS} {N : Nat} {v : Int64} {p : Int32} {r : Option Nat} {s : Int32} (h : ST σ μ) (hN : N < 40) (e1 : ν.1 = μ.1) (hr : mrest μ ν) (e7 : ν.2.2.1 7 = μ.2.2.1 7) (hm : ∀ k, k < 80 → k ≠ N → msame μ ν k) (hv : ν.2.2.2 2 N = v) (hp : ν.2.2.1 3 N = p) (hi : itk σ r s v p (fun j => ν.2.2.1 4 (160 * N + j))) : ST (setslot σ 6 N v p r s) ν := by
  obtain ⟨d1, d2, d3⟩ := h.depth
  obtain ⟨hs, hg, hpn, hk, hk9⟩ := h
  have hkx := setslot_kx (σ := σ) (c := 6) (N := N) (v := v) (p := p) (r := r) (s := s) (by decide)
  have w1 : (setslot σ 6 N v p r s).2.2.1 7 = vp_updL (σ.2.2.1 7) N v := by simp [setslot, xa, xr, xb]
  have w2 : (setslot σ 6 N v p r s).2.1 8 = upd (σ.2.1 8) N p := by simp [setslot, xa, xr, xb]
  have w3 : (setslot σ 6 N v p r s).2.2.2.1 9 = va_up (σ.2.2.2.1 9) N r := by simp [setslot, xa, xr, xb]
  have w4 : (setslot σ 6 N v p r s).2.1 10 = upd (σ.2.1 10) N s := by simp [setslot, xa, xr, xb]
  refine ⟨?_, fun q h4 => ?_, ?_, ?_, ?_⟩
  · rw [show ν.1 5 = μ.1 5 by rw [e1]]
    refine ⟨d1, d2, hs.2.2.1, fun i hi9 => ?_⟩
    rw [Nat.zero_add]
    by_cases c9 : i = N
    · subst c9
      unfold itm
      rw [show 6 + 1 = 7 from rfl, show 6 + 2 = 8 from rfl, show 6 + 3 = 9 from rfl, show 6 + 4 = 10 from rfl, w1, w2, w3, w4]
      simp only [vp_updL, upd, va_up, ↓reduceIte]
      exact ⟨hv.symm, hp.symm, itk_rs hkx.1 (fun _ _ => rfl) hi⟩
    · obtain ⟨b1, b2, b3⟩ := hs.2.2.2 i hi9
      rw [Nat.zero_add] at b1 b2 b3
      obtain ⟨m1, m2, m3⟩ := hm i (by omega) c9
      unfold itm
      rw [show 6 + 1 = 7 from rfl, show 6 + 2 = 8 from rfl, show 6 + 3 = 9 from rfl, show 6 + 4 = 10 from rfl, w1, w2, w3, w4]
      simp only [vp_updL, upd, va_up, c9, ↓reduceIte]
      exact ⟨by rw [m1]; exact b1, by rw [m2]; exact b2, itk_rs hkx.1 (fun j hj => m3 j hj) b3⟩
  · rw [e7]
    have hgq := hg q h4
    have hl := hgq.2.2.1
    rw [reglen h4] at hl
    exact shr_keep hkx.1 (setslot_shq (sh_apart (by decide) (regsh h4) (by omega))) (fun i hi9 => hm _ (by omega) (by omega)) hgq
  · exact prn_keep (setslot_shq (sh_apart (by decide) (by decide) (by decide))) hr hpn
  · rw [hr.2.1]; exact hk
  · rw [hr.2.1]; exact hk9
/-- slots beyond the items don't matter -/
theorem ST_msame {σ : XS} {μ ν : MS} (h : ST σ μ) (e1 : ν.1 = μ.1) (hr : mrest μ ν) (e7 : ν.2.2.1 7 = μ.2.2.1 7) (hm : ∀ k, k < 80 → msame μ ν k) : ST σ ν := by
  obtain ⟨hs, hg, hpn, hk, hk9⟩ := h
  refine ⟨?_, fun q h4 => ?_, prn_keep shq.rf hr hpn, by rw [hr.2.1]; exact hk, by rw [hr.2.1]; exact hk9⟩
  · rw [show ν.1 5 = μ.1 5 by rw [e1]]
    have h40 : xlen 6 = 40 := by decide
    have := hs.2.2.1
    exact shr_keep rs.rf shq.rf (fun i hi => hm _ (by omega)) hs
  · rw [e7]
    have hgq := hg q h4
    have hl := hgq.2.2.1
    rw [reglen h4] at hl
    exact shr_keep rs.rf shq.rf (fun i hi9 => hm _ (by omega)) hgq
/-- the top printed -/
theorem ST_print {σ : XS} {μ ν : MS} {v : Int64} {p : Int32} {r : Option Nat} {s : Int32} (h : ST σ μ) (hd : (μ.1 14).toInt < 40) (hν : ν = si (sa (sb μ 12 (μ.1 14).toNatClampNeg v) 13 (μ.1 14).toNatClampNeg p) 14 (μ.1 14 + 1)) : Xsh_put σ 31 v p r s = .inr (shput σ 31 (μ.1 14).toInt.toNat v p r s) ∧ ST (shput σ 31 (μ.1 14).toInt.toNat v p r s) ν := by
  obtain ⟨hs, hg, hpn, hk, hk9⟩ := h
  obtain ⟨p1, p2, p3, p4⟩ := hpn
  have x31 : xlen 31 = 40 := by decide
  have hput := put_eq (σ := σ) (c := 31) (v := v) (p := p) (r := r) (s := s) (by decide) (by rw [p1]; exact p2) (by rw [p1, x31]; omega)
  rw [p1] at hput
  have nn : (μ.1 14).toNatClampNeg = (μ.1 14).toInt.toNat := (Int32.toNat_toInt _).symm
  rw [nn] at hν
  have hm : ∀ k, msame μ ν k := fun k => by rw [hν]; exact ⟨by simp [si, sa, sb], by simp [si, sa, sb], fun j _ => by simp [si, sa, sb]⟩
  refine ⟨hput, ?_, fun q h4 => ?_, ?_, ?_, ?_⟩
  · rw [show ν.1 5 = μ.1 5 by rw [hν]; simp [si, sa, sb, upd]]
    exact shr_keep (shput_rs (by decide)) (shput_shq (sh_apart (by decide) (by decide) (by decide))) (fun i _ => hm _) hs
  · rw [show ν.2.2.1 7 q = μ.2.2.1 7 q by rw [hν]; simp [si, sa, sb]]
    exact shr_keep (shput_rs (by decide)) (shput_shq (sh_apart (by decide) (regsh h4) (by omega))) (fun i _ => hm _) (hg q h4)
  · have e14 : ν.1 14 = μ.1 14 + 1 := by rw [hν]; simp [si, upd]
    have e1 : (μ.1 14 + 1).toInt = (μ.1 14).toInt + 1 := i_addE rfl (show (1 : Int32).toInt = 1 from rfl) (by omega) (by omega)
    have w1 : (shput σ 31 (μ.1 14).toInt.toNat v p r s).2.2.1 32 = vp_updL (σ.2.2.1 32) (μ.1 14).toInt.toNat v := by simp [shput, xa, xr, xb, xi]
    have w2 : (shput σ 31 (μ.1 14).toInt.toNat v p r s).2.1 33 = upd (σ.2.1 33) (μ.1 14).toInt.toNat p := by simp [shput, xa, xr, xb, xi]
    have v1 : ν.2.2.2 12 = vp_updL (μ.2.2.2 12) (μ.1 14).toInt.toNat v := by rw [hν]; simp [si, sa, sb]
    have v2 : ν.2.2.1 13 = upd (μ.2.2.1 13) (μ.1 14).toInt.toNat p := by rw [hν]; simp [si, sa, sb]
    unfold prn
    rw [e14, e1, w1, w2, v1, v2]
    refine ⟨?_, by omega, by omega, fun i hi => ?_⟩
    · show upd σ.1 31 (σ.1 31 + 1) 31 = _; unfold upd; rw [if_pos rfl, p1]
    · by_cases c9 : i = (μ.1 14).toInt.toNat
      · simp only [vp_updL, upd, c9, ↓reduceIte]; exact ⟨trivial, trivial⟩
      · simp only [vp_updL, upd, c9, ↓reduceIte]; exact p4 i (by omega)
  · rw [show ν.1 6 = μ.1 6 by rw [hν]; simp [si, sa, sb, upd]]; exact (shput_1 (by decide)).trans hk
  · rw [show ν.1 6 = μ.1 6 by rw [hν]; simp [si, sa, sb, upd]]; exact hk9
theorem ST_clear {σ : XS} {μ : MS} (h : ST σ μ) : ST (Xsh_clear σ 6) (si μ 5 0) := by
  obtain ⟨d1, d2, d3⟩ := h.depth
  obtain ⟨hs, hg, hpn, hk, hk9⟩ := h
  have z0 : (0 : Int32).toInt = 0 := rfl
  have hr : mrest μ (si μ 5 0) := ⟨by simp [si, upd], by simp [si, upd], rfl, rfl⟩
  unfold Xsh_clear
  refine ⟨?_, fun r h4 => ?_, prn_keep (xi_shq (by decide)) hr hpn, ?_, ?_⟩
  · rw [show (si μ 5 0).1 5 = 0 by simp [si, upd]]
    exact shr_less (xi_rs (by decide)) xi_1 ⟨rfl, rfl, rfl, rfl⟩ (by decide) (by rw [z0]; exact d2) (fun i _ => ⟨rfl, rfl, fun _ _ => rfl⟩) hs
  · exact shr_keep (xi_rs (by decide)) (xi_shq (by omega)) (fun i _ => ⟨rfl, rfl, fun _ _ => rfl⟩) (hg r h4)
  · rw [hr.2.1]; exact (xi_ne (by decide)).trans hk
  · rw [hr.2.1]; exact hk9
/-- d r D c z K p -/
theorem arr_rel {σ : XS} {μ : MS} (h : ST σ μ) (hw : xWF σ) (h16 : μ.1 16 = 0) :
    cres σ μ (Xdesk_arrangeStack σ 68) (F_moves μ 68) ∧ cres σ μ (Xdesk_arrangeStack σ 75) (F_moves μ 75) ∧ cres σ μ (Xdesk_arrangeStack σ 99) (F_moves μ 99) ∧ cres σ μ (Xdesk_arrangeStack σ 100) (F_moves μ 100) ∧ cres σ μ (Xdesk_arrangeStack σ 112) (F_moves μ 112) ∧ cres σ μ (Xdesk_arrangeStack σ 114) (F_moves μ 114) ∧ cres σ μ (Xdesk_arrangeStack σ 122) (F_moves μ 122) := by
  obtain ⟨d1, d2, d3⟩ := h.depth
  have z0 : (0 : Int32).toInt = 0 := rfl
  have z1 : (1 : Int32).toInt = 1 := rfl
  have z2 : (2 : Int32).toInt = 2 := rfl
  have ek : σ.1 0 = μ.1 6 := h.2.2.2.1
  have h5d : (μ.1 5).toInt.toNat = (μ.1 5).toNatClampNeg := Int32.toNat_toInt _
  have nb : ∀ v : Int64, fit v.toInt → ∀ k, Xdesk_arrangeStack σ k = (match Xsh_putNumber σ 6 v 0 with | .inl e9 => .inl e9 | .inr u => .inr u) → F_moves μ k = (let q_26 := F_room μ; if q_26.1 = 0 then (0, q_26.2) else (1, si (sa (sb (si μ 5 (μ.1 5 - 0)) 2 (μ.1 5 - 0).toNatClampNeg v) 3 (μ.1 5 - 0).toNatClampNeg 0) 5 (μ.1 5 - 0 + 1))) → cres σ μ (Xdesk_arrangeStack σ k) (F_moves μ k) := by
    intro v hv k hX hM
    by_cases hd : (μ.1 5).toInt < 40
    · obtain ⟨u, hu, hg⟩ := fin_num (B := μ) (n := 0) (v := v) (p := 0) h (by decide) (by rw [z0]; exact d2) (by rw [z0]; omega) hv (by unfold pls; decide) (fun _ _ _ => rfl) rfl h16 rfl
      rw [drop0 (by rw [d1]; exact d2) (by rw [d1]; omega)] at hu
      refine cres_ok ?_ ?_ hg
      · rw [hX, hu]
      · rw [hM, room_yes hd]; exact if_neg (show ¬ (1 : Int32) = 0 by decide)
    · refine cres_no ?_ ?_ (bad_sfm hw h (by rw [xcd_5]; exact noC_si))
      · rw [hX, putNum_full (by rw [d1]; exact hd)]
      · rw [hM, room_no hd]; exact if_pos rfl
  refine ⟨?_, ?_, ?_, ?_, ?_, ?_, ?_⟩
  · by_cases hd : 1 ≤ (μ.1 5).toInt
    · obtain ⟨x1, m1⟩ := need_yes (n := 1) h (by rw [z1]; exact hd)
      refine cres_ok (u := Xsh_drop σ 6 1) (ν := si μ 5 (μ.1 5 - 1)) ?_ ?_ ⟨ST_drop h (by decide) (by rw [z1]; exact hd) (by simp [si, upd]) ⟨by simp [si, upd], by simp [si, upd], rfl, rfl⟩ rfl, drop_kx (by decide), km_si (by decide), by rw [← h16]; simp [si, upd]⟩
      · unfold Xdesk_arrangeStack; rw [if_pos rfl]; simp only [x1]
      · unfold F_moves
        rw [if_neg (by decide), if_neg (by decide), if_neg (by decide), if_neg (by decide)]
        simp only [m1]
        rw [if_neg (by decide), if_neg (by decide), if_pos (by first | rfl | trivial)]
    · obtain ⟨x1, m1⟩ := need_no (n := 1) h (by rw [z1]; exact hd)
      refine cres_no ?_ ?_ (bad_sfm hw h (by rw [xcd_2]; exact noC_si))
      · unfold Xdesk_arrangeStack; rw [if_pos rfl]; simp only [x1]
      · unfold F_moves
        rw [if_neg (by decide), if_neg (by decide), if_neg (by decide), if_neg (by decide)]
        simp only [m1, ↓reduceIte]
  · refine nb (μ.1 6).toInt64 fit_i32 75 ?_ ?_
    · unfold Xdesk_arrangeStack; rw [if_neg (by decide), if_pos rfl, ek]; cases Xsh_putNumber σ 6 (μ.1 6).toInt64 0 <;> rfl
    · unfold F_moves; rw [if_neg (by decide), if_neg (by decide), if_pos rfl]
  · refine cres_ok (u := Xsh_clear σ 6) (ν := si μ 5 0) ?_ ?_ ⟨ST_clear h, xi_kx (by decide) (by decide) (by decide), km_si (by decide), by rw [← h16]; simp [si, upd]⟩
    · unfold Xdesk_arrangeStack; rw [if_neg (by decide), if_neg (by decide), if_pos rfl]
    · unfold F_moves; rw [if_pos rfl]
  · have hX : ∀ R, Xdesk_needItems σ 1 = R → Xdesk_arrangeStack σ 100 = (match R with | .inl e9 => .inl e9 | .inr _ => (match Xsh_putTopOf σ 6 6 with | .inl e9 => .inl e9 | .inr u81 => .inr u81)) := by
      intro R hR
      unfold Xdesk_arrangeStack; rw [if_neg (by decide), if_neg (by decide), if_neg (by decide), if_pos rfl, hR]
      cases R with
      | inl e => rfl
      | inr u => cases Xsh_putTopOf σ 6 6 <;> rfl
    have hM : ∀ q, F_have μ 1 = q → F_moves μ 100 = if q.1 = 0 then (0, q.2) else (let q_88 := F_room μ; if q_88.1 = 0 then (0, q_88.2) else (1, si (F_copy μ (μ.1 5 - 1) (μ.1 5)) 5 (μ.1 5 + 1))) := by
      intro q hq; subst hq
      unfold F_moves
      rw [if_neg (by decide), if_neg (by decide), if_neg (by decide), if_neg (by decide)]
      rfl
    by_cases hd : 1 ≤ (μ.1 5).toInt
    · obtain ⟨x1, m1⟩ := need_yes (n := 1) h (by rw [z1]; exact hd)
      rw [hX _ x1, hM _ m1, if_neg (show ¬ (1 : Int32) = 0 by decide)]
      by_cases h40 : (μ.1 5).toInt < 40
      · have ty := topX (k := 0) h (by decide) (by rw [z0]; omega)
        have hi := top_itm (k := 0) h (by decide) (by rw [z0]; omega)
        rw [z0, Int.sub_zero] at ty hi
        obtain ⟨c0, c1⟩ := clamp_sub (d := μ.1 5) (k := 1) (by decide) (by rw [z1]; omega) (by omega)
        rw [z1] at c0 c1
        obtain ⟨s1, s2⟩ := itm_src hi
        obtain ⟨a1, a2, a3, a4, a5, a6, a7⟩ := copy_spec (μ := μ) (f := μ.1 5 - 1) (t := μ.1 5) (by omega) (by omega) (by omega) (by rw [c0]; exact s1) (by rw [c0]; exact s2)
        rw [c0] at a5 a6 a7
        have hP := ST_push (ν := si (F_copy μ (μ.1 5 - 1) (μ.1 5)) 5 (μ.1 5 + 1)) h h40 (by simp [si, upd]) ⟨by simp [si, upd, a1], by simp [si, upd, a1], a2 12 (by decide), a3 13 (by decide) (by decide)⟩ (a3 7 (by decide) (by decide)) (fun k _ hk => a4 k hk) a5 a6 (itk_copy hi a7)
        refine cres_ok (u := _) (ν := si (F_copy μ (μ.1 5 - 1) (μ.1 5)) 5 (μ.1 5 + 1)) ?_ ?_ ⟨hP.2, shput_kx (by decide), (km_copy a1 a3).tr (km_si (by decide)), by rw [← h16]; simp [si, upd, a1]⟩
        · rw [putTop_eq (u := shput σ 6 (μ.1 5).toInt.toNat (μ.2.2.2 2 ((μ.1 5).toInt - 1).toNat) (μ.2.2.1 3 ((μ.1 5).toInt - 1).toNat) (σ.2.2.2.1 9 ((μ.1 5).toInt - 1).toNat) (σ.2.1 10 ((μ.1 5).toInt - 1).toNat)) (by rw [ty.1, ty.2.1, ty.2.2.1, ty.2.2.2]; exact hP.1)]
        · rw [room_yes h40]; exact if_neg (show ¬ (1 : Int32) = 0 by decide)
      · refine cres_no (E := "java/lang/UnsupportedOperationException") (u := σ) (ν := si μ 16 5) ?_ ?_ (bad_sfm hw h (by rw [xcd_5]; exact noC_si))
        · rw [putTop_full (by decide) (by rw [d1]; exact h40)]
        · rw [room_no h40]; exact if_pos rfl
    · obtain ⟨x1, m1⟩ := need_no (n := 1) h (by rw [z1]; exact hd)
      exact cres_no (hX _ x1) ((hM _ m1).trans (if_pos rfl)) (bad_sfm hw h (by rw [xcd_2]; exact noC_si))
  · have hX : ∀ R, Xdesk_needItems σ 1 = R → Xdesk_arrangeStack σ 112 = (match R with | .inl e9 => .inl e9 | .inr _ => if Xsh_isFull σ 31 = 0 then (match Xsh_putTopOf σ 31 6 with | .inl e9 => .inl e9 | .inr u81 => .inr u81) else .inr σ) := by
      intro R hR
      unfold Xdesk_arrangeStack; rw [if_neg (by decide), if_neg (by decide), if_neg (by decide), if_neg (by decide), if_pos rfl, hR]
      cases R with
      | inl e => rfl
      | inr u => cases Xsh_putTopOf σ 31 6 <;> rfl
    have hM : ∀ q, F_have μ 1 = q → F_moves μ 112 = if q.1 = 0 then (0, q.2) else if 40 ≤ μ.1 14 then (1, μ) else (1, si (sa (sb μ 12 (μ.1 14).toNatClampNeg (μ.2.2.2 2 (μ.1 5 - 1).toNatClampNeg)) 13 (μ.1 14).toNatClampNeg (μ.2.2.1 3 (μ.1 5 - 1).toNatClampNeg)) 14 (μ.1 14 + 1)) := by
      intro q hq; subst hq
      unfold F_moves
      rw [if_neg (by decide), if_neg (by decide), if_neg (by decide), if_neg (by decide)]
      rfl
    obtain ⟨p1, p2, p3, -⟩ := h.2.2.1
    have x31 : (Int32.ofNat (xlen 31)).toInt = 40 := by decide
    have z40 : (40 : Int32).toInt = 40 := rfl
    by_cases hd : 1 ≤ (μ.1 5).toInt
    · obtain ⟨x1, m1⟩ := need_yes (n := 1) h (by rw [z1]; exact hd)
      rw [hX _ x1, hM _ m1, if_neg (show ¬ (1 : Int32) = 0 by decide)]
      obtain ⟨c0, c1⟩ := clamp_sub (d := μ.1 5) (k := 1) (by decide) (by rw [z1]; omega) (by omega)
      rw [z1] at c0 c1
      by_cases h40 : (μ.1 14).toInt < 40
      · have ty := topX (k := 0) h (by decide) (by rw [z0]; omega)
        rw [z0, Int.sub_zero] at ty
        have hF : Xsh_isFull σ 31 = 0 := by unfold Xsh_isFull; rw [p1, if_pos (by rw [Int32.lt_iff_toInt_lt, x31]; exact h40)]
        have hn : ¬ (40 : Int32) ≤ μ.1 14 := by rw [Int32.le_iff_toInt_le, z40]; omega
        have hP := ST_print (v := μ.2.2.2 2 ((μ.1 5).toInt - 1).toNat) (p := μ.2.2.1 3 ((μ.1 5).toInt - 1).toNat) (r := σ.2.2.2.1 9 ((μ.1 5).toInt - 1).toNat) (s := σ.2.1 10 ((μ.1 5).toInt - 1).toNat) h h40 rfl
        rw [if_neg hn, hF, if_pos rfl, c1]
        refine cres_ok ?_ rfl ⟨hP.2, shput_kx (by decide), ⟨⟨by simp [si, sa, sb, upd], by simp [si, sa, sb], by simp [si, sa, sb], by simp [si, sa, sb]⟩, by simp [si, sa, sb, upd], by simp [si, sa, sb], by simp [si, sa, sb, upd], by simp [si, sa, sb, upd]⟩, by rw [← h16]; simp [si, sa, sb, upd]⟩
        rw [putTop_eq (u := shput σ 31 (μ.1 14).toInt.toNat (μ.2.2.2 2 ((μ.1 5).toInt - 1).toNat) (μ.2.2.1 3 ((μ.1 5).toInt - 1).toNat) (σ.2.2.2.1 9 ((μ.1 5).toInt - 1).toNat) (σ.2.1 10 ((μ.1 5).toInt - 1).toNat)) (by rw [ty.1, ty.2.1, ty.2.2.1, ty.2.2.2]; exact hP.1)]
      · have hF : ¬ Xsh_isFull σ 31 = 0 := by unfold Xsh_isFull; rw [p1, if_neg (by rw [Int32.lt_iff_toInt_lt, x31]; exact h40)]; decide
        have hn : (40 : Int32) ≤ μ.1 14 := by rw [Int32.le_iff_toInt_le, z40]; omega
        rw [if_pos hn, if_neg hF]
        exact cres_ok rfl rfl ⟨h, kx.rf, km.rf, h16⟩
    · obtain ⟨x1, m1⟩ := need_no (n := 1) h (by rw [z1]; exact hd)
      exact cres_no (hX _ x1) ((hM _ m1).trans (if_pos rfl)) (bad_sfm hw h (by rw [xcd_2]; exact noC_si))
  · have hX : ∀ R, Xdesk_needItems σ 2 = R → Xdesk_arrangeStack σ 114 = (match R with | .inl e9 => .inl e9 | .inr _ => .inr (Xsh_swapTopTwo σ 6)) := by
      intro R hR
      unfold Xdesk_arrangeStack; rw [if_neg (by decide), if_neg (by decide), if_neg (by decide), if_neg (by decide), if_neg (by decide), if_pos rfl, hR]
      cases R <;> rfl
    have hM : ∀ q, F_have μ 2 = q → F_moves μ 114 = if q.1 = 0 then (0, q.2) else (1, F_copy (F_copy (F_copy μ (μ.1 5 - 1) 80) (μ.1 5 - 2) (μ.1 5 - 1)) 80 (μ.1 5 - 2)) := by
      intro q hq; subst hq
      unfold F_moves
      rw [if_neg (by decide), if_neg (by decide), if_neg (by decide), if_pos rfl]
    by_cases hd : 2 ≤ (μ.1 5).toInt
    · obtain ⟨x1, m1⟩ := need_yes (n := 2) h (by rw [z2]; exact hd)
      rw [hX _ x1, hM _ m1, if_neg (show ¬ (1 : Int32) = 0 by decide)]
      have hx6 : (σ.1 6).toInt ≤ xlen 6 := by rw [d1]; exact d3
      have ty := topX (k := 0) h (by decide) (by rw [z0]; omega)
      have hi := top_itm (k := 0) h (by decide) (by rw [z0]; omega)
      rw [z0, Int.sub_zero] at ty hi
      have tx := topX (k := 1) h (by decide) (by rw [z1]; omega)
      have hj := top_itm (k := 1) h (by decide) (by rw [z1]; omega)
      rw [z1, zsub] at tx hj
      obtain ⟨c0, c1⟩ := clamp_sub (d := μ.1 5) (k := 1) (by decide) (by rw [z1]; omega) (by omega)
      obtain ⟨b0, b1⟩ := clamp_sub (d := μ.1 5) (k := 2) (by decide) (by rw [z2]; omega) (by omega)
      rw [z1] at c0 c1; rw [z2] at b0 b1
      have z80 : (80 : Int32).toInt = 80 := rfl
      have su := sbt_in (σ := σ) (c := 6) (k := 0) (by rw [d1]; exact d2) (by rw [d1]; exact d3) (by decide) (by rw [d1, z0]; omega)
      have sl := sbt_in (σ := σ) (c := 6) (k := 1) (by rw [d1]; exact d2) (by rw [d1]; exact d3) (by decide) (by rw [d1, z1]; omega)
      rw [d1, z0, Int.sub_zero] at su
      rw [d1, z1, zsub] at sl
      -- copies
      obtain ⟨s1, s2⟩ := itm_src hi
      obtain ⟨t1, t2⟩ := itm_src hj
      obtain ⟨a1, a2, a3, a4, a5, a6, a7⟩ := copy_spec (μ := μ) (f := μ.1 5 - 1) (t := 80) (by omega) (by decide) (by rw [z80]; omega) (by rw [c0]; exact s1) (by rw [c0]; exact s2)
      rw [c0, z80] at a5 a6 a7
      generalize hA : F_copy μ (μ.1 5 - 1) 80 = μ1 at *
      have m1L := a4 ((μ.1 5).toInt - 2).toNat (by rw [z80]; omega)
      have hj1 := itm_keep (σ := σ) (τ := σ) rs.rf shq.rf m1L hj
      obtain ⟨t1', t2'⟩ := itm_src hj1
      obtain ⟨e1, e2, e3, e4, e5, e6, e7⟩ := copy_spec (μ := μ1) (f := μ.1 5 - 2) (t := μ.1 5 - 1) (by omega) (by omega) (by omega) (by rw [b0]; exact t1') (by rw [b0]; exact t2')
      rw [b0, c0] at e5 e6 e7
      rw [c0] at e4
      have hST1 := ST_msame h a1 (mrest_copy a1 a2 a3) (a3 7 (by decide) (by decide)) (fun k hk => a4 k (by rw [z80]; omega))
      generalize hB : F_copy μ1 (μ.1 5 - 2) (μ.1 5 - 1) = μ2 at *
      have hST2 := ST_set (N := ((μ.1 5).toInt - 1).toNat) (ν := μ2) hST1 (by omega) e1 (mrest_copy e1 e2 e3) (e3 7 (by decide) (by decide)) (fun k _ hk => e4 k hk) e5 e6 (itk_copy hj1 e7)
      have m80 := e4 80 (by omega)
      have v80 : μ2.2.2.2 2 80 = μ.2.2.2 2 ((μ.1 5).toInt - 1).toNat := m80.1.trans a5
      have p80 : μ2.2.2.1 3 80 = μ.2.2.1 3 ((μ.1 5).toInt - 1).toNat := m80.2.1.trans a6
      obtain ⟨f1, f2, f3, f4, f5, f6, f7⟩ := copy_spec (μ := μ2) (f := 80) (t := μ.1 5 - 2) (by decide) (by omega) (by rw [z80]; omega) (by rw [z80]; show μ2.2.2.1 3 80 = -1 → _; rw [p80]; show _ → 0 ≤ (μ2.2.2.2 2 80).toInt ∧ (μ2.2.2.2 2 80).toInt ≤ 160; rw [v80]; exact s1) (by rw [z80]; show μ2.2.2.1 3 80 = -1 ∨ (0 : Int32) ≤ μ2.2.2.1 3 80; rw [p80]; exact s2)
      rw [b0, z80] at f5 f6 f7
      rw [b0] at f4
      have v80' : μ2.2.2.2 2 (80 : Int).toNat = μ.2.2.2 2 ((μ.1 5).toInt - 1).toNat := v80
      have p80' : μ2.2.2.1 3 (80 : Int).toNat = μ.2.2.1 3 ((μ.1 5).toInt - 1).toNat := p80
      rw [v80'] at f5; rw [p80'] at f6
      generalize hC : F_copy μ2 80 (μ.1 5 - 2) = μ3 at *
      -- the class's state
      have hset1 := set_eq (σ := σ) (c := 6) (i := Xsh_slotBelowTop σ 6 0) (v := Xsh_valueAt σ 6 (Xsh_slotBelowTop σ 6 1)) (p := Xsh_placesAt σ 6 (Xsh_slotBelowTop σ 6 1)) (r := Xsh_rowAt σ 6 (Xsh_slotBelowTop σ 6 1)) (s := Xsh_startAt σ 6 (Xsh_slotBelowTop σ 6 1)) (by decide) (by omega) (by rw [d1]; omega) hx6
      rw [su] at hset1
      have hset2 := set_eq (σ := setslot σ 6 ((μ.1 5).toInt - 1).toNat (Xsh_valueAt σ 6 (Xsh_slotBelowTop σ 6 1)) (Xsh_placesAt σ 6 (Xsh_slotBelowTop σ 6 1)) (Xsh_rowAt σ 6 (Xsh_slotBelowTop σ 6 1)) (Xsh_startAt σ 6 (Xsh_slotBelowTop σ 6 1))) (c := 6) (i := Xsh_slotBelowTop σ 6 1) (v := Xsh_valueAt σ 6 (Xsh_slotBelowTop σ 6 0)) (p := Xsh_placesAt σ 6 (Xsh_slotBelowTop σ 6 0)) (r := Xsh_rowAt σ 6 (Xsh_slotBelowTop σ 6 0)) (s := Xsh_startAt σ 6 (Xsh_slotBelowTop σ 6 0)) (by decide) (by omega) (by show _ < (σ.1 6).toInt; rw [d1]; omega) hx6
      rw [sl] at hset2
      have hSW : Xsh_swapTopTwo σ 6 = setslot (setslot σ 6 ((μ.1 5).toInt - 1).toNat (Xsh_valueAt σ 6 (Xsh_slotBelowTop σ 6 1)) (Xsh_placesAt σ 6 (Xsh_slotBelowTop σ 6 1)) (Xsh_rowAt σ 6 (Xsh_slotBelowTop σ 6 1)) (Xsh_startAt σ 6 (Xsh_slotBelowTop σ 6 1))) 6 ((μ.1 5).toInt - 2).toNat (Xsh_valueAt σ 6 (Xsh_slotBelowTop σ 6 0)) (Xsh_placesAt σ 6 (Xsh_slotBelowTop σ 6 0)) (Xsh_rowAt σ 6 (Xsh_slotBelowTop σ 6 0)) (Xsh_startAt σ 6 (Xsh_slotBelowTop σ 6 0)) := by
        unfold Xsh_swapTopTwo
        simp only
        rw [hset1, hset2]
      rw [tx.1, tx.2.1, tx.2.2.1, tx.2.2.2, ty.1, ty.2.1, ty.2.2.1, ty.2.2.2] at hSW
      rw [← m1L.1, ← m1L.2.1] at hSW
      have hkx1 := setslot_kx (σ := σ) (c := 6) (N := ((μ.1 5).toInt - 1).toNat) (v := μ1.2.2.2 2 ((μ.1 5).toInt - 2).toNat) (p := μ1.2.2.1 3 ((μ.1 5).toInt - 2).toNat) (r := σ.2.2.2.1 9 ((μ.1 5).toInt - 2).toNat) (s := σ.2.1 10 ((μ.1 5).toInt - 2).toNat) (by decide)
      have hit : itk σ (σ.2.2.2.1 (6 + 3) ((μ.1 5).toInt - 1).toNat) (σ.2.1 (6 + 4) ((μ.1 5).toInt - 1).toNat) (μ.2.2.2 2 ((μ.1 5).toInt - 1).toNat) (μ.2.2.1 3 ((μ.1 5).toInt - 1).toNat) (fun j => μ3.2.2.1 4 (160 * ((μ.1 5).toInt - 2).toNat + j)) := itk_copy hi (fun hp9 j hj9 => by
        rw [f7 (by rw [p80']; exact hp9) j (by rw [v80']; exact hj9)]
        show μ2.2.2.1 4 (160 * 80 + j) = _
        rw [m80.2.2 j (by have := s1 hp9; omega)]
        exact a7 hp9 j hj9)
      have hST3 := ST_set (N := ((μ.1 5).toInt - 2).toNat) (ν := μ3) hST2 (by omega) f1 (mrest_copy f1 f2 f3) (f3 7 (by decide) (by decide)) (fun k _ hk => f4 k hk) f5 f6 (itk_rs hkx1.1 (fun _ _ => rfl) hit)
      refine cres_ok ?_ rfl ⟨hST3, hkx1.tr (setslot_kx (by decide)), ((km_copy a1 a3).tr (km_copy e1 e3)).tr (km_copy f1 f3), by rw [f1, e1, a1]; exact h16⟩
      rw [hSW]
    · obtain ⟨x1, m1⟩ := need_no (n := 2) h (by rw [z2]; exact hd)
      exact cres_no (hX _ x1) ((hM _ m1).trans (if_pos rfl)) (bad_sfm hw h (by rw [xcd_2]; exact noC_si))
  · refine nb (μ.1 5).toInt64 fit_i32 122 ?_ ?_
    · unfold Xdesk_arrangeStack; rw [if_neg (by decide), if_neg (by decide), if_neg (by decide), if_neg (by decide), if_neg (by decide), if_neg (by decide), if_pos rfl, d1]; cases Xsh_putNumber σ 6 (μ.1 5).toInt64 0 <;> rfl
    · unfold F_moves; rw [if_neg (by decide), if_pos rfl]
