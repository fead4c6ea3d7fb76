set_option maxHeartbeats 4000000 in
set_option maxRecDepth 100000 in
theorem law_loop {p : Program} {l : Launch} {e : Env} {s : State} {m : MethodId} {below : List Frame} {meth : Method} {c : Code} {b L : Nat} {xs : Nat → Int32} {dC : Nat → ClassId} {dI : Nat → Nat → Nat} {kc : Nat → ClassId} {cI cJ cO : ClassId} (C : lC p l s m meth c b L xs dC dI kc cI cJ cO) {h qo : Nat} {am : Nat → Nat} : ∀ (fu j : Nat) (i : Int32) (ad : Nat → Nat) (σ : XS) (μ : MS) (f : Nat → Int64), i.toInt = 3 * (j : Int) → (L : Int) < 3 * (j : Int) + 3 * (fu : Int) + 3 → j ≤ 512 → PS σ μ → RI μ → ∀ (H : Heap) (locs : List Loc), LG dC dI (xW kc ad σ) (mW h am cI cJ μ) (oW qo cO f) (fun q : Nat => s.heap.size ≤ q) s.heap H locs → ∀ ls : Array Slot, lv_has ls 7 [(0, .ref b), (1, .ref (ad 0)), (2, .ref h), (3, .ref qo), (4, .int i)] → W p l e room_1 s m #[Value.ref b] below meth c H locs (50 + 2 * j) (16217 + 162 * j) (lw_Z below #[Value.ref b] s) (F0 m 23 ls []) := by
  obtain ⟨hx, hb, hr, hml, hown, hts, hX, hbl, hlocks, hKx, hKm, hKo, hz, hC, hl9, hL⟩ := id C
  have hbA : ¬ (fun q : Nat => s.heap.size ≤ q) b := Nat.not_le.mpr hbl
  have z3 : (3 : Int32).toInt = 3 := rfl
  have eLn : (Int32.ofNat L).toInt = (L : Int) := by rw [Int32.toInt_ofNat']; exact i_bm (by omega) (by omega)
  have eL : (Int32.ofNat L - 3).toInt = (L : Int) - 3 := i_subE eLn z3 (by omega) (by omega)
  intro fu
  induction fu with
  | zero =>
    intro j i ad σ μ f hi hm hj5 hP hR H locs G ls hl
    refine lv_iload hx hb dL_law_23 (lv_at hl 4 rfl) ?_
    refine lv_aload_n hx hb dL_law_25 rfl (lv_at hl 0 rfl) ?_
    refine va_slen hx hb hX hbl hbA G.2.2.2 dL_law_26 ?_
    refine lv_iconst (v := 3) hx hb dL_law_27 (by decide) ?_
    refine lv_isub hx hb dL_law_28 ?_
    refine lv_icmp_gt (tgt := 426) hx hb dL_law_29 (by decide) (fun cg => ?_) (fun cg => ?_)
    · refine lv_iconst (v := 1) hx hb dL_law_426 (by decide) ?_
      refine va_forget (fun q hq => G.2.2.2.2.2 q hq) ?_
      refine W.widen (k := 601024) (n := 7293033) (by omega) (by omega) ?_
      exact lw_ret hx hb hr hlocks dL_law_427
    · rw [Int32.lt_iff_toInt_lt, eL, hi] at cg
      omega
  | succ fu ih =>
    intro j i ad σ μ f hi hm hj5 hP hR H locs G ls hl
    refine lv_iload hx hb dL_law_23 (lv_at hl 4 rfl) ?_
    refine lv_aload_n hx hb dL_law_25 rfl (lv_at hl 0 rfl) ?_
    refine va_slen hx hb hX hbl hbA G.2.2.2 dL_law_26 ?_
    refine lv_iconst (v := 3) hx hb dL_law_27 (by decide) ?_
    refine lv_isub hx hb dL_law_28 ?_
    refine lv_icmp_gt (tgt := 426) hx hb dL_law_29 (by decide) (fun cg => ?_) (fun cg => ?_)
    · refine lv_iconst (v := 1) hx hb dL_law_426 (by decide) ?_
      refine va_forget (fun q hq => G.2.2.2.2.2 q hq) ?_
      refine W.widen (k := 601024) (n := 7293033) (by omega) (by omega) ?_
      exact lw_ret hx hb hr hlocks dL_law_427
    · rw [Int32.lt_iff_toInt_lt, eL, hi] at cg
      have hj : 3 * (j : Int) + 3 ≤ L := by omega
      have ei : (i + 3).toInt = 3 * ((j + 1 : Nat) : Int) := by rw [i_addE hi z3 (by omega) (by omega)]; omega
      have kk : nxt p l e s m below meth c b dC dI kc cI cJ cO h qo am ad i j := by
        intro ad' σ' μ' f' H' locs' ls' e0 hP' hR' G' hl'
        refine lv_iinc (v := i + 3) (lv' := [(4, .int (i + 3)), (0, .ref b), (1, .ref (ad 0)), (2, .ref h), (3, .ref qo)]) hx hb dL_law_420 hl' (k := 4) rfl rfl (by decide) rfl (fun ls hl => ?_)
        refine lv_goto (tgt := 23) hx hb dL_law_423 (by decide) ?_
        have r := ih (j + 1) (i + 3) ad' σ' μ' f' ei (by omega) (by omega) hP' hR' H' locs' G' ls (by rw [e0]; exact lv_sub hl [1, 2, 3, 4, 0] rfl)
        rw [show 50 + 2 * (j + 1) = 50 + 2 * j + 2 by omega, show 16217 + 162 * (j + 1) = 16217 + 162 * j + 162 by omega] at r
        exact r
      clear ih
      refine lv_aload_n hx hb dL_law_32 rfl (lv_at hl 0 rfl) ?_
      refine lv_iload hx hb dL_law_33 (lv_at hl 4 rfl) ?_
      refine va_sld hx hb hX hbl hbA G.2.2.2 (vin hi (by omega) (by omega)) dL_law_35 ?_
      refine lv_bipush (v := 15) hx hb dL_law_36 (by decide) ?_
      refine lv_iand hx hb dL_law_38 ?_
      have hv0 : 0 ≤ (xs i.toNatClampNeg &&& 15).toInt := by rw [and_nat (n := 4) (by decide) (c := 15) (by decide)]; omega
      by_cases v0 : (xs i.toNatClampNeg &&& 15).toInt = 0
      · exact lv_tableIn (off := 65) (tgt := 104) hx hb dL_law_39 (by rw [v0]; decide) (by rw [v0]; decide) (by rw [v0]; rfl) (by decide) (lw_write C hi hj hP hR G hl kk)
      by_cases v1 : (xs i.toNatClampNeg &&& 15).toInt = 1
      · exact lv_tableIn (off := 122) (tgt := 161) hx hb dL_law_39 (by rw [v1]; decide) (by rw [v1]; decide) (by rw [v1]; rfl) (by decide) (lw_erase C hi hj hP hR G hl kk)
      by_cases v2 : (xs i.toNatClampNeg &&& 15).toInt = 2
      · exact lv_tableIn (off := 135) (tgt := 174) hx hb dL_law_39 (by rw [v2]; decide) (by rw [v2]; decide) (by rw [v2]; rfl) (by decide) (lw_run C hi hj hP hR G hl kk)
      by_cases v3 : (xs i.toNatClampNeg &&& 15).toInt = 3
      · exact lv_tableIn (off := 191) (tgt := 230) hx hb dL_law_39 (by rw [v3]; decide) (by rw [v3]; decide) (by rw [v3]; rfl) (by decide) (lw_cost C hi hj hP hR G hl kk)
      by_cases v4 : (xs i.toNatClampNeg &&& 15).toInt = 4
      · exact lv_tableIn (off := 204) (tgt := 243) hx hb dL_law_39 (by rw [v4]; decide) (by rw [v4]; decide) (by rw [v4]; rfl) (by decide) (lw_prints C hi hj hP hR G hl kk)
      by_cases v5 : (xs i.toNatClampNeg &&& 15).toInt = 5
      · exact lv_tableIn (off := 217) (tgt := 256) hx hb dL_law_39 (by rw [v5]; decide) (by rw [v5]; decide) (by rw [v5]; rfl) (by decide) (lw_printed C hi hj hP hR G hl kk)
      by_cases v6 : (xs i.toNatClampNeg &&& 15).toInt = 6
      · exact lv_tableIn (off := 243) (tgt := 282) hx hb dL_law_39 (by rw [v6]; decide) (by rw [v6]; decide) (by rw [v6]; rfl) (by decide) (lw_places C hi hj hP hR G hl kk)
      by_cases v7 : (xs i.toNatClampNeg &&& 15).toInt = 7
      · exact lv_tableIn (off := 268) (tgt := 307) hx hb dL_law_39 (by rw [v7]; decide) (by rw [v7]; decide) (by rw [v7]; rfl) (by decide) (lw_depth C hi hj hP hR G hl kk)
      by_cases v8 : (xs i.toNatClampNeg &&& 15).toInt = 8
      · exact lv_tableIn (off := 281) (tgt := 320) hx hb dL_law_39 (by rw [v8]; decide) (by rw [v8]; decide) (by rw [v8]; rfl) (by decide) (lw_item C hi hj hP hR G hl kk)
      by_cases v9 : (xs i.toNatClampNeg &&& 15).toInt = 9
      · exact lv_tableIn (off := 307) (tgt := 346) hx hb dL_law_39 (by rw [v9]; decide) (by rw [v9]; decide) (by rw [v9]; rfl) (by decide) (lw_scale C hi hj hP hR G hl kk)
      by_cases v10 : (xs i.toNatClampNeg &&& 15).toInt = 10
      · exact lv_tableIn (off := 332) (tgt := 371) hx hb dL_law_39 (by rw [v10]; decide) (by rw [v10]; decide) (by rw [v10]; rfl) (by decide) (lw_held C hi hj hP hR G hl kk)
      by_cases v11 : (xs i.toNatClampNeg &&& 15).toInt = 11
      · exact lv_tableIn (off := 357) (tgt := 396) hx hb dL_law_39 (by rw [v11]; decide) (by rw [v11]; decide) (by rw [v11]; rfl) (by decide) (lw_precision C hi hj hP hR G hl kk)
      by_cases v12 : (xs i.toNatClampNeg &&& 15).toInt = 12
      · exact lv_tableIn (off := 370) (tgt := 409) hx hb dL_law_39 (by rw [v12]; decide) (by rw [v12]; decide) (by rw [v12]; rfl) (by decide) (lw_reset C hi hj hP hR G hl kk)
      refine lv_tableOut (tgt := 420) hx hb dL_law_39 (Or.inr (by omega)) (by decide) ?_
      refine W.widen (k := 50 + 2 * j + 2) (n := 16217 + 162 * j + 162) (by omega) (by omega) ?_
      exact kk ad σ μ f H locs ls rfl hP hR G hl
