/-! the law's world: the class's cells, the reference's, the array -/
def LG (dC : Nat → ClassId) (dI : Nat → Nat → Nat) (wx wm wo : va_W) (A : Nat → Prop) (H0 H : Heap) (locs : List Loc) : Prop := (va_P (dC, dI) vwCl wx H ∧ va_P (dC, dI) vwCl wm H ∧ va_P (dC, dI) vwCl wo H) ∧ (va_D A wx ∧ va_D A wm ∧ va_D A wo) ∧ (ap wx wm ∧ ap wx wo ∧ ap wm wo) ∧ va_S A H0 H locs
theorem LG_x {dC : Nat → ClassId} {dI : Nat → Nat → Nat} {wx wx' wm wo : va_W} {A : Nat → Prop} {H0 H H1 : Heap} {locs locs1 : List Loc} (G : LG dC dI wx wm wo A H0 H locs) (hA : ∀ q, H0.size ≤ q → A q) (hk : ∀ q : Nat, q < H.size → ¬ va_A wx H.size q → H1[q]? = H[q]?) (hP1 : va_P (dC, dI) vwCl wx' H1) (hD1 : va_D (va_A wx H.size) wx') (hS : va_S A H0 H1 locs1) : LG dC dI wx' wm wo A H0 H1 locs1 := by
  obtain ⟨⟨hPx, hPm, hPo⟩, ⟨hDx, hDm, hDo⟩, ⟨axm, axo, amo⟩, hS0⟩ := G
  exact ⟨⟨hP1, P_call axm hPm hk, P_call axo hPo hk⟩, ⟨hD1.weaken (fun _ q _ h => dF_of hDx hS0 hA q.1 h), hDm, hDo⟩, ⟨ap_call axm hPm hD1, ap_call axo hPo hD1, amo⟩, hS⟩
theorem LG_m {dC : Nat → ClassId} {dI : Nat → Nat → Nat} {wx wm wm' wo : va_W} {A : Nat → Prop} {H0 H H1 : Heap} {locs locs1 : List Loc} (G : LG dC dI wx wm wo A H0 H locs) (hA : ∀ q, H0.size ≤ q → A q) (hk : ∀ q : Nat, q < H.size → ¬ va_A wm H.size q → H1[q]? = H[q]?) (hP1 : va_P (dC, dI) vwCl wm' H1) (hD1 : va_D (va_A wm H.size) wm') (hS : va_S A H0 H1 locs1) : LG dC dI wx wm' wo A H0 H1 locs1 := by
  obtain ⟨⟨hPx, hPm, hPo⟩, ⟨hDx, hDm, hDo⟩, ⟨axm, axo, amo⟩, hS0⟩ := G
  exact ⟨⟨P_call axm.sym hPx hk, hP1, P_call amo hPo hk⟩, ⟨hDx, hD1.weaken (fun _ q _ h => dF_of hDm hS0 hA q.1 h), hDo⟩, ⟨(ap_call axm.sym hPx hD1).sym, axo, ap_call amo hPo hD1⟩, hS⟩
section LK
variable {p : Program} {l : Launch} {e : Env} {R : Room} {s : State} {m : MethodId} {args : Array Value} {below : List Frame} {meth : Method} {c : Code} {H : Heap} {locs : List Loc} {cells slots : Nat} {Q : State → Prop} {cc : ByteArray} {pc : Nat} {ls : Array Slot} {rest st0 : List Value}
variable {dC : Nat → ClassId} {dI : Nat → Nat → Nat} {kc : Nat → ClassId} {ad am : Nat → Nat} {σ : XS} {μ : MS} {h : Nat} {cI cJ : ClassId} {wx wm wo : va_W} {A : Nat → Prop} {Ts : List Cond} {own : String}
variable {y : MethodName} {bytes : ByteArray} {maxL nL n index : Nat} {ret : Option FieldType} {ws : List Cond} {rm : Room} {As : List Value}
theorem xpre (hK : va_K (dC, dI) vwCl (xT kc) s) (hz : zX A s) (hA : ∀ q : Nat, s.heap.size ≤ q → A q) (G : LG dC dI (xW kc ad σ) wm wo A s.heap H locs) : PreV s H RX4 (ad 0) (va_Pc (.ref (ad 0) :: As) (xPre dC dI kc ad H.size σ)) As := by
  obtain ⟨⟨hPx, hPm, hPo⟩, ⟨hDx, hDm, hDo⟩, ⟨axm, axo, amo⟩, hS⟩ := G
  exact ⟨fun a U g mk q => by obtain ⟨q0, q1, qP, qK, qD, qz⟩ := q; exact ⟨q0, q1, qP, va_K.moved (u := U) (U := U.calling g mk a) (Vm.Alike.refl U.vm) qK, qD, qz.blind⟩, va_recv hK hPx (ci := 3) (q0 := 0) rfl xW_desk, fun U hU hW => ⟨rfl, by rw [hU], by rw [hU]; exact hPx, va_K.moved hW.alike hK, hDx.weaken (fun _ _ _ _ => trivial), zX.at hz hS hU hW (dF_of hDx hS hA)⟩⟩
theorem mpre (hK : va_K (dC, dI) vwCl [(cI, .int), (cJ, .long)] s) (G : LG dC dI wx (mW h am cI cJ μ) wo A s.heap H locs) : PreV s H RX5 h (va_Pc (.ref h :: As) (mPre dC dI cI cJ h am H.size μ)) As := by
  obtain ⟨⟨hPx, hPm, hPo⟩, ⟨hDx, hDm, hDo⟩, ⟨axm, axo, amo⟩, hS⟩ := G
  exact ⟨fun a U g mk q => by obtain ⟨q0, q1, qP, qK, qD⟩ := q; exact ⟨q0, q1, qP, va_K.moved (u := U) (U := U.calling g mk a) (Vm.Alike.refl U.vm) qK, qD⟩, va_recv hK hPm (ci := 4) (q0 := 0) rfl rfl, fun U hU hW => ⟨rfl, by rw [hU], by rw [hU]; exact hPm, va_K.moved hW.alike hK, hDm.weaken (fun _ _ _ _ => trivial)⟩⟩
theorem l_xi {post : Int32 → XS → Prop} (S : CallFix p m c cc nL s args Ts own) (hK : va_K (dC, dI) vwCl (xT kc) s) (hz : zX A s) (hA : ∀ q : Nat, s.heap.size ≤ q → A q) (G : LG dC dI (xW kc ad σ) wm wo A s.heap H locs)
    (hM : Met l y ws rm (va_Pc (.ref (ad 0) :: As) (xPre dC dI kc ad H.size σ)) (va_Qi post (xAt dC dI kc ad (xA kc ad σ H.size)) (xA kc ad σ H.size)) 0 0 (xA kc ad σ H.size)) (cw : CallW R s args own RX4 index y bytes maxL ret ws rm 0 0 n) (hn : As.length = n) (hsize : ls.size = nL) (hst : st0 = As.reverse ++ .ref (ad 0) :: rest) (hW : (rest.map fun v => v.category).sum ≤ 8) (hdg : decode cc pc = .ok (.invokevirtual index, 3)) (hf : cells ≤ R.cells ∧ slots ≤ R.slots)
    (kk : ∀ (r : Int32) (u : XS) (H1 : Heap) (locs1 : List Loc), post r u → LG dC dI (xW kc ad u) wm wo A s.heap H1 locs1 → W p l e R s m args below meth c H1 locs1 cells slots Q (F0 m (pc + 3) ls (.int r :: rest))) : W p l e R s m args below meth c H locs cells slots Q (F0 m pc ls st0) := by
  have hFc := dF_of G.2.1.1 G.2.2.2 hA
  refine va_calli (va_runV (As := As) (rest := rest) S hM cw (xpre hK hz hA G) rfl hn hsize hst (lv_room hW) hdg hf) G.2.2.2 (fun q _ h => hFc q h) hFc (fun r u t H1 locs ht hvm hw hB hz1 hk1 hS => ?_)
  obtain ⟨hP1, hK1, hD1⟩ := hB
  rw [ht] at hP1
  exact kk r u H1 locs hw (LG_x G hA hk1 hP1 hD1 hS)
theorem l_xl {post : Int64 → XS → Prop} (S : CallFix p m c cc nL s args Ts own) (hK : va_K (dC, dI) vwCl (xT kc) s) (hz : zX A s) (hA : ∀ q : Nat, s.heap.size ≤ q → A q) (G : LG dC dI (xW kc ad σ) wm wo A s.heap H locs)
    (hM : Met l y ws rm (va_Pc (.ref (ad 0) :: As) (xPre dC dI kc ad H.size σ)) (va_Ql post (xAt dC dI kc ad (xA kc ad σ H.size)) (xA kc ad σ H.size)) 0 0 (xA kc ad σ H.size)) (cw : CallW R s args own RX4 index y bytes maxL ret ws rm 0 0 n) (hn : As.length = n) (hsize : ls.size = nL) (hst : st0 = As.reverse ++ .ref (ad 0) :: rest) (hW : (rest.map fun v => v.category).sum ≤ 8) (hdg : decode cc pc = .ok (.invokevirtual index, 3)) (hf : cells ≤ R.cells ∧ slots ≤ R.slots)
    (kk : ∀ (r : Int64) (u : XS) (H1 : Heap) (locs1 : List Loc), post r u → LG dC dI (xW kc ad u) wm wo A s.heap H1 locs1 → W p l e R s m args below meth c H1 locs1 cells slots Q (F0 m (pc + 3) ls (.long r :: rest))) : W p l e R s m args below meth c H locs cells slots Q (F0 m pc ls st0) := by
  have hFc := dF_of G.2.1.1 G.2.2.2 hA
  refine va_calll (va_runV (As := As) (rest := rest) S hM cw (xpre hK hz hA G) rfl hn hsize hst (lv_room hW) hdg hf) G.2.2.2 (fun q _ h => hFc q h) hFc (fun r u t H1 locs ht hvm hw hB hz1 hk1 hS => ?_)
  obtain ⟨hP1, hK1, hD1⟩ := hB
  rw [ht] at hP1
  exact kk r u H1 locs hw (LG_x G hA hk1 hP1 hD1 hS)
theorem l_xv {post : XS → Prop} (S : CallFix p m c cc nL s args Ts own) (hK : va_K (dC, dI) vwCl (xT kc) s) (hz : zX A s) (hA : ∀ q : Nat, s.heap.size ≤ q → A q) (G : LG dC dI (xW kc ad σ) wm wo A s.heap H locs)
    (hM : Met l y ws rm (va_Pc (.ref (ad 0) :: As) (xPre dC dI kc ad H.size σ)) (va_Qv post (xAt dC dI kc ad (xA kc ad σ H.size)) (xA kc ad σ H.size)) 0 0 (xA kc ad σ H.size)) (cw : CallW R s args own RX4 index y bytes maxL ret ws rm 0 0 n) (hn : As.length = n) (hsize : ls.size = nL) (hst : st0 = As.reverse ++ .ref (ad 0) :: rest) (hW : (rest.map fun v => v.category).sum ≤ 8) (hdg : decode cc pc = .ok (.invokevirtual index, 3)) (hf : cells ≤ R.cells ∧ slots ≤ R.slots)
    (kk : ∀ (u : XS) (H1 : Heap) (locs1 : List Loc), post u → LG dC dI (xW kc ad u) wm wo A s.heap H1 locs1 → W p l e R s m args below meth c H1 locs1 cells slots Q (F0 m (pc + 3) ls rest)) : W p l e R s m args below meth c H locs cells slots Q (F0 m pc ls st0) := by
  have hFc := dF_of G.2.1.1 G.2.2.2 hA
  refine va_callv (va_runV (As := As) (rest := rest) S hM cw (xpre hK hz hA G) rfl hn hsize hst (lv_room hW) hdg hf) G.2.2.2 (fun q _ h => hFc q h) hFc (fun u t H1 locs ht hvm hw hB hz1 hk1 hS => ?_)
  obtain ⟨hP1, hK1, hD1⟩ := hB
  rw [ht] at hP1
  exact kk u H1 locs hw (LG_x G hA hk1 hP1 hD1 hS)
/-- erase, where it makes a row -/
theorem l_xe {post : Int32 → XS × (Nat → Nat) → Prop} (S : CallFix p m c cc nL s args Ts own) (hK : va_K (dC, dI) vwCl (xT kc) s) (hz : zX A s) (hA : ∀ q : Nat, s.heap.size ≤ q → A q) (G : LG dC dI (xW kc ad σ) wm wo A s.heap H locs)
    (hM : Met l y ws rm (va_Pc (.ref (ad 0) :: As) (xPre dC dI kc ad H.size σ)) (va_Qi post (fun u t => xAt dC dI kc u.2 (xA kc ad σ H.size) u.1 t) (xA kc ad σ H.size)) 2 162 (xA kc ad σ H.size)) (cw : CallW R s args own RX4 index y bytes maxL ret ws rm 2 162 n) (hn : As.length = n) (hsize : ls.size = nL) (hst : st0 = As.reverse ++ .ref (ad 0) :: rest) (hW : (rest.map fun v => v.category).sum ≤ 8) (hdg : decode cc pc = .ok (.invokevirtual index, 3)) (hf : cells + 2 ≤ R.cells ∧ slots + 162 ≤ R.slots)
    (kk : ∀ (r : Int32) (u : XS × (Nat → Nat)) (H1 : Heap) (locs1 : List Loc), post r u → LG dC dI (xW kc u.2 u.1) wm wo A s.heap H1 locs1 → W p l e R s m args below meth c H1 locs1 (cells + 2) (slots + 162) Q (F0 m (pc + 3) ls (.int r :: rest))) : W p l e R s m args below meth c H locs cells slots Q (F0 m pc ls st0) := by
  have hFc := dF_of G.2.1.1 G.2.2.2 hA
  refine va_calli (va_runV (As := As) (rest := rest) S hM cw (xpre hK hz hA G) rfl hn hsize hst (lv_room hW) hdg hf) G.2.2.2 (fun q _ h => hFc q h) hFc (fun r u t H1 locs ht hvm hw hB hz1 hk1 hS => ?_)
  obtain ⟨hP1, hK1, hD1⟩ := hB
  rw [ht] at hP1
  exact kk r u H1 locs hw (LG_x G hA hk1 hP1 hD1 hS)
theorem l_mi {post : Int32 → MS → Prop} (S : CallFix p m c cc nL s args Ts own) (hK : va_K (dC, dI) vwCl [(cI, .int), (cJ, .long)] s) (hA : ∀ q : Nat, s.heap.size ≤ q → A q) (G : LG dC dI wx (mW h am cI cJ μ) wo A s.heap H locs)
    (hM : Met l y ws rm (va_Pc (.ref h :: As) (mPre dC dI cI cJ h am H.size μ)) (va_Qi post (mAt dC dI cI cJ h am (mA h am cI cJ μ H.size)) (mA h am cI cJ μ H.size)) 0 0 (mA h am cI cJ μ H.size)) (cw : CallW R s args own RX5 index y bytes maxL ret ws rm 0 0 n) (hn : As.length = n) (hsize : ls.size = nL) (hst : st0 = As.reverse ++ .ref h :: rest) (hW : (rest.map fun v => v.category).sum ≤ 8) (hdg : decode cc pc = .ok (.invokevirtual index, 3)) (hf : cells ≤ R.cells ∧ slots ≤ R.slots)
    (kk : ∀ (r : Int32) (u : MS) (H1 : Heap) (locs1 : List Loc), post r u → LG dC dI wx (mW h am cI cJ u) wo A s.heap H1 locs1 → W p l e R s m args below meth c H1 locs1 cells slots Q (F0 m (pc + 3) ls (.int r :: rest))) : W p l e R s m args below meth c H locs cells slots Q (F0 m pc ls st0) := by
  have hFc := dF_of G.2.1.2.1 G.2.2.2 hA
  refine va_calli (va_runV (As := As) (rest := rest) S hM cw (mpre hK G) rfl hn hsize hst (lv_room hW) hdg hf) G.2.2.2 (fun q _ h => hFc q h) hFc (fun r u t H1 locs ht hvm hw hB hz1 hk1 hS => ?_)
  obtain ⟨hP1, hK1, hD1⟩ := hB
  rw [ht] at hP1
  exact kk r u H1 locs hw (LG_m G hA hk1 hP1 hD1 hS)
theorem l_ml {post : Int64 → MS → Prop} (S : CallFix p m c cc nL s args Ts own) (hK : va_K (dC, dI) vwCl [(cI, .int), (cJ, .long)] s) (hA : ∀ q : Nat, s.heap.size ≤ q → A q) (G : LG dC dI wx (mW h am cI cJ μ) wo A s.heap H locs)
    (hM : Met l y ws rm (va_Pc (.ref h :: As) (mPre dC dI cI cJ h am H.size μ)) (va_Ql post (mAt dC dI cI cJ h am (mA h am cI cJ μ H.size)) (mA h am cI cJ μ H.size)) 0 0 (mA h am cI cJ μ H.size)) (cw : CallW R s args own RX5 index y bytes maxL ret ws rm 0 0 n) (hn : As.length = n) (hsize : ls.size = nL) (hst : st0 = As.reverse ++ .ref h :: rest) (hW : (rest.map fun v => v.category).sum ≤ 8) (hdg : decode cc pc = .ok (.invokevirtual index, 3)) (hf : cells ≤ R.cells ∧ slots ≤ R.slots)
    (kk : ∀ (r : Int64) (u : MS) (H1 : Heap) (locs1 : List Loc), post r u → LG dC dI wx (mW h am cI cJ u) wo A s.heap H1 locs1 → W p l e R s m args below meth c H1 locs1 cells slots Q (F0 m (pc + 3) ls (.long r :: rest))) : W p l e R s m args below meth c H locs cells slots Q (F0 m pc ls st0) := by
  have hFc := dF_of G.2.1.2.1 G.2.2.2 hA
  refine va_calll (va_runV (As := As) (rest := rest) S hM cw (mpre hK G) rfl hn hsize hst (lv_room hW) hdg hf) G.2.2.2 (fun q _ h => hFc q h) hFc (fun r u t H1 locs ht hvm hw hB hz1 hk1 hS => ?_)
  obtain ⟨hP1, hK1, hD1⟩ := hB
  rw [ht] at hP1
  exact kk r u H1 locs hw (LG_m G hA hk1 hP1 hD1 hS)
theorem l_mv {post : MS → Prop} (S : CallFix p m c cc nL s args Ts own) (hK : va_K (dC, dI) vwCl [(cI, .int), (cJ, .long)] s) (hA : ∀ q : Nat, s.heap.size ≤ q → A q) (G : LG dC dI wx (mW h am cI cJ μ) wo A s.heap H locs)
    (hM : Met l y ws rm (va_Pc (.ref h :: As) (mPre dC dI cI cJ h am H.size μ)) (va_Qv post (mAt dC dI cI cJ h am (mA h am cI cJ μ H.size)) (mA h am cI cJ μ H.size)) 0 0 (mA h am cI cJ μ H.size)) (cw : CallW R s args own RX5 index y bytes maxL ret ws rm 0 0 n) (hn : As.length = n) (hsize : ls.size = nL) (hst : st0 = As.reverse ++ .ref h :: rest) (hW : (rest.map fun v => v.category).sum ≤ 8) (hdg : decode cc pc = .ok (.invokevirtual index, 3)) (hf : cells ≤ R.cells ∧ slots ≤ R.slots)
    (kk : ∀ (u : MS) (H1 : Heap) (locs1 : List Loc), post u → LG dC dI wx (mW h am cI cJ u) wo A s.heap H1 locs1 → W p l e R s m args below meth c H1 locs1 cells slots Q (F0 m (pc + 3) ls rest)) : W p l e R s m args below meth c H locs cells slots Q (F0 m pc ls st0) := by
  have hFc := dF_of G.2.1.2.1 G.2.2.2 hA
  refine va_callv (va_runV (As := As) (rest := rest) S hM cw (mpre hK G) rfl hn hsize hst (lv_room hW) hdg hf) G.2.2.2 (fun q _ h => hFc q h) hFc (fun u t H1 locs ht hvm hw hB hz1 hk1 hS => ?_)
  obtain ⟨hP1, hK1, hD1⟩ := hB
  rw [ht] at hP1
  exact kk u H1 locs hw (LG_m G hA hk1 hP1 hD1 hS)
/-- the law's own run -/
theorem l_run {cO : ClassId} {qo : Nat} {f : Nat → Int64} {n0 : Int32} {hh : List (Nat × Nat × Nat × Nat)} (S : CallFix p m c cc nL s args Ts own) (hKx : va_K (dC, dI) vwCl (xT kc) s) (hKo : va_K (dC, dI) vwCl [(cO, .long)] s) (hz : zX A s) (hC : zC s) (hA : ∀ q : Nat, s.heap.size ≤ q → A q) (G : LG dC dI (xW kc ad σ) wm (oW qo cO f) A s.heap H locs)
    (hM : Met l y ws rm (va_Pc [.ref (ad 0), .int n0, .ref qo] (lrP dC dI kc ad cO qo H.size σ f)) (va_Qi (lrQ σ n0 f) (lrB dC dI kc ad cO qo (va_A (xW kc ad σ ++ oW qo cO f) H.size)) (va_A (xW kc ad σ ++ oW qo cO f) H.size)) 1 6 (va_A (xW kc ad σ ++ oW qo cO f) H.size)) (cw : vx_CSW R s args own index y bytes maxL ret hh ws rm 1 6 3) (hsize : ls.size = nL) (hst : st0 = .ref qo :: .int n0 :: .ref (ad 0) :: rest) (hW : (rest.map fun v => v.category).sum ≤ 8) (hdg : decode cc pc = .ok (.invokestatic index, 3)) (hf : cells + 1 ≤ R.cells ∧ slots + 6 ≤ R.slots)
    (kk : ∀ (r : Int32) (u : XS × (Nat → Int64)) (H1 : Heap) (locs1 : List Loc), lrQ σ n0 f r u → LG dC dI (xW kc ad u.1) wm (oW qo cO u.2) A s.heap H1 locs1 → W p l e R s m args below meth c H1 locs1 (cells + 1) (slots + 6) Q (F0 m (pc + 3) ls (.int r :: rest))) : W p l e R s m args below meth c H locs cells slots Q (F0 m pc ls st0) := by
  obtain ⟨⟨hPx, hPm, hPo⟩, ⟨hDx, hDm, hDo⟩, ⟨axm, axo, amo⟩, hS⟩ := G
  have hD := dJ hDx hDo axo
  have hFc := dF_of hD hS hA
  have axom : ap (xW kc ad σ ++ oW qo cO f) wm := fun i j a b ha hb e9 => by
    by_cases hi : i < (xW kc ad σ).length
    · rw [List.getElem?_append_left hi] at ha; exact axm i j a b ha hb e9
    · rw [List.getElem?_append_right (by omega)] at ha; exact amo.sym _ j a b ha hb e9
  refine va_calli (vx_runSW (hh := hh) (As := [.ref (ad 0), .int n0, .ref qo]) (rest := rest) S hM cw ⟨fun a U g mk q => by obtain ⟨q0, q1, q2, q3, q4, q5, q6, q7, q8⟩ := q; exact ⟨q0, q1, q2, q3, va_K.moved (u := U) (U := U.calling g mk a) (Vm.Alike.refl U.vm) q4, va_K.moved (u := U) (U := U.calling g mk a) (Vm.Alike.refl U.vm) q5, q6, q7.blind, q8.moved (u := U) (U := U.calling g mk a) (Vm.Alike.refl U.vm)⟩, fun U hU hW => ⟨rfl, by rw [hU], by rw [hU]; exact hPx, by rw [hU]; exact hPo, va_K.moved hW.alike hKx, va_K.moved hW.alike hKo, hD.weaken (fun _ _ _ _ => trivial), zX.at hz hS hU hW hFc, hC.moved hW.alike⟩⟩ rfl rfl hsize hst (lv_room hW) hdg hf) hS (fun q _ h => hFc q h) hFc (fun r u t H1 locs ht hvm hw hB hz1 hk1 hS1 => ?_)
  obtain ⟨hP1, hP2, hD1⟩ := hB
  rw [ht] at hP1 hP2
  have hm1 := ap_call axom hPm hD1
  have hD2 := hD1.weaken (B := A) (fun _ q _ h => hFc q.1 h)
  exact kk r u H1 locs hw ⟨⟨hP1, P_call axom hPm hk1, hP2⟩, ⟨dL hD2, hDm, dR hD2⟩, ⟨fun i j a b ha hb => hm1 i j a b (gL ha) hb, dA hD2, fun i j a b ha hb e9 => hm1 _ i b a (gR hb) ha e9.symm⟩, hS1⟩
end LK
