def lrP (dC : Nat → ClassId) (dI : Nat → Nat → Nat) (kc : Nat → ClassId) (ad : Nat → Nat) (cO : ClassId) (qo sz : Nat) (σ : XS) (f : Nat → Int64) : State → Prop := fun U => U.heap.size = sz ∧ va_P (dC, dI) vwCl (xW kc ad σ) U.heap ∧ va_P (dC, dI) vwCl (oW qo cO f) U.heap ∧ va_K (dC, dI) vwCl (xT kc) U ∧ va_K (dC, dI) vwCl [(cO, .long)] U ∧ va_D (fun _ => True) (xW kc ad σ ++ oW qo cO f) ∧ zX (va_A (xW kc ad σ ++ oW qo cO f) sz) U ∧ zC U
def lrB (dC : Nat → ClassId) (dI : Nat → Nat → Nat) (kc : Nat → ClassId) (ad : Nat → Nat) (cO : ClassId) (qo : Nat) (A : Nat → Prop) (u : XS × (Nat → Int64)) (t : State) : Prop := va_P (dC, dI) vwCl (xW kc ad u.1) t.heap ∧ va_P (dC, dI) vwCl (oW qo cO u.2) t.heap ∧ va_D A (xW kc ad u.1 ++ oW qo cO u.2)
def lrQ (σ : XS) (n : Int32) (f : Nat → Int64) (r : Int32) (u : XS × (Nat → Int64)) : Prop := (∃ v : Int32, Xdesk_run σ n = .inr (v, u.1) ∧ r = 0 ∧ u.2 0 = v.toInt64) ∨ ∃ E : String, Xdesk_run σ n = .inl (E, u.1) ∧ r = xcd E
set_option maxHeartbeats 4000000 in
set_option maxRecDepth 100000 in
theorem c_L_run (l : Launch) (hl9 : l.stackTraces = false) (dC : Nat → ClassId) (dI : Nat → Nat → Nat) (kc : Nat → ClassId) (ad : Nat → Nat) (cO : ClassId) (qo sz : Nat) (σ : XS) (f : Nat → Int64) (n : Int32) (hrv : xWF σ) : Met l yL_run wsL_run ({ frames := 13, cells := 1, slots := 6, locals := 300 } : Room) (va_Pc [.ref (ad 0), .int n, .ref qo] (lrP dC dI kc ad cO qo sz σ f)) (va_Qi (lrQ σ n f) (lrB dC dI kc ad cO qo (va_A (xW kc ad σ ++ oW qo cO f) sz)) (va_A (xW kc ad σ ++ oW qo cO f) sz)) 1 6 (va_A (xW kc ad σ ++ oW qo cO f) sz) := by
  refine va_MetW (cc := cL_run) (maxL := 4) (ret := some .int) (hh := [(0, 9, 12, 13), (0, 9, 15, 15), (0, 9, 18, 17), (0, 9, 21, 19), (0, 9, 24, 21)]) (by decide) rfl ?_
  intro p e s m args below meth c s₁ B hml hv
  obtain ⟨rfl, hsz, hPx, hPo, hKx, hKo, hD0, hz, hC⟩ := hv
  have hx := B.exec
  have hb := B.bytes
  have hr := B.returns
  have hts := atoms_spec (ws := wsL_run) B.pre
  have hown : s.vm.findClass RL = some m.cls := findClass_of_methodNamed B.named
  have hlocks := B.notSynchronized
  have htab := vx_table (x := yL_run) B (hts _ List.mem_cons_self)
  subst hsz
  have hD := hD0.self (sz := s.heap.size)
  generalize hAe : va_A (xW kc ad σ ++ oW qo cO f) s.heap.size = A at hD hz ⊢
  have hA : ∀ q : Nat, s.heap.size ≤ q → A q := fun q h => by rw [← hAe]; exact Or.inr h
  have hS : va_S A s.heap s.heap [] := va_S.rf
  have hl := lv_entry (([.ref (ad 0), .int n, .ref qo] : List Value)) (n := 4) (Nat.le_of_ble_eq_true rfl)
  rw [lg_entry_eq]
  generalize (lg_sl (([.ref (ad 0), .int n, .ref qo] : List Value)) ++ List.replicate (4 - (lg_sl (([.ref (ad 0), .int n, .ref qo] : List Value))).length) Slot.unset).toArray = ls at hl ⊢
  have hl : lv_has ls 4 [(0, .ref (ad 0)), (1, .int n), (2, .ref qo)] := hl
  refine lv_aload_n hx hb dL_run_0 rfl (lv_at hl 2 rfl) ?_
  refine lv_iconst (v := 0) hx hb dL_run_1 (by decide) ?_
  refine lv_aload_n hx hb dL_run_2 rfl (lv_at hl 0 rfl) ?_
  refine lv_iload_n hx hb dL_run_3 rfl (lv_at hl 1 rfl) ?_
  have hDx := dL hD
  have hDo := dR hD
  have hao := dA hD
  have hFc : ∀ q, xA kc ad σ s.heap.size q → A q := dF_of hDx hS hA
  refine xq_calli (mc := 0) (ms := 0) (mx := 1) (sx := 6) (xq_runV (As := [.int n]) (rest := [.int 0, .ref qo]) ⟨hx, hb, hml, hown, hts⟩ (c_Xdesk_run l hl9 dC dI kc ad s.heap.size σ n hrv) (cwV 1 hts gL_run_X4_run rfl rfl rfl (by decide +kernel) ⟨Nat.le_of_ble_eq_true rfl, Nat.le_of_ble_eq_true rfl⟩) ⟨fun a U g mk q => by obtain ⟨q0, q1, qP, qK, qD, qz⟩ := q; exact ⟨q0, q1, qP, va_K.moved (u := U) (U := U.calling g mk a) (Vm.Alike.refl U.vm) qK, qD, qz.blind⟩, va_recv hKx hPx (ci := 3) (q0 := 0) rfl xW_desk, fun U hU hW => ⟨rfl, by rw [hU], by rw [hU]; exact hPx, va_K.moved hW.alike hKx, hDx.weaken (fun _ _ _ _ => trivial), zX.at hz hS hU hW hFc⟩⟩ rfl rfl hl.1 rfl (lv_room (Nat.le_of_ble_eq_true rfl)) dL_run_4 ⟨Nat.le_of_ble_eq_true rfl, Nat.le_of_ble_eq_true rfl⟩) hS (fun q _ h => hFc q h) hFc (fun q _ h => hFc q h) (fun E ce q9 u t H1 locs1 ht hvm hpx hw hz1 hk1 hS hce hcv hcl => ?_) (fun r u t H1 locs ht hvm hw hB hz1 hk1 hS => ?_)
  · obtain ⟨hw, hP1, hK1, hD1⟩ := hw
    rw [ht] at hP1
    have hPo1 := P_call hao hPo hk1
    have hao1 := ap_call hao hPo hD1
    have hD2 : va_D A (xW kc ad u ++ oW qo cO f) := dJ (hD1.weaken (fun _ q9 _ h => hFc q9.1 h)) hDo hao1
    have hE := E_run hw
    have hE' : E = "java/lang/IllegalArgumentException" ∨ E = "java/lang/IllegalStateException" ∨ E = "java/lang/IndexOutOfBoundsException" ∨ E = "java/lang/ArithmeticException" ∨ E = "java/lang/UnsupportedOperationException" := by
      have : E ∈ zE := hE
      simpa [zE] using this
    rcases hE' with rfl | rfl | rfl | rfl | rfl
    · refine vx_catch (own := RL) (name := "java/lang/IllegalArgumentException") (E := "java/lang/IllegalArgumentException") hown [] ⟨0, 9, 12, 13⟩ [⟨0, 9, 15, 15⟩, ⟨0, 9, 18, 17⟩, ⟨0, 9, 21, 19⟩, ⟨0, 9, 24, 21⟩] (by rw [htab]; rfl) (fun z hz => absurd hz List.not_mem_nil) (by decide) (by decide) (hts (.classLink RL 13 "java/lang/IllegalArgumentException") (by decide +kernel)) (va_Nw.use rfl (hz.1.1 _ (by decide))) hce hcv hcl ?_
      refine lv_astore_n (lv' := [(3, .ref q9), (0, .ref (ad 0)), (1, .int n), (2, .ref qo)]) hx hb dL_run_12 rfl hl (by decide) rfl (fun ls hl => ?_)
      refine lv_iconst (v := 1) hx hb dL_run_13 (by decide) ?_
      exact W.iret hx hb hr (fun t2 ht2 hW2 => ⟨⟨1, (u, f), rfl, Or.inr ⟨_, hw, by decide⟩, by rw [ht2]; exact hP1, by rw [ht2]; exact hPo1, hD2⟩, hS.F ht2⟩) hS.2.2 dL_run_14 hlocks
    · refine vx_catch (own := RL) (name := "java/lang/IllegalStateException") (E := "java/lang/IllegalStateException") hown [⟨0, 9, 12, 13⟩] ⟨0, 9, 15, 15⟩ [⟨0, 9, 18, 17⟩, ⟨0, 9, 21, 19⟩, ⟨0, 9, 24, 21⟩] (by rw [htab]; rfl) (fun z hz => by
        simp only [List.mem_cons, List.not_mem_nil, or_false] at hz
        subst hz
        exact Or.inr ⟨by decide, "java/lang/IllegalArgumentException", hts (.classLink RL 13 "java/lang/IllegalArgumentException") (by decide +kernel), hC _ (by decide) _ (by decide) (by decide)⟩) (by decide) (by decide) (hts (.classLink RL 15 "java/lang/IllegalStateException") (by decide +kernel)) (va_Nw.use rfl (hz.1.1 _ (by decide))) hce hcv hcl ?_
      refine lv_astore_n (lv' := [(3, .ref q9), (0, .ref (ad 0)), (1, .int n), (2, .ref qo)]) hx hb dL_run_15 rfl hl (by decide) rfl (fun ls hl => ?_)
      refine lv_iconst (v := 2) hx hb dL_run_16 (by decide) ?_
      exact W.iret hx hb hr (fun t2 ht2 hW2 => ⟨⟨2, (u, f), rfl, Or.inr ⟨_, hw, by decide⟩, by rw [ht2]; exact hP1, by rw [ht2]; exact hPo1, hD2⟩, hS.F ht2⟩) hS.2.2 dL_run_17 hlocks
    · refine vx_catch (own := RL) (name := "java/lang/IndexOutOfBoundsException") (E := "java/lang/IndexOutOfBoundsException") hown [⟨0, 9, 12, 13⟩, ⟨0, 9, 15, 15⟩] ⟨0, 9, 18, 17⟩ [⟨0, 9, 21, 19⟩, ⟨0, 9, 24, 21⟩] (by rw [htab]; rfl) (fun z hz => by
        simp only [List.mem_cons, List.not_mem_nil, or_false] at hz
        rcases hz with rfl | rfl
        · exact Or.inr ⟨by decide, "java/lang/IllegalArgumentException", hts (.classLink RL 13 "java/lang/IllegalArgumentException") (by decide +kernel), hC _ (by decide) _ (by decide) (by decide)⟩
        · exact Or.inr ⟨by decide, "java/lang/IllegalStateException", hts (.classLink RL 15 "java/lang/IllegalStateException") (by decide +kernel), hC _ (by decide) _ (by decide) (by decide)⟩) (by decide) (by decide) (hts (.classLink RL 17 "java/lang/IndexOutOfBoundsException") (by decide +kernel)) (va_Nw.use rfl (hz.1.1 _ (by decide))) hce hcv hcl ?_
      refine lv_astore_n (lv' := [(3, .ref q9), (0, .ref (ad 0)), (1, .int n), (2, .ref qo)]) hx hb dL_run_18 rfl hl (by decide) rfl (fun ls hl => ?_)
      refine lv_iconst (v := 3) hx hb dL_run_19 (by decide) ?_
      exact W.iret hx hb hr (fun t2 ht2 hW2 => ⟨⟨3, (u, f), rfl, Or.inr ⟨_, hw, by decide⟩, by rw [ht2]; exact hP1, by rw [ht2]; exact hPo1, hD2⟩, hS.F ht2⟩) hS.2.2 dL_run_20 hlocks
    · refine vx_catch (own := RL) (name := "java/lang/ArithmeticException") (E := "java/lang/ArithmeticException") hown [⟨0, 9, 12, 13⟩, ⟨0, 9, 15, 15⟩, ⟨0, 9, 18, 17⟩] ⟨0, 9, 21, 19⟩ [⟨0, 9, 24, 21⟩] (by rw [htab]; rfl) (fun z hz => by
        simp only [List.mem_cons, List.not_mem_nil, or_false] at hz
        rcases hz with rfl | rfl | rfl
        · exact Or.inr ⟨by decide, "java/lang/IllegalArgumentException", hts (.classLink RL 13 "java/lang/IllegalArgumentException") (by decide +kernel), hC _ (by decide) _ (by decide) (by decide)⟩
        · exact Or.inr ⟨by decide, "java/lang/IllegalStateException", hts (.classLink RL 15 "java/lang/IllegalStateException") (by decide +kernel), hC _ (by decide) _ (by decide) (by decide)⟩
        · exact Or.inr ⟨by decide, "java/lang/IndexOutOfBoundsException", hts (.classLink RL 17 "java/lang/IndexOutOfBoundsException") (by decide +kernel), hC _ (by decide) _ (by decide) (by decide)⟩) (by decide) (by decide) (hts (.classLink RL 19 "java/lang/ArithmeticException") (by decide +kernel)) (va_Nw.use rfl (hz.1.1 _ (by decide))) hce hcv hcl ?_
      refine lv_astore_n (lv' := [(3, .ref q9), (0, .ref (ad 0)), (1, .int n), (2, .ref qo)]) hx hb dL_run_21 rfl hl (by decide) rfl (fun ls hl => ?_)
      refine lv_iconst (v := 4) hx hb dL_run_22 (by decide) ?_
      exact W.iret hx hb hr (fun t2 ht2 hW2 => ⟨⟨4, (u, f), rfl, Or.inr ⟨_, hw, by decide⟩, by rw [ht2]; exact hP1, by rw [ht2]; exact hPo1, hD2⟩, hS.F ht2⟩) hS.2.2 dL_run_23 hlocks
    · refine vx_catch (own := RL) (name := "java/lang/UnsupportedOperationException") (E := "java/lang/UnsupportedOperationException") hown [⟨0, 9, 12, 13⟩, ⟨0, 9, 15, 15⟩, ⟨0, 9, 18, 17⟩, ⟨0, 9, 21, 19⟩] ⟨0, 9, 24, 21⟩ [] (by rw [htab]; rfl) (fun z hz => by
        simp only [List.mem_cons, List.not_mem_nil, or_false] at hz
        rcases hz with rfl | rfl | rfl | rfl
        · exact Or.inr ⟨by decide, "java/lang/IllegalArgumentException", hts (.classLink RL 13 "java/lang/IllegalArgumentException") (by decide +kernel), hC _ (by decide) _ (by decide) (by decide)⟩
        · exact Or.inr ⟨by decide, "java/lang/IllegalStateException", hts (.classLink RL 15 "java/lang/IllegalStateException") (by decide +kernel), hC _ (by decide) _ (by decide) (by decide)⟩
        · exact Or.inr ⟨by decide, "java/lang/IndexOutOfBoundsException", hts (.classLink RL 17 "java/lang/IndexOutOfBoundsException") (by decide +kernel), hC _ (by decide) _ (by decide) (by decide)⟩
        · exact Or.inr ⟨by decide, "java/lang/ArithmeticException", hts (.classLink RL 19 "java/lang/ArithmeticException") (by decide +kernel), hC _ (by decide) _ (by decide) (by decide)⟩) (by decide) (by decide) (hts (.classLink RL 21 "java/lang/UnsupportedOperationException") (by decide +kernel)) (va_Nw.use rfl (hz.1.1 _ (by decide))) hce hcv hcl ?_
      refine lv_astore_n (lv' := [(3, .ref q9), (0, .ref (ad 0)), (1, .int n), (2, .ref qo)]) hx hb dL_run_24 rfl hl (by decide) rfl (fun ls hl => ?_)
      refine lv_iconst (v := 5) hx hb dL_run_25 (by decide) ?_
      exact W.iret hx hb hr (fun t2 ht2 hW2 => ⟨⟨5, (u, f), rfl, Or.inr ⟨_, hw, by decide⟩, by rw [ht2]; exact hP1, by rw [ht2]; exact hPo1, hD2⟩, hS.F ht2⟩) hS.2.2 dL_run_26 hlocks
  · obtain ⟨hP1, hK1, hD1⟩ := hB
    rw [ht] at hP1
    have hPo1 := P_call hao hPo hk1
    have hao1 := ap_call hao hPo hD1
    have hD2 : va_D A (xW kc ad u ++ oW qo cO f) := dJ (hD1.weaken (fun _ q9 _ h => hFc q9.1 h)) hDo hao1
    refine lv_i2l hx hb dL_run_7 rfl ?_
    refine va_last (ws := xW kc ad u ++ oW qo cO f) (tys := [(cO, .long)]) hx hb hKo (va_P.app hP1 hPo1) hD2 hS (xW kc ad u).length 0 (n := 1) (f := f) (gR (k := 0) rfl) rfl (i := 0) (by unfold vp_in; decide) dL_run_8 (fun H2 locs2 hP2 hD3 hS2 => ?_)
    have es : (xW kc ad u ++ oW qo cO f).set (xW kc ad u).length (qo, .inl (cO, 1, .inr (.inl (vp_updL f (0 : Int32).toNatClampNeg r.toInt64)))) = xW kc ad u ++ oW qo cO (vp_updL f (0 : Int32).toNatClampNeg r.toInt64) := by
      rw [List.set_append_right _ _ (Nat.le_refl _), Nat.sub_self]; rfl
    rw [es] at hP2 hD3
    refine lv_goto (tgt := 27) hx hb dL_run_9 (by decide) ?_
    refine lv_iconst (v := 0) hx hb dL_run_27 (by decide) ?_
    refine W.widen (k := 1) (n := 6) (by omega) (by omega) ?_
    exact W.iret hx hb hr (fun t2 ht2 hW2 => ⟨⟨0, (u, vp_updL f (0 : Int32).toNatClampNeg r.toInt64), rfl, Or.inl ⟨r, hw, rfl, rfl⟩, by rw [ht2]; exact pL hP2, by rw [ht2]; exact pR hP2, hD3⟩, hS2.F ht2⟩) hS2.2.2 dL_run_28 hlocks
