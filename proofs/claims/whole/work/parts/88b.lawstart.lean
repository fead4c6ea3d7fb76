set_option maxHeartbeats 8000000 in
set_option maxRecDepth 100000 in
/-- the law, from its entry -/
theorem whole_start {p : Program} {e : Env} {s : State} {m : MethodId} {below : List Frame} {meth : Method} {c : Code} (l : Launch) (hl9 : l.stackTraces = false) {b L : Nat} {xs : Nat → Int32} (hL : L ≤ 1536) (C0 : lw_At p s m meth c b L xs) : W p l e room_1 s m #[Value.ref b] below meth c s.heap [] 0 0 (lw_Z below #[Value.ref b] s) (entryFrame m ([Value.ref b] : List Value).toArray 7) := by
  obtain ⟨hx, hb, hr, hml, hown, hts0, hX, hbl, hlocks, hgv⟩ := id C0
  have hts : ∀ w ∈ wsL_law, w.before #[Value.ref b] s = true := fun w h => hts0 w (wsL_law_in w h)
  have hs := flat_of_before _ hgv
  have hz := st_X hts0 hs
  have hC := st_C hs
  have hown : s.vm.findClass RL = some m.cls := hown
  have hA : ∀ q : Nat, s.heap.size ≤ q → (fun q : Nat => s.heap.size ≤ q) q := fun _ h => h
  obtain ⟨c0, iS0, hKn0⟩ := u_known (C := RX1) (T := TX1) (N := 4) (n := 4) hts inlX1 (hts (.instantiable RX1 4) (by decide +kernel))
  obtain ⟨c1, iS1, hKn1⟩ := u_known (C := RX2) (T := TX2) (N := 2) (n := 2) hts inlX2 (hts (.instantiable RX2 2) (by decide +kernel))
  obtain ⟨c2, iS2, hKn2⟩ := u_known (C := RX3) (T := TX3) (N := 5) (n := 5) hts inlX3 (hts (.instantiable RX3 5) (by decide +kernel))
  obtain ⟨c3, iS3, hKn3⟩ := u_known (C := RX4) (T := TX4) (N := 7) (n := 7) hts inlX4 (hts (.instantiable RX4 7) (by decide +kernel))
  obtain ⟨c4, iS4, hKn4⟩ := u_known (C := RX5) (T := TX5) (N := 21) (n := 21) hts inlX5 (hts (.instantiable RX5 21) (by decide +kernel))
  obtain ⟨dC, dI, hKc⟩ : ∃ (dC : Nat → ClassId) (dI : Nat → Nat → Nat), ∀ (k : Nat) (q : vw_C), vwCl[k]? = some q → u_Kn s q.1 q.2.1 q.2.2 (dC k) (dI k) := by
    refine ⟨fun k => if k = 0 then c0 else if k = 1 then c1 else if k = 2 then c2 else if k = 3 then c3 else c4, fun k => if k = 0 then iS0 else if k = 1 then iS1 else if k = 2 then iS2 else if k = 3 then iS3 else iS4, ?_⟩
    intro k q hq
    match k, hq with
    | 0, hq => cases hq; exact hKn0
    | 1, hq => cases hq; exact hKn1
    | 2, hq => cases hq; exact hKn2
    | 3, hq => cases hq; exact hKn3
    | 4, hq => cases hq; exact hKn4
    | k + 5, hq => simp [vwCl] at hq
  have hS : va_S (fun q : Nat => s.heap.size ≤ q) s.heap s.heap [] := va_S.rf
  have hK : va_K (dC, dI) vwCl [] s := ⟨hKc, fun k q h => by simp at h⟩
  have hP : va_P (dC, dI) vwCl [] s.heap := fun k q h => by simp at h
  have hD : va_D (fun q : Nat => s.heap.size ≤ q) [] := ⟨fun i j p q h => by simp at h, fun k q h => by simp at h⟩
  have hl := lv_entry ([.ref b]) (n := 7) (Nat.le_of_ble_eq_true rfl)
  rw [lg_entry_eq]
  generalize (lg_sl ([.ref b]) ++ List.replicate (7 - (lg_sl ([.ref b])).length) Slot.unset).toArray = ls at hl ⊢
  have hl : lv_has ls 7 [(0, .ref b)] := hl
  refine va_new (own := RL) (C := RX4) (T := TX4) (N := 7) (ci := 3) (fs := [.null, .null, .null, .null, .null, .int 0, .int 0]) hx hb hts inlX4 tyX4 tyX4_ok hown (hts (.classLink RL 8 RX4) (by decide +kernel)) (hts (.instantiable RX4 7) (by decide +kernel)) (hts (.initialized RX4) (by decide +kernel)) hK hP hD hS hA rfl (fun j hj => by rcases j with _ | _ | _ | _ | _ | _ | _ | j <;> first | rfl | omega) (Nat.le_of_ble_eq_true rfl) (Nat.le_of_ble_eq_true rfl) dL_law_0 (fun qx H hP hD hS => ?_)
  have hP : va_P (dC, dI) vwCl [(qx, .inr (3, [.null, .null, .null, .null, .null, .int 0, .int 0]))] H := hP
  have hD : va_D (fun q : Nat => s.heap.size ≤ q) [(qx, .inr (3, [.null, .null, .null, .null, .null, .int 0, .int 0]))] := hD
  refine lv_dup hx hb dL_law_3 rfl ?_
  have hFc := dF_of hD hS hA
  have hAO : va_AO "DeskStack$Row" s := va_AO.of (hts0 (.arrayOver (.object "DeskStack$Row")) (by decide +kernel))
  have hAOS : va_AO "DeskStack$Shelf" s := va_AO.of (hts0 (.arrayOver (.object "DeskStack$Shelf")) (by decide +kernel))
  refine va_callv (va_runI (As := []) (rest := [.ref qx]) ⟨hx, hb, hml, hown, hts⟩ (c_Xdesk_init l dC dI qx H.size) (cwI 0 hts gL_law_X4_init rfl rfl rfl (hts (.initialized RX4) (by decide +kernel)) (hts (.methodLink RL 23 yX4_init) (by decide +kernel)) (hts (.instanceMethod yX4_init) (by decide +kernel)) rfl (by decide +kernel) ⟨Nat.le_of_ble_eq_true rfl, Nat.le_of_ble_eq_true rfl⟩) ⟨fun a U g mk q => by obtain ⟨q0, q1, qP, qK, qD, qa, qb⟩ := q; exact ⟨q0, q1, qP, va_K.moved (u := U) (U := U.calling g mk a) (Vm.Alike.refl U.vm) qK, qD, va_AO.moved (u := U) (U := U.calling g mk a) (Vm.Alike.refl U.vm) qa, va_AO.moved (u := U) (U := U.calling g mk a) (Vm.Alike.refl U.vm) qb⟩, fun U hU hW => ⟨rfl, by rw [hU], by rw [hU]; exact hP, va_K.moved hW.alike hK, hD.weaken (fun _ _ _ _ => trivial), hAO.moved hW.alike, hAOS.moved hW.alike⟩⟩ rfl rfl hl.1 rfl (lv_room (Nat.le_of_ble_eq_true rfl)) dL_law_4 ⟨Nat.le_of_ble_eq_true rfl, Nat.le_of_ble_eq_true rfl⟩) hS (fun q _ h => hFc q h) hFc (fun u t H1 locs ht hvm hw hB hz1 hk1 hS => ?_)
  obtain ⟨kc, ad⟩ := u
  obtain ⟨hPx, hKx, hDx⟩ := hB
  rw [ht] at hPx
  have hKx := va_K.moved hvm.symm hKx
  have hDx := hDx.weaken (B := (fun q : Nat => s.heap.size ≤ q)) (fun _ q _ h => hFc q.1 h)
  have hw : ad 0 = qx := hw
  generalize H1 = H2 at hPx hS hk1 hz1 ⊢
  refine lv_astore_n (lv' := [(1, .ref (ad 0)), (0, .ref b)]) hx hb dL_law_7 rfl hl (by decide) (by rw [hw]; rfl) (fun ls hl => ?_)
  refine va_new (ws := xW kc ad X0) (tys := []) (own := RL) (C := RX5) (T := TX5) (N := 21) (ci := 4) (fs := [.null, .int 0, .null, .null, .null, .int 0, .int 0, .null, .null, .null, .null, .int 0, .null, .null, .int 0, .int 0, .int 0, .int 0, .int 0, .long 0, .int 0]) hx hb hts inlX5 tyX5 tyX5_ok hown (hts (.classLink RL 24 RX5) (by decide +kernel)) (hts (.instantiable RX5 21) (by decide +kernel)) (hts (.initialized RX5) (by decide +kernel)) hK hPx hDx hS hA rfl (fun j hj => by rcases j with _ | _ | _ | _ | _ | _ | _ | _ | _ | _ | _ | _ | _ | _ | _ | _ | _ | _ | _ | _ | _ | j <;> first | rfl | omega) (Nat.le_of_ble_eq_true rfl) (Nat.le_of_ble_eq_true rfl) dL_law_8 (fun qm H3 hP3 hD3 hS3 => ?_)
  have hPx := pL hP3
  have hPm := pR hP3
  have hDx := dL hD3
  have hDm := dR hD3
  have axm := dA hD3
  refine lv_dup hx hb dL_law_11 rfl ?_
  have hFm := dF_of hDm hS3 hA
  refine va_callv (va_runI (As := []) (rest := [.ref qm]) ⟨hx, hb, hml, hown, hts⟩ (c_M_init l dC dI qm H3.size) (cwI 0 hts gL_law_X5_init rfl rfl rfl (hts (.initialized RX5) (by decide +kernel)) (hts (.methodLink RL 26 yX5_init) (by decide +kernel)) (hts (.instanceMethod yX5_init) (by decide +kernel)) rfl (by decide +kernel) ⟨Nat.le_of_ble_eq_true rfl, Nat.le_of_ble_eq_true rfl⟩) ⟨fun a U g mk q => by obtain ⟨q0, q1, qP, qK, qD⟩ := q; exact ⟨q0, q1, qP, va_K.moved (u := U) (U := U.calling g mk a) (Vm.Alike.refl U.vm) qK, qD⟩, fun U hU hW => ⟨rfl, by rw [hU], by rw [hU]; exact hPm, va_K.moved hW.alike hK, hDm.weaken (fun _ _ _ _ => trivial)⟩⟩ rfl rfl hl.1 rfl (lv_room (Nat.le_of_ble_eq_true rfl)) dL_law_12 ⟨Nat.le_of_ble_eq_true rfl, Nat.le_of_ble_eq_true rfl⟩) hS3 (fun q _ h => hFm q h) hFm (fun u t H4 locs4 ht hvm hw4 hB hz4 hk4 hS4 => ?_)
  obtain ⟨cI, cJ, am⟩ := u
  obtain ⟨hPm4, hKm, hDm4⟩ := hB
  rw [ht] at hPm4
  have hKm := va_K.moved hvm.symm hKm
  have hPx4 := P_call axm.sym hPx hk4
  have axm4 := (ap_call axm.sym hPx hDm4).sym
  have hDm4 := hDm4.weaken (B := (fun q : Nat => s.heap.size ≤ q)) (fun _ q _ h => hFm q.1 h)
  refine lv_astore_n (lv' := [(2, .ref qm), (1, .ref (ad 0)), (0, .ref b)]) hx hb dL_law_15 rfl hl (by decide) rfl (fun ls hl => ?_)
  refine lv_iconst (v := 1) hx hb dL_law_16 (by decide) ?_
  refine va_newa (ws := xW kc ad X0 ++ mW qm am cI cJ M0) (tys := []) (atype := .long) (n := 1) (ty := .long) (a0 := (1, .inr (.inl (fun _ => 0)))) (N' := 1) hx hb (hts (.arrayClass .long) (by decide +kernel)) rfl hK (va_P.app hPx4 hPm4) (dJ hDx hDm4 axm4) hS4 hA (fun cA => rfl) (by decide) (by decide) (by decide +kernel) (by decide +kernel) (by decide +kernel) dL_law_17 (fun qo cO H5 hKo hP5 hD5 hS5 => ?_)
  have hKo : va_K (dC, dI) vwCl [(cO, .long)] s := hKo
  have hPxm := pL hP5
  have hDxm := dL hD5
  have hao := dA hD5
  refine lv_astore_n (lv' := [(3, .ref qo), (2, .ref qm), (1, .ref (ad 0)), (0, .ref b)]) hx hb dL_law_19 rfl hl (by decide) rfl (fun ls hl => ?_)
  refine lv_iconst (v := 0) hx hb dL_law_20 (by decide) ?_
  refine lv_istore (lv' := [(4, .int 0), (3, .ref qo), (2, .ref qm), (1, .ref (ad 0)), (0, .ref b)]) hx hb dL_law_21 hl (by decide) rfl (fun ls hl => ?_)
  have CC : lC p l s m meth c b L xs dC dI kc cI cJ cO := ⟨hx, hb, hr, hml, hown, hts, hX, hbl, hlocks, hKx, hKm, hKo, hz, hC, hl9, hL⟩
  have G : LG dC dI (xW kc ad X0) (mW qm am cI cJ M0) (oW qo cO (fun _ => 0)) (fun q : Nat => s.heap.size ≤ q) s.heap H5 _ := ⟨⟨pL hPxm, pR hPxm, pR hP5⟩, ⟨dL hDxm, dR hDxm, dR hD5⟩, ⟨dA hDxm, fun i j a b ha hb => hao i j a b (gL ha) hb, fun i j a b ha hb => hao _ j a b (gR ha) hb⟩, hS5⟩
  exact law_loop CC 512 0 0 ad X0 M0 (fun _ => 0) (by decide) (by omega) (by decide) PS0 RI0 _ _ G ls (lv_sub hl [4, 3, 2, 1, 0] rfl)
