def xgrow (σ : XS) : XS := (upd σ.1 (xn σ) 0, (fun q => if q = xn σ + 1 then (fun _ => 0) else σ.2.1 q), σ.2.2.1, σ.2.2.2.1, σ.2.2.2.2.1, σ.2.2.2.2.2 + 1)
def adg (ad : Nat → Nat) (n q b : Nat) : Nat → Nat := fun j => if j = n then q else if j = n + 1 then b else ad j
theorem adg_lt {ad : Nat → Nat} {n q b j : Nat} (h : j < n) : adg ad n q b j = ad j := by
  unfold adg; rw [if_neg (by omega), if_neg (by omega)]
theorem xn_grow {σ : XS} : xn (xgrow σ) = xn σ + 2 := by unfold xn xgrow; show 36 + 2 * (σ.2.2.2.2.2 + 1) = 36 + 2 * σ.2.2.2.2.2 + 2; omega
theorem xe_congr {kc : Nat → ClassId} {ad ad' : Nat → Nat} {n N : Nat} {i : Int32} {a : Nat → Int32} {b : Nat → Int64} {r : Nat → Option Nat} (hag : ∀ j, j < N → ad' j = ad j) (hN : 36 ≤ N) (hn : n < N) (hp : n % 2 = 0 → n + 1 < N) (hr : ∀ j m, r j = some m → m < N) : xe kc ad' n i a b r = xe kc ad n i a b r := by
  have hq : (fun j => (r j).map ad') = fun j => (r j).map ad := by
    funext j
    cases h : r j with
    | none => rfl
    | some m => show some (ad' m) = some (ad m); rw [hag m (hr j m h)]
  have hg : (fun j : Nat => some (ad' (if j < 4 then 11 + 5 * j else 11))) = fun j => some (ad (if j < 4 then 11 + 5 * j else 11)) := by
    funext j
    rw [hag]
    split <;> omega
  unfold xe
  rw [hq, hg]
  split
  · rfl
  · split
    · rw [hag 3 (by omega), hag 4 (by omega), hag 5 (by omega)]
    · split
      · rfl
      · split
        · rfl
        · split
          · rfl
          · split
            · split
              · rw [hag (n + 1) (by omega), hag (n + 2) (by omega), hag (n + 3) (by omega), hag (n + 4) (by omega)]
              · rfl
            · split
              · rename_i h2; rw [hag (n + 1) (hp h2)]
              · rfl
theorem xc_grow {kc : Nat → ClassId} {ad : Nat → Nat} {σ : XS} {q b n : Nat} (h : xWF σ) (hn : n < xn σ) : xc kc (adg ad (xn σ) q b) (xgrow σ) n = xc kc ad σ n := by
  have hag : ∀ j, j < xn σ → adg ad (xn σ) q b j = ad j := fun j hj => adg_lt hj
  have h36 := xn_ge (σ := σ)
  unfold xc
  split
  · rename_i h0
    have e5 : (xgrow σ).2.2.2.2.1 = σ.2.2.2.2.1 := rfl
    have e0 : (xgrow σ).1 0 = σ.1 0 := by show upd σ.1 (xn σ) 0 0 = σ.1 0; unfold upd; rw [if_neg (by omega)]
    have e1 : (xgrow σ).1 1 = σ.1 1 := by show upd σ.1 (xn σ) 0 1 = σ.1 1; unfold upd; rw [if_neg (by omega)]
    rw [e5, e0, e1, hag 6 (by omega), hag 1 (by omega), hag 31 (by omega), hag 2 (by omega), hag _ h.2.2.2]
  · have e0 : (xgrow σ).1 n = σ.1 n := by show upd σ.1 (xn σ) 0 n = σ.1 n; unfold upd; rw [if_neg (by omega)]
    have e1 : (xgrow σ).2.1 n = σ.2.1 n := by show (if n = xn σ + 1 then (fun _ => 0) else σ.2.1 n) = σ.2.1 n; rw [if_neg (by omega)]
    rw [e0, e1]
    exact xe_congr hag h36 hn (fun h2 => by unfold xn at *; omega) (fun j m hm => (h.1 n j m hm).2.2)
theorem xW_grow {kc : Nat → ClassId} {ad : Nat → Nat} {σ : XS} {q b : Nat} (h : xWF σ) : xW kc ad σ ++ [(q, .inr (1, [.ref b, .int 0])), (b, .inl (kc 2, 160, .inl (fun _ => 0)))] = xW kc (adg ad (xn σ) q b) (xgrow σ) := by
  have h36 := xn_ge (σ := σ)
  have hl : (xW kc ad σ).length = xn σ := by simp [xW]
  have hev : xn σ % 2 = 0 := by unfold xn; omega
  have hxn := xn_grow (σ := σ)
  have hv : xv (xgrow σ) (xn σ) := ⟨h36, hev, by omega⟩
  apply List.ext_getElem?
  intro n
  by_cases h1 : n < xn σ
  · rw [List.getElem?_append_left (by rw [hl]; exact h1), xW_at h1, xW_at (by omega), xc_grow h h1, adg_lt h1]
  · rw [List.getElem?_append_right (by rw [hl]; omega), hl]
    by_cases h2 : n = xn σ
    · subst h2
      rw [xW_at (by omega), xc_row hv, Nat.sub_self]
      show some (q, _) = some (adg ad (xn σ) q b (xn σ), _)
      have e1 : adg ad (xn σ) q b (xn σ) = q := by unfold adg; rw [if_pos rfl]
      have e2 : adg ad (xn σ) q b (xn σ + 1) = b := by unfold adg; rw [if_neg (by omega), if_pos rfl]
      have e3 : (xgrow σ).1 (xn σ) = 0 := by show upd σ.1 (xn σ) 0 (xn σ) = 0; unfold upd; rw [if_pos rfl]
      rw [e1, e2, e3]
    · by_cases h3 : n = xn σ + 1
      · subst h3
        rw [xW_at (by omega), xc_bytes hv, show xn σ + 1 - xn σ = 1 by omega]
        have e2 : adg ad (xn σ) q b (xn σ + 1) = b := by unfold adg; rw [if_neg (by omega), if_pos rfl]
        have e3 : (xgrow σ).2.1 (xn σ + 1) = fun _ => 0 := by show (if xn σ + 1 = xn σ + 1 then (fun _ => 0) else σ.2.1 (xn σ + 1)) = fun _ => 0; rw [if_pos rfl]
        rw [e2, e3]; rfl
      · rw [xW_no (by omega)]
        apply List.getElem?_eq_none
        show 2 ≤ n - xn σ
        omega
theorem va_P_last {D : va_G} {cl : List vw_C} {ws : va_W} {e : Nat × va_E} {H : Heap} (h : va_P D cl (ws ++ [e]) H) : va_P D cl [e] H := fun k q hk => h (ws.length + k) q (by rw [List.getElem?_append_right (by omega), Nat.add_sub_cancel_left]; exact hk)
theorem va_D_one {e : Nat × va_E} : va_D (fun _ => True) [e] := ⟨fun i j p q hi hj _ => by
  have h1 := (List.getElem?_eq_some_iff.mp hi).1
  have h2 := (List.getElem?_eq_some_iff.mp hj).1
  simp only [List.length_singleton] at h1 h2
  omega, fun _ _ _ => trivial⟩
theorem va_D_swap {A : Nat → Prop} {a b c : va_W} (h : va_D A ((a ++ b) ++ c)) : va_D A ((a ++ c) ++ b) := h.swap
theorem va_grow {D : va_G} {cl : List vw_C} {A : Nat → Prop} {ws w1 : va_W} {e : Nat × va_E} {H H1 : Heap} (hP : va_P D cl (ws ++ [e]) H) (hD : va_D A (ws ++ [e])) (hF : ∀ q, va_A [e] H.size q → A q) (hk : ∀ q : Nat, q < H.size → ¬ va_A [e] H.size q → H1[q]? = H[q]?) (hP1 : va_P D cl w1 H1) (hD1 : va_D (va_A [e] H.size) w1) : va_P D cl (ws ++ w1) H1 ∧ va_D A (ws ++ w1) := by
  have hP' : va_P D cl ([e] ++ ws) H := va_P.swap (a := []) hP
  have hD' : va_D A ([e] ++ ws) := va_D_swap (a := []) hD
  obtain ⟨h1, h2⟩ := va_joinQ (X := [e]) (cx := [e]) (wr := []) (w1 := w1) (pl := ws) hP' hD' [0] [] rfl rfl (by decide) (by decide) hk hF hP1 hD1
  exact ⟨va_P.swap (a := []) h1, va_D_swap (a := []) h2⟩
def Xdesk_erase0 (σ : XS) : Int32 := (σ.1 σ.2.2.2.2.1)
set_option maxHeartbeats 4000000 in
set_option maxRecDepth 100000 in
theorem c_Xdesk_erase0 (l : Launch) (dC : Nat → ClassId) (dI : Nat → Nat → Nat) (kc : Nat → ClassId) (ad : Nat → Nat) (sz : Nat) (σ : XS) (hrv : xWF σ) (hs : σ.1 σ.2.2.2.2.1 ≤ 0) : Met l yX4_erase wsX4_erase ({ frames := 0, cells := 0, slots := 0, locals := 0 } : Room) (va_Pc [.ref (ad 0)] (xPre dC dI kc ad sz σ)) (va_Qi (fun r u => r = Xdesk_erase0 σ ∧ u = σ) (xAt dC dI kc ad (xA kc ad σ sz)) (xA kc ad σ sz)) 0 0 (xA kc ad σ sz) := by
  refine x_ofW (cc := cX4_erase) (maxL := 2) (ret := (some .int)) (by decide) rfl rfl (Nat.le_of_ble_eq_true rfl) ?_
  intro p e s m below meth c X G hA hr hlocks hml ls hl
  have hl : lv_has ls 2 [(0, .ref (ad 0))] := hl
  have hx := X.1
  have hb := X.2.1
  have hts := X.2.2.1
  have hown := X.2.2.2.1
  have hz := X.2.2.2.2.2
  have hin2 : ∀ w ∈ wsX20, w ∈ wsX4_erase := (fun w hw => List.mem_cons_of_mem _ (List.mem_append_right _ hw))
  have hin4 : ∀ w ∈ wsX40, w ∈ wsX4_erase := (fun w hw => List.mem_cons_of_mem _ (List.mem_append_left _ (List.mem_append_right _ hw)))
  refine lv_aload_n hx hb dX4_erase_0 rfl (lv_at hl 0 rfl) ?_
  refine x_dget_4 X G hin4 (by decide +kernel) dX4_erase_1 ?_
  refine x_rget_1 X G hin2 hrv.2 (by decide +kernel) dX4_erase_4 ?_
  refine lv_istore_n (lv' := [(1, .int (σ.1 σ.2.2.2.2.1)), (0, .ref (ad 0))]) hx hb dX4_erase_7 rfl hl (by decide) rfl (fun ls hl => ?_)
  refine lv_iload_n hx hb dX4_erase_8 rfl (lv_at hl 0 rfl) ?_
  refine lv_if_le (tgt := 23) hx hb dX4_erase_9 (by decide) (fun c_9 => ?_) (fun c_9 => ?_)
  · have c_9 : (σ.1 σ.2.2.2.2.1) ≤ 0 := c_9
    refine lv_iload_n hx hb dX4_erase_23 rfl (lv_at hl 0 rfl) ?_
    exact x_iret (v := (σ.1 σ.2.2.2.2.1)) X G hr hlocks ⟨(by unfold Xdesk_erase0; first | simp only [eq_true c_9, ↓reduceIte] | rfl), rfl⟩ dX4_erase_24
  · have c_9 : ¬ ((σ.1 σ.2.2.2.2.1) ≤ 0) := c_9
    exact absurd hs c_9
set_option maxHeartbeats 4000000 in
set_option maxRecDepth 100000 in
theorem c_Xdesk_erase1 (l : Launch) (dC : Nat → ClassId) (dI : Nat → Nat → Nat) (kc : Nat → ClassId) (ad : Nat → Nat) (sz : Nat) (σ : XS) (hrv : xWF σ) (hs : ¬ σ.1 σ.2.2.2.2.1 ≤ 0) : Met l yX4_erase wsX4_erase ({ frames := 2, cells := 2, slots := 162, locals := 32 } : Room) (va_Pc [.ref (ad 0)] (xPre dC dI kc ad sz σ)) (va_Qi (fun r (u : XS × (Nat → Nat)) => r = σ.1 σ.2.2.2.2.1 ∧ u.1 = xp (xgrow σ) (xn σ) ∧ ∀ j, j < xn σ → u.2 j = ad j) (fun u t => xAt dC dI kc u.2 (xA kc ad σ sz) u.1 t) (xA kc ad σ sz)) 2 162 (xA kc ad σ sz) := by
  refine x_ofW (cc := cX4_erase) (maxL := 2) (ret := some .int) (by decide) rfl rfl (Nat.le_of_ble_eq_true rfl) ?_
  intro p e s m below meth c X G hA hr hlocks hml ls hl
  have hl : lv_has ls 2 [(0, .ref (ad 0))] := hl
  have hx := X.1
  have hb := X.2.1
  have hts := X.2.2.1
  have hown := X.2.2.2.1
  have hK := X.2.2.2.2.1
  have hin4 : ∀ w ∈ wsX40, w ∈ wsX4_erase := (fun w hw => List.mem_cons_of_mem _ (List.mem_append_left _ (List.mem_append_right _ hw)))
  have hin2 : ∀ w ∈ wsX20, w ∈ wsX4_erase := (fun w hw => List.mem_cons_of_mem _ (List.mem_append_right _ hw))
  refine lv_aload_n hx hb dX4_erase_0 rfl (lv_at hl 0 rfl) ?_
  refine x_dget_4 X G hin4 (by decide +kernel) dX4_erase_1 ?_
  refine x_rget_1 X G hin2 hrv.2 (by decide +kernel) dX4_erase_4 ?_
  refine lv_istore_n (lv' := [(1, .int (σ.1 σ.2.2.2.2.1)), (0, .ref (ad 0))]) hx hb dX4_erase_7 rfl hl (by decide) rfl (fun ls hl => ?_)
  refine lv_iload_n hx hb dX4_erase_8 rfl (lv_at hl 0 rfl) ?_
  refine lv_if_le (tgt := 23) hx hb dX4_erase_9 (by decide) (fun c9 => absurd c9 hs) (fun c9 => ?_)
  refine lv_aload_n hx hb dX4_erase_12 rfl (lv_at hl 1 rfl) ?_
  refine va_new (own := RX4) (C := RX2) (T := TX2) (N := 2) (ci := 1) (fs := [.null, .int 0]) hx hb hts hin2 tyX2 tyX2_ok hown (hts (.classLink RX4 32 RX2) (by decide +kernel)) (hts (.instantiable RX2 2) (by decide +kernel)) (hts (.initialized RX2) (by decide +kernel)) hK G.1 G.2.1 G.2.2 hA rfl (fun j hj => by rcases j with _ | _ | j <;> first | rfl | omega) (Nat.le_of_ble_eq_true rfl) (Nat.le_of_ble_eq_true rfl) dX4_erase_13 (fun q H hP hD hS => ?_)
  refine lv_dup hx hb dX4_erase_16 rfl ?_
  have hF : ∀ a, va_A [(q, .inr (1, [.null, .int 0]))] H.size a → xA kc ad σ sz a := fun a h => h.elim (fun ⟨k, e9, hk⟩ => hD.2 ((xW kc ad σ).length + k) (a, e9) (by rw [List.getElem?_append_right (by omega), Nat.add_sub_cancel_left]; exact hk)) (fun h => hA a (Nat.le_trans hS.1 h))
  refine va_callv (va_runI (As := []) (rest := [.ref q, .ref (ad 0)]) ⟨hx, hb, hml, hown, hts⟩ (c_Xrow_init l dC dI q H.size) (cwI 0 hts gX4_erase_X2_init rfl rfl rfl (hts (.initialized RX2) (by decide +kernel)) (hts (.methodLink RX4 34 yX2_init) (by decide +kernel)) (hts (.instanceMethod yX2_init) (by decide +kernel)) rfl (by decide +kernel) ⟨Nat.le_of_ble_eq_true rfl, Nat.le_of_ble_eq_true rfl⟩) ⟨fun a U g mk z => by obtain ⟨z0, z1, zP, zK, zD⟩ := z; exact ⟨z0, z1, zP, va_K.moved (u := U) (U := U.calling g mk a) (Vm.Alike.refl U.vm) zK, zD⟩, fun U hU hW => ⟨rfl, by rw [hU], by rw [hU]; exact va_P_last hP, va_K.moved hW.alike (hK.sub (tys' := []) [] rfl), va_D_one⟩⟩ rfl rfl hl.1 rfl (lv_room (Nat.le_of_ble_eq_true rfl)) dX4_erase_17 ⟨Nat.le_of_ble_eq_true rfl, Nat.le_of_ble_eq_true rfl⟩) hS (fun a _ h => hF a h) hF (fun u t H1 locs1 ht hvm _ hB hz1 hk1 hS => ?_)
  obtain ⟨hP1, hK1, hD1⟩ := hB
  rw [ht] at hP1
  obtain ⟨hP, hD⟩ := va_grow hP hD hF hk1 hP1 hD1
  have hc : u.1 0 = kc 2 := by
    have h1 := ((va_K.moved hvm.symm hK1).2 0 _ rfl).2
    have h2 := (hK.2 2 _ rfl).2
    exact Option.some.inj ((show s.vm.findClass ("[" ++ (FieldType.byte).toString) = some (u.1 0) from h1).symm.trans h2)
  have hro : roW q u = [(q, .inr (1, [.ref (u.2 0), .int 0])), (u.2 0, .inl (kc 2, 160, .inl (fun _ => 0)))] := by unfold roW; rw [hc]
  rw [hro, xW_grow hrv] at hP hD
  have G : xH dC dI kc (adg ad (xn σ) q (u.2 0)) (xgrow σ) (xA kc ad σ sz) s.heap H1 locs1 := ⟨hP, hD, hS⟩
  have h0 : ad 0 = adg ad (xn σ) q (u.2 0) 0 := (adg_lt (by have := xn_ge (σ := σ); omega)).symm
  have hq : q = adg ad (xn σ) q (u.2 0) (xn σ) := by unfold adg; rw [if_pos rfl]
  refine va_put (D := (dC, dI)) (ci := 3) (v := .ref q) (ty := .object "DeskStack$Row") (C := RX4) (T := TX4) (N := 7) hx hb hts hin4 tyX4 tyX4_ok nmX4 hown hK G.1 G.2.1 G.2.2 0 (by rw [xW_desk, ← h0]) rfl 4 (by decide) (hts (.fieldLink RX4 35 "DeskStack" "program" "LDeskStack$Row;") (by decide +kernel)) (fun _ h9 => h9) rfl (by decide +kernel) rfl rfl (Nat.le_of_ble_eq_true rfl) dX4_erase_20 (fun H locs hP hD hS => ?_)
  rw [h0] at hP hD
  have G : xH dC dI kc (adg ad (xn σ) q (u.2 0)) (xp (xgrow σ) (xn σ)) (xA kc ad σ sz) s.heap H locs := x_to (σ := xgrow σ) (τ := xp (xgrow σ) (xn σ)) (k := 0) (by show (_ : va_E) = (.inr (3, [.ref (adg ad (xn σ) q (u.2 0) 6), .ref (adg ad (xn σ) q (u.2 0) 1), .ref (adg ad (xn σ) q (u.2 0) 31), .ref (adg ad (xn σ) q (u.2 0) 2), .ref (adg ad (xn σ) q (u.2 0) (xn σ)), .int ((xgrow σ).1 0), .int ((xgrow σ).1 1)]) : va_E); rw [← hq]; rfl) rfl (fun n hn => xc_xp hn) hP hD hS
  refine W.widen (k := 2) (n := 162) (by omega) (by omega) ?_
  refine lv_iload_n hx hb dX4_erase_23 rfl (lv_at hl 0 rfl) ?_
  exact W.iret hx hb hr (fun t ht hW => ⟨⟨_, (xp (xgrow σ) (xn σ), adg ad (xn σ) q (u.2 0)), rfl, ⟨rfl, rfl, fun j hj => adg_lt hj⟩, by rw [ht]; exact G.1, va_K.moved hW.alike hK, G.2.1⟩, G.2.2.F ht⟩) G.2.2.2.2 dX4_erase_24 hlocks
