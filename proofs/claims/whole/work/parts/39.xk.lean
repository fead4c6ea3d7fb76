def roW (h : Nat) (u : (Nat → ClassId) × (Nat → Nat)) : va_W := [(h, .inr (1, [.ref (u.2 0), .int 0])), (u.2 0, .inl (u.1 0, 160, .inl (fun _ => 0)))]
def roT (u : (Nat → ClassId) × (Nat → Nat)) : List (ClassId × FieldType) := [(u.1 0, .byte)]
set_option maxHeartbeats 4000000 in
set_option maxRecDepth 100000 in
theorem c_Xrow_init (l : Launch) (dC : Nat → ClassId) (dI : Nat → Nat → Nat) (h sz : Nat) : Met l yX2_init wsX2_init ({ frames := 1, cells := 1, slots := 160, locals := 12 }) (va_Pc [.ref h] (fun U => U.heap.size = sz ∧ va_P (dC, dI) vwCl [(h, .inr (1, [.null, .int 0]))] U.heap ∧ va_K (dC, dI) vwCl [] U ∧ va_D (fun _ => True) [(h, .inr (1, [.null, .int 0]))])) (va_Qv (fun _ : (Nat → ClassId) × (Nat → Nat) => True) (fun u t => va_P (dC, dI) vwCl (roW h u) t.heap ∧ va_K (dC, dI) vwCl (roT u) t ∧ va_D (va_A [(h, .inr (1, [.null, .int 0]))] sz) (roW h u)) (va_A [(h, .inr (1, [.null, .int 0]))] sz)) 1 160 (va_A [(h, .inr (1, [.null, .int 0]))] sz) := by
  refine Met.ofW (cc := cX2_init) (maxL := 1) (ret := none) (by decide) rfl ?_
  intro p e s m args below meth c s₁ B hml hv
  obtain ⟨rfl, hsz, hP, hK, hD0⟩ := hv
  have hx := B.exec
  have hb := B.bytes
  have hr := B.returns
  have hts := atoms_spec (ws := wsX2_init) B.pre
  have hown : s.vm.findClass RX2 = some m.cls := findClass_of_methodNamed B.named
  have hlocks := B.notSynchronized
  have hin : meth.name = "<init>" := (name_of_methodNamed B.named B.method).1
  subst hsz
  have hD := hD0.self (sz := s.heap.size)
  generalize hAe : va_A [(h, .inr (1, [.null, .int 0]))] s.heap.size = A at hD ⊢
  have hA : ∀ q : Nat, s.heap.size ≤ q → A q := fun q h => by rw [← hAe]; exact Or.inr h
  have hS : va_S A s.heap s.heap [] := va_S.rf
  have hl := lv_entry ([.ref h]) (n := 1) (Nat.le_of_ble_eq_true rfl)
  rw [lg_entry_eq]
  generalize (lg_sl ([.ref h]) ++ List.replicate (1 - (lg_sl ([.ref h])).length) Slot.unset).toArray = ls at hl ⊢
  have hl : lv_has ls 1 [(0, .ref h)] := hl
  have hws : ∀ w ∈ wsX20, w ∈ wsX2_init := (fun w hw => List.mem_cons_of_mem _ (List.mem_append_right _ hw))
  refine lv_aload_n hx hb dX2_init_0 rfl (lv_at hl 0 rfl) ?_
  refine W.objInit hx hb hown (hts (.methodLink RX2 3 objectInit) (by decide +kernel)) (hts (.instanceMethod objectInit) (by decide +kernel)) (hts (.code objectInit ⟨#[0xb1]⟩ 1 none) (by decide +kernel)) rfl (by rw [hml]; exact hl.1) rfl dX2_init_1 (Nat.le_of_ble_eq_true rfl) (Nat.le_of_ble_eq_true rfl) ?_
  refine W.eq (g2 := F0 m 4 ls []) rfl ?_
  refine lv_aload_n hx hb dX2_init_4 rfl (lv_at hl 0 rfl) ?_
  refine lv_sipush (v := 160) hx hb dX2_init_5 (by decide) ?_
  refine va_newa (atype := .byte) (n := 160) (ty := .byte) (a0 := (160, .inl (fun _ => 0))) (N' := 160) hx hb (hts (.arrayClass .byte) (by decide +kernel)) rfl hK hP hD hS hA (fun cA => rfl) (by decide) (by decide) (by decide +kernel) (by decide +kernel) (by decide +kernel) dX2_init_8 (fun q0 c0 H hK hP hD hS => ?_)
  have hP : va_P (dC, dI) vwCl [(h, .inr (1, [.null, .int 0])), (q0, .inl (c0, 160, .inl (fun _ => 0)))] H := hP
  have hD : va_D A [(h, .inr (1, [.null, .int 0])), (q0, .inl (c0, 160, .inl (fun _ => 0)))] := hD
  have hK : va_K (dC, dI) vwCl [(c0, .byte)] s := hK
  refine W.widen (k := 1) (n := 160) (by omega) (by omega) ?_
  refine va_putF (D := (dC, dI)) (ci := 1) (v := .ref q0) (ty := .array (.byte)) (C := RX2) (T := TX2) (N := 2) hx hb hts hws tyX2 tyX2_ok nmX2 hown hK hP hD hS 0 rfl rfl 0 (by decide) (hts (.fieldLink RX2 9 "DeskStack$Row" "chars" "[B") (by decide +kernel)) (fun _ h9 => h9) rfl hin rfl (by decide +kernel) rfl rfl (Nat.le_of_ble_eq_true rfl) dX2_init_10 (fun H locs hP hD hS => ?_)
  have hP : va_P (dC, dI) vwCl [(h, .inr (1, [.ref q0, .int 0])), (q0, .inl (c0, 160, .inl (fun _ => 0)))] H := hP
  have hD : va_D A [(h, .inr (1, [.ref q0, .int 0])), (q0, .inl (c0, 160, .inl (fun _ => 0)))] := hD
  refine lv_aload_n hx hb dX2_init_13 rfl (lv_at hl 0 rfl) ?_
  refine lv_iconst (v := 0) hx hb dX2_init_14 (by decide) ?_
  refine va_put (D := (dC, dI)) (ci := 1) (v := .int 0) (ty := .int) (C := RX2) (T := TX2) (N := 2) hx hb hts hws tyX2 tyX2_ok nmX2 hown hK hP hD hS 0 rfl rfl 1 (by decide) (hts (.fieldLink RX2 15 "DeskStack$Row" "size" "I") (by decide +kernel)) (fun _ h9 => h9) rfl (by decide +kernel) rfl rfl (Nat.le_of_ble_eq_true rfl) dX2_init_15 (fun H locs hP hD hS => ?_)
  have hP : va_P (dC, dI) vwCl [(h, .inr (1, [.ref q0, .int 0])), (q0, .inl (c0, 160, .inl (fun _ => 0)))] H := hP
  have hD : va_D A [(h, .inr (1, [.ref q0, .int 0])), (q0, .inl (c0, 160, .inl (fun _ => 0)))] := hD
  have hK9 := hK.sub (tys' := [(c0, .byte)]) [0] rfl
  exact W.vret hx hb hr (fun t ht hW => ⟨⟨(fun _ => c0, fun _ => q0), rfl, trivial, by rw [ht]; exact hP, va_K.moved hW.alike hK9, hD⟩, hS.F ht⟩) hS.2.2 dX2_init_18
def neW (h : Nat) (u : (Nat → ClassId) × (Nat → Nat)) : va_W := [(h, .inr (0, [.ref (u.2 0), .ref (u.2 1), .ref (u.2 2), .int 0])), (u.2 0, .inl (u.1 0, 12, .inr (.inr (.inr (.inr (fun _ => none)))))), (u.2 1, .inl (u.1 1, 12, .inl (fun _ => 0))), (u.2 2, .inl (u.1 1, 12, .inl (fun _ => 0)))]
def neT (u : (Nat → ClassId) × (Nat → Nat)) : List (ClassId × FieldType) := [(u.1 0, .object "DeskStack$Row"), (u.1 1, .int)]
set_option maxHeartbeats 4000000 in
set_option maxRecDepth 100000 in
theorem c_Xnest_init (l : Launch) (dC : Nat → ClassId) (dI : Nat → Nat → Nat) (h sz : Nat) : Met l yX1_init wsX1_init ({ frames := 1, cells := 3, slots := 36, locals := 12 }) (va_Pc [.ref h] (fun U => U.heap.size = sz ∧ va_P (dC, dI) vwCl [(h, .inr (0, [.null, .null, .null, .int 0]))] U.heap ∧ va_K (dC, dI) vwCl [] U ∧ va_D (fun _ => True) [(h, .inr (0, [.null, .null, .null, .int 0]))] ∧ va_AO "DeskStack$Row" U)) (va_Qv (fun _ : (Nat → ClassId) × (Nat → Nat) => True) (fun u t => va_P (dC, dI) vwCl (neW h u) t.heap ∧ va_K (dC, dI) vwCl (neT u) t ∧ va_D (va_A [(h, .inr (0, [.null, .null, .null, .int 0]))] sz) (neW h u)) (va_A [(h, .inr (0, [.null, .null, .null, .int 0]))] sz)) 3 36 (va_A [(h, .inr (0, [.null, .null, .null, .int 0]))] sz) := by
  refine Met.ofW (cc := cX1_init) (maxL := 1) (ret := none) (by decide) rfl ?_
  intro p e s m args below meth c s₁ B hml hv
  obtain ⟨rfl, hsz, hP, hK, hD0, hAO⟩ := hv
  have hx := B.exec
  have hb := B.bytes
  have hr := B.returns
  have hts := atoms_spec (ws := wsX1_init) B.pre
  have hown : s.vm.findClass RX1 = some m.cls := findClass_of_methodNamed B.named
  have hlocks := B.notSynchronized
  have hin : meth.name = "<init>" := (name_of_methodNamed B.named B.method).1
  subst hsz
  have hD := hD0.self (sz := s.heap.size)
  generalize hAe : va_A [(h, .inr (0, [.null, .null, .null, .int 0]))] s.heap.size = A at hD ⊢
  have hA : ∀ q : Nat, s.heap.size ≤ q → A q := fun q h => by rw [← hAe]; exact Or.inr h
  have hS : va_S A s.heap s.heap [] := va_S.rf
  have hl := lv_entry ([.ref h]) (n := 1) (Nat.le_of_ble_eq_true rfl)
  rw [lg_entry_eq]
  generalize (lg_sl ([.ref h]) ++ List.replicate (1 - (lg_sl ([.ref h])).length) Slot.unset).toArray = ls at hl ⊢
  have hl : lv_has ls 1 [(0, .ref h)] := hl
  have hws : ∀ w ∈ wsX10, w ∈ wsX1_init := (fun w hw => List.mem_cons_of_mem _ (List.mem_append_right _ hw))
  refine lv_aload_n hx hb dX1_init_0 rfl (lv_at hl 0 rfl) ?_
  refine W.objInit hx hb hown (hts (.methodLink RX1 3 objectInit) (by decide +kernel)) (hts (.instanceMethod objectInit) (by decide +kernel)) (hts (.code objectInit ⟨#[0xb1]⟩ 1 none) (by decide +kernel)) rfl (by rw [hml]; exact hl.1) rfl dX1_init_1 (Nat.le_of_ble_eq_true rfl) (Nat.le_of_ble_eq_true rfl) ?_
  refine W.eq (g2 := F0 m 4 ls []) rfl ?_
  refine lv_aload_n hx hb dX1_init_4 rfl (lv_at hl 0 rfl) ?_
  refine lv_bipush (v := 12) hx hb dX1_init_5 (by decide) ?_
  refine va_newq (C := RX2) (n := 12) (N' := 12) hx hb hown (hts (.classLink RX1 9 RX2) (by decide +kernel)) hAO hK hP hD hS hA (by decide) (by decide) (by decide +kernel) (by decide +kernel) (by decide +kernel) dX1_init_7 (fun q0 c0 H hK hP hD hS => ?_)
  have hP : va_P (dC, dI) vwCl [(h, .inr (0, [.null, .null, .null, .int 0])), (q0, .inl (c0, 12, .inr (.inr (.inr (.inr (fun _ => none))))))] H := hP
  have hD : va_D A [(h, .inr (0, [.null, .null, .null, .int 0])), (q0, .inl (c0, 12, .inr (.inr (.inr (.inr (fun _ => none))))))] := hD
  have hK : va_K (dC, dI) vwCl [(c0, .object "DeskStack$Row")] s := hK
  refine W.widen (k := 1) (n := 12) (by omega) (by omega) ?_
  refine va_putF (D := (dC, dI)) (ci := 0) (v := .ref q0) (ty := .array (.object "DeskStack$Row")) (C := RX1) (T := TX1) (N := 4) hx hb hts hws tyX1 tyX1_ok nmX1 hown hK hP hD hS 0 rfl rfl 0 (by decide) (hts (.fieldLink RX1 11 "DeskStack$Nest" "rows" "[LDeskStack$Row;") (by decide +kernel)) (fun _ h9 => h9) rfl hin rfl (by decide +kernel) rfl rfl (Nat.le_of_ble_eq_true rfl) dX1_init_10 (fun H locs hP hD hS => ?_)
  have hP : va_P (dC, dI) vwCl [(h, .inr (0, [.ref q0, .null, .null, .int 0])), (q0, .inl (c0, 12, .inr (.inr (.inr (.inr (fun _ => none))))))] H := hP
  have hD : va_D A [(h, .inr (0, [.ref q0, .null, .null, .int 0])), (q0, .inl (c0, 12, .inr (.inr (.inr (.inr (fun _ => none))))))] := hD
  refine lv_aload_n hx hb dX1_init_13 rfl (lv_at hl 0 rfl) ?_
  refine lv_bipush (v := 12) hx hb dX1_init_14 (by decide) ?_
  refine va_newa (atype := .int) (n := 12) (ty := .int) (a0 := (12, .inl (fun _ => 0))) (N' := 12) hx hb (hts (.arrayClass .int) (by decide +kernel)) rfl hK hP hD hS hA (fun cA => rfl) (by decide) (by decide) (by decide +kernel) (by decide +kernel) (by decide +kernel) dX1_init_16 (fun q1 c1 H hK hP hD hS => ?_)
  have hP : va_P (dC, dI) vwCl [(h, .inr (0, [.ref q0, .null, .null, .int 0])), (q0, .inl (c0, 12, .inr (.inr (.inr (.inr (fun _ => none)))))), (q1, .inl (c1, 12, .inl (fun _ => 0)))] H := hP
  have hD : va_D A [(h, .inr (0, [.ref q0, .null, .null, .int 0])), (q0, .inl (c0, 12, .inr (.inr (.inr (.inr (fun _ => none)))))), (q1, .inl (c1, 12, .inl (fun _ => 0)))] := hD
  have hK : va_K (dC, dI) vwCl [(c0, .object "DeskStack$Row"), (c1, .int)] s := hK
  refine W.widen (k := 2) (n := 24) (by omega) (by omega) ?_
  refine va_putF (D := (dC, dI)) (ci := 0) (v := .ref q1) (ty := .array (.int)) (C := RX1) (T := TX1) (N := 4) hx hb hts hws tyX1 tyX1_ok nmX1 hown hK hP hD hS 0 rfl rfl 1 (by decide) (hts (.fieldLink RX1 17 "DeskStack$Nest" "positions" "[I") (by decide +kernel)) (fun _ h9 => h9) rfl hin rfl (by decide +kernel) rfl rfl (Nat.le_of_ble_eq_true rfl) dX1_init_18 (fun H locs hP hD hS => ?_)
  have hP : va_P (dC, dI) vwCl [(h, .inr (0, [.ref q0, .ref q1, .null, .int 0])), (q0, .inl (c0, 12, .inr (.inr (.inr (.inr (fun _ => none)))))), (q1, .inl (c1, 12, .inl (fun _ => 0)))] H := hP
  have hD : va_D A [(h, .inr (0, [.ref q0, .ref q1, .null, .int 0])), (q0, .inl (c0, 12, .inr (.inr (.inr (.inr (fun _ => none)))))), (q1, .inl (c1, 12, .inl (fun _ => 0)))] := hD
  refine lv_aload_n hx hb dX1_init_21 rfl (lv_at hl 0 rfl) ?_
  refine lv_bipush (v := 12) hx hb dX1_init_22 (by decide) ?_
  refine va_newa (atype := .int) (n := 12) (ty := .int) (a0 := (12, .inl (fun _ => 0))) (N' := 12) hx hb (hts (.arrayClass .int) (by decide +kernel)) rfl hK hP hD hS hA (fun cA => rfl) (by decide) (by decide) (by decide +kernel) (by decide +kernel) (by decide +kernel) dX1_init_24 (fun q2 c2 H hK hP hD hS => ?_)
  have hP : va_P (dC, dI) vwCl [(h, .inr (0, [.ref q0, .ref q1, .null, .int 0])), (q0, .inl (c0, 12, .inr (.inr (.inr (.inr (fun _ => none)))))), (q1, .inl (c1, 12, .inl (fun _ => 0))), (q2, .inl (c2, 12, .inl (fun _ => 0)))] H := hP
  have hD : va_D A [(h, .inr (0, [.ref q0, .ref q1, .null, .int 0])), (q0, .inl (c0, 12, .inr (.inr (.inr (.inr (fun _ => none)))))), (q1, .inl (c1, 12, .inl (fun _ => 0))), (q2, .inl (c2, 12, .inl (fun _ => 0)))] := hD
  have hK : va_K (dC, dI) vwCl [(c0, .object "DeskStack$Row"), (c1, .int), (c2, .int)] s := hK
  refine W.widen (k := 3) (n := 36) (by omega) (by omega) ?_
  refine va_putF (D := (dC, dI)) (ci := 0) (v := .ref q2) (ty := .array (.int)) (C := RX1) (T := TX1) (N := 4) hx hb hts hws tyX1 tyX1_ok nmX1 hown hK hP hD hS 0 rfl rfl 2 (by decide) (hts (.fieldLink RX1 21 "DeskStack$Nest" "ends" "[I") (by decide +kernel)) (fun _ h9 => h9) rfl hin rfl (by decide +kernel) rfl rfl (Nat.le_of_ble_eq_true rfl) dX1_init_26 (fun H locs hP hD hS => ?_)
  have hP : va_P (dC, dI) vwCl [(h, .inr (0, [.ref q0, .ref q1, .ref q2, .int 0])), (q0, .inl (c0, 12, .inr (.inr (.inr (.inr (fun _ => none)))))), (q1, .inl (c1, 12, .inl (fun _ => 0))), (q2, .inl (c2, 12, .inl (fun _ => 0)))] H := hP
  have hD : va_D A [(h, .inr (0, [.ref q0, .ref q1, .ref q2, .int 0])), (q0, .inl (c0, 12, .inr (.inr (.inr (.inr (fun _ => none)))))), (q1, .inl (c1, 12, .inl (fun _ => 0))), (q2, .inl (c2, 12, .inl (fun _ => 0)))] := hD
  refine lv_aload_n hx hb dX1_init_29 rfl (lv_at hl 0 rfl) ?_
  refine lv_iconst (v := 0) hx hb dX1_init_30 (by decide) ?_
  refine va_put (D := (dC, dI)) (ci := 0) (v := .int 0) (ty := .int) (C := RX1) (T := TX1) (N := 4) hx hb hts hws tyX1 tyX1_ok nmX1 hown hK hP hD hS 0 rfl rfl 3 (by decide) (hts (.fieldLink RX1 24 "DeskStack$Nest" "count" "I") (by decide +kernel)) (fun _ h9 => h9) rfl (by decide +kernel) rfl rfl (Nat.le_of_ble_eq_true rfl) dX1_init_31 (fun H locs hP hD hS => ?_)
  have hP : va_P (dC, dI) vwCl [(h, .inr (0, [.ref q0, .ref q1, .ref q2, .int 0])), (q0, .inl (c0, 12, .inr (.inr (.inr (.inr (fun _ => none)))))), (q1, .inl (c1, 12, .inl (fun _ => 0))), (q2, .inl (c2, 12, .inl (fun _ => 0)))] H := hP
  have hD : va_D A [(h, .inr (0, [.ref q0, .ref q1, .ref q2, .int 0])), (q0, .inl (c0, 12, .inr (.inr (.inr (.inr (fun _ => none)))))), (q1, .inl (c1, 12, .inl (fun _ => 0))), (q2, .inl (c2, 12, .inl (fun _ => 0)))] := hD
  have e2 : c1 = c2 := Option.some.inj ((show s.vm.findClass ("[" ++ (FieldType.int).toString) = some c1 from (hK.2 1 _ rfl).2).symm.trans (hK.2 2 _ rfl).2)
  subst e2
  have hK9 := hK.sub (tys' := [(c0, .object "DeskStack$Row"), (c1, .int)]) [0, 1] rfl
  exact W.vret hx hb hr (fun t ht hW => ⟨⟨(fun k => match k with | 0 => c0 | _ => c1, fun k => match k with | 0 => q0 | 1 => q1 | _ => q2), rfl, trivial, by rw [ht]; exact hP, va_K.moved hW.alike hK9, hD⟩, hS.F ht⟩) hS.2.2 dX1_init_34
def shW (h L : Nat) (u : (Nat → ClassId) × (Nat → Nat)) : va_W := [(h, .inr (2, [.ref (u.2 0), .ref (u.2 1), .ref (u.2 2), .ref (u.2 3), .int 0])), (u.2 0, .inl (u.1 0, L, .inr (.inl (fun _ => 0)))), (u.2 1, .inl (u.1 1, L, .inl (fun _ => 0))), (u.2 2, .inl (u.1 2, L, .inr (.inr (.inr (.inr (fun _ => none)))))), (u.2 3, .inl (u.1 1, L, .inl (fun _ => 0)))]
def shT (u : (Nat → ClassId) × (Nat → Nat)) : List (ClassId × FieldType) := [(u.1 0, .long), (u.1 1, .int), (u.1 2, .object "DeskStack$Row")]
set_option maxHeartbeats 4000000 in
set_option maxRecDepth 100000 in
theorem c_Xsh_init40 (l : Launch) (dC : Nat → ClassId) (dI : Nat → Nat → Nat) (h sz : Nat) : Met l yX3_init wsX3_init ({ frames := 1, cells := 4, slots := 160, locals := 12 }) (va_Pc [.ref h, .int 40] (fun U => U.heap.size = sz ∧ va_P (dC, dI) vwCl [(h, .inr (2, [.null, .null, .null, .null, .int 0]))] U.heap ∧ va_K (dC, dI) vwCl [] U ∧ va_D (fun _ => True) [(h, .inr (2, [.null, .null, .null, .null, .int 0]))] ∧ va_AO "DeskStack$Row" U)) (va_Qv (fun _ : (Nat → ClassId) × (Nat → Nat) => True) (fun u t => va_P (dC, dI) vwCl (shW h 40 u) t.heap ∧ va_K (dC, dI) vwCl (shT u) t ∧ va_D (va_A [(h, .inr (2, [.null, .null, .null, .null, .int 0]))] sz) (shW h 40 u)) (va_A [(h, .inr (2, [.null, .null, .null, .null, .int 0]))] sz)) 4 160 (va_A [(h, .inr (2, [.null, .null, .null, .null, .int 0]))] sz) := by
  refine Met.ofW (cc := cX3_init) (maxL := 3) (ret := none) (by decide) rfl ?_
  intro p e s m args below meth c s₁ B hml hv
  obtain ⟨rfl, hsz, hP, hK, hD0, hAO⟩ := hv
  have hx := B.exec
  have hb := B.bytes
  have hr := B.returns
  have hts := atoms_spec (ws := wsX3_init) B.pre
  have hown : s.vm.findClass RX3 = some m.cls := findClass_of_methodNamed B.named
  have hlocks := B.notSynchronized
  have hin : meth.name = "<init>" := (name_of_methodNamed B.named B.method).1
  subst hsz
  have hD := hD0.self (sz := s.heap.size)
  generalize hAe : va_A [(h, .inr (2, [.null, .null, .null, .null, .int 0]))] s.heap.size = A at hD ⊢
  have hA : ∀ q : Nat, s.heap.size ≤ q → A q := fun q h => by rw [← hAe]; exact Or.inr h
  have hS : va_S A s.heap s.heap [] := va_S.rf
  have hl := lv_entry ([.ref h, .int 40]) (n := 3) (Nat.le_of_ble_eq_true rfl)
  rw [lg_entry_eq]
  generalize (lg_sl ([.ref h, .int 40]) ++ List.replicate (3 - (lg_sl ([.ref h, .int 40])).length) Slot.unset).toArray = ls at hl ⊢
  have hl : lv_has ls 3 [(0, .ref h), (1, .int 40)] := hl
  have hws : ∀ w ∈ wsX30, w ∈ wsX3_init := (fun w hw => List.mem_cons_of_mem _ (List.mem_append_right _ hw))
  refine lv_aload_n hx hb dX3_init_0 rfl (lv_at hl 0 rfl) ?_
  refine W.objInit hx hb hown (hts (.methodLink RX3 3 objectInit) (by decide +kernel)) (hts (.instanceMethod objectInit) (by decide +kernel)) (hts (.code objectInit ⟨#[0xb1]⟩ 1 none) (by decide +kernel)) rfl (by rw [hml]; exact hl.1) rfl dX3_init_1 (Nat.le_of_ble_eq_true rfl) (Nat.le_of_ble_eq_true rfl) ?_
  refine W.eq (g2 := F0 m 4 ls []) rfl ?_
  refine lv_iload_n hx hb dX3_init_4 rfl (lv_at hl 1 rfl) ?_
  refine lv_if_ge (tgt := 12) hx hb dX3_init_5 (by decide) (fun c9 => ?_) (fun c9 => absurd (by decide) c9)
  refine lv_iload_n hx hb dX3_init_12 rfl (lv_at hl 1 rfl) ?_
  refine lv_istore_n (lv' := [(2, .int 40), (0, .ref h), (1, .int 40)]) hx hb dX3_init_13 rfl hl (by decide) rfl (fun ls hl => ?_)
  refine lv_aload_n hx hb dX3_init_14 rfl (lv_at hl 1 rfl) ?_
  refine lv_iload_n hx hb dX3_init_15 rfl (lv_at hl 0 rfl) ?_
  refine va_newa (atype := .long) (n := 40) (ty := .long) (a0 := (40, .inr (.inl (fun _ => 0)))) (N' := 40) hx hb (hts (.arrayClass .long) (by decide +kernel)) rfl hK hP hD hS hA (fun cA => rfl) (by decide) (by decide) (by decide +kernel) (by decide +kernel) (by decide +kernel) dX3_init_16 (fun q0 c0 H hK hP hD hS => ?_)
  have hP : va_P (dC, dI) vwCl [(h, .inr (2, [.null, .null, .null, .null, .int 0])), (q0, .inl (c0, 40, .inr (.inl (fun _ => 0))))] H := hP
  have hD : va_D A [(h, .inr (2, [.null, .null, .null, .null, .int 0])), (q0, .inl (c0, 40, .inr (.inl (fun _ => 0))))] := hD
  have hK : va_K (dC, dI) vwCl [(c0, .long)] s := hK
  refine W.widen (k := 1) (n := 40) (by omega) (by omega) ?_
  refine va_putF (D := (dC, dI)) (ci := 2) (v := .ref q0) (ty := .array (.long)) (C := RX3) (T := TX3) (N := 5) hx hb hts hws tyX3 tyX3_ok nmX3 hown hK hP hD hS 0 rfl rfl 0 (by decide) (hts (.fieldLink RX3 9 "DeskStack$Shelf" "values" "[J") (by decide +kernel)) (fun _ h9 => h9) rfl hin rfl (by decide +kernel) rfl rfl (Nat.le_of_ble_eq_true rfl) dX3_init_18 (fun H locs hP hD hS => ?_)
  have hP : va_P (dC, dI) vwCl [(h, .inr (2, [.ref q0, .null, .null, .null, .int 0])), (q0, .inl (c0, 40, .inr (.inl (fun _ => 0))))] H := hP
  have hD : va_D A [(h, .inr (2, [.ref q0, .null, .null, .null, .int 0])), (q0, .inl (c0, 40, .inr (.inl (fun _ => 0))))] := hD
  refine lv_aload_n hx hb dX3_init_21 rfl (lv_at hl 1 rfl) ?_
  refine lv_iload_n hx hb dX3_init_22 rfl (lv_at hl 0 rfl) ?_
  refine va_newa (atype := .int) (n := 40) (ty := .int) (a0 := (40, .inl (fun _ => 0))) (N' := 40) hx hb (hts (.arrayClass .int) (by decide +kernel)) rfl hK hP hD hS hA (fun cA => rfl) (by decide) (by decide) (by decide +kernel) (by decide +kernel) (by decide +kernel) dX3_init_23 (fun q1 c1 H hK hP hD hS => ?_)
  have hP : va_P (dC, dI) vwCl [(h, .inr (2, [.ref q0, .null, .null, .null, .int 0])), (q0, .inl (c0, 40, .inr (.inl (fun _ => 0)))), (q1, .inl (c1, 40, .inl (fun _ => 0)))] H := hP
  have hD : va_D A [(h, .inr (2, [.ref q0, .null, .null, .null, .int 0])), (q0, .inl (c0, 40, .inr (.inl (fun _ => 0)))), (q1, .inl (c1, 40, .inl (fun _ => 0)))] := hD
  have hK : va_K (dC, dI) vwCl [(c0, .long), (c1, .int)] s := hK
  refine W.widen (k := 2) (n := 80) (by omega) (by omega) ?_
  refine va_putF (D := (dC, dI)) (ci := 2) (v := .ref q1) (ty := .array (.int)) (C := RX3) (T := TX3) (N := 5) hx hb hts hws tyX3 tyX3_ok nmX3 hown hK hP hD hS 0 rfl rfl 1 (by decide) (hts (.fieldLink RX3 15 "DeskStack$Shelf" "places" "[I") (by decide +kernel)) (fun _ h9 => h9) rfl hin rfl (by decide +kernel) rfl rfl (Nat.le_of_ble_eq_true rfl) dX3_init_25 (fun H locs hP hD hS => ?_)
  have hP : va_P (dC, dI) vwCl [(h, .inr (2, [.ref q0, .ref q1, .null, .null, .int 0])), (q0, .inl (c0, 40, .inr (.inl (fun _ => 0)))), (q1, .inl (c1, 40, .inl (fun _ => 0)))] H := hP
  have hD : va_D A [(h, .inr (2, [.ref q0, .ref q1, .null, .null, .int 0])), (q0, .inl (c0, 40, .inr (.inl (fun _ => 0)))), (q1, .inl (c1, 40, .inl (fun _ => 0)))] := hD
  refine lv_aload_n hx hb dX3_init_28 rfl (lv_at hl 1 rfl) ?_
  refine lv_iload_n hx hb dX3_init_29 rfl (lv_at hl 0 rfl) ?_
  refine va_newq (C := RX2) (n := 40) (N' := 40) hx hb hown (hts (.classLink RX3 19 RX2) (by decide +kernel)) hAO hK hP hD hS hA (by decide) (by decide) (by decide +kernel) (by decide +kernel) (by decide +kernel) dX3_init_30 (fun q2 c2 H hK hP hD hS => ?_)
  have hP : va_P (dC, dI) vwCl [(h, .inr (2, [.ref q0, .ref q1, .null, .null, .int 0])), (q0, .inl (c0, 40, .inr (.inl (fun _ => 0)))), (q1, .inl (c1, 40, .inl (fun _ => 0))), (q2, .inl (c2, 40, .inr (.inr (.inr (.inr (fun _ => none))))))] H := hP
  have hD : va_D A [(h, .inr (2, [.ref q0, .ref q1, .null, .null, .int 0])), (q0, .inl (c0, 40, .inr (.inl (fun _ => 0)))), (q1, .inl (c1, 40, .inl (fun _ => 0))), (q2, .inl (c2, 40, .inr (.inr (.inr (.inr (fun _ => none))))))] := hD
  have hK : va_K (dC, dI) vwCl [(c0, .long), (c1, .int), (c2, .object "DeskStack$Row")] s := hK
  refine W.widen (k := 3) (n := 120) (by omega) (by omega) ?_
  refine va_putF (D := (dC, dI)) (ci := 2) (v := .ref q2) (ty := .array (.object "DeskStack$Row")) (C := RX3) (T := TX3) (N := 5) hx hb hts hws tyX3 tyX3_ok nmX3 hown hK hP hD hS 0 rfl rfl 2 (by decide) (hts (.fieldLink RX3 21 "DeskStack$Shelf" "rows" "[LDeskStack$Row;") (by decide +kernel)) (fun _ h9 => h9) rfl hin rfl (by decide +kernel) rfl rfl (Nat.le_of_ble_eq_true rfl) dX3_init_33 (fun H locs hP hD hS => ?_)
  have hP : va_P (dC, dI) vwCl [(h, .inr (2, [.ref q0, .ref q1, .ref q2, .null, .int 0])), (q0, .inl (c0, 40, .inr (.inl (fun _ => 0)))), (q1, .inl (c1, 40, .inl (fun _ => 0))), (q2, .inl (c2, 40, .inr (.inr (.inr (.inr (fun _ => none))))))] H := hP
  have hD : va_D A [(h, .inr (2, [.ref q0, .ref q1, .ref q2, .null, .int 0])), (q0, .inl (c0, 40, .inr (.inl (fun _ => 0)))), (q1, .inl (c1, 40, .inl (fun _ => 0))), (q2, .inl (c2, 40, .inr (.inr (.inr (.inr (fun _ => none))))))] := hD
  refine lv_aload_n hx hb dX3_init_36 rfl (lv_at hl 1 rfl) ?_
  refine lv_iload_n hx hb dX3_init_37 rfl (lv_at hl 0 rfl) ?_
  refine va_newa (atype := .int) (n := 40) (ty := .int) (a0 := (40, .inl (fun _ => 0))) (N' := 40) hx hb (hts (.arrayClass .int) (by decide +kernel)) rfl hK hP hD hS hA (fun cA => rfl) (by decide) (by decide) (by decide +kernel) (by decide +kernel) (by decide +kernel) dX3_init_38 (fun q3 c3 H hK hP hD hS => ?_)
  have hP : va_P (dC, dI) vwCl [(h, .inr (2, [.ref q0, .ref q1, .ref q2, .null, .int 0])), (q0, .inl (c0, 40, .inr (.inl (fun _ => 0)))), (q1, .inl (c1, 40, .inl (fun _ => 0))), (q2, .inl (c2, 40, .inr (.inr (.inr (.inr (fun _ => none)))))), (q3, .inl (c3, 40, .inl (fun _ => 0)))] H := hP
  have hD : va_D A [(h, .inr (2, [.ref q0, .ref q1, .ref q2, .null, .int 0])), (q0, .inl (c0, 40, .inr (.inl (fun _ => 0)))), (q1, .inl (c1, 40, .inl (fun _ => 0))), (q2, .inl (c2, 40, .inr (.inr (.inr (.inr (fun _ => none)))))), (q3, .inl (c3, 40, .inl (fun _ => 0)))] := hD
  have hK : va_K (dC, dI) vwCl [(c0, .long), (c1, .int), (c2, .object "DeskStack$Row"), (c3, .int)] s := hK
  refine W.widen (k := 4) (n := 160) (by omega) (by omega) ?_
  refine va_putF (D := (dC, dI)) (ci := 2) (v := .ref q3) (ty := .array (.int)) (C := RX3) (T := TX3) (N := 5) hx hb hts hws tyX3 tyX3_ok nmX3 hown hK hP hD hS 0 rfl rfl 3 (by decide) (hts (.fieldLink RX3 25 "DeskStack$Shelf" "starts" "[I") (by decide +kernel)) (fun _ h9 => h9) rfl hin rfl (by decide +kernel) rfl rfl (Nat.le_of_ble_eq_true rfl) dX3_init_40 (fun H locs hP hD hS => ?_)
  have hP : va_P (dC, dI) vwCl [(h, .inr (2, [.ref q0, .ref q1, .ref q2, .ref q3, .int 0])), (q0, .inl (c0, 40, .inr (.inl (fun _ => 0)))), (q1, .inl (c1, 40, .inl (fun _ => 0))), (q2, .inl (c2, 40, .inr (.inr (.inr (.inr (fun _ => none)))))), (q3, .inl (c3, 40, .inl (fun _ => 0)))] H := hP
  have hD : va_D A [(h, .inr (2, [.ref q0, .ref q1, .ref q2, .ref q3, .int 0])), (q0, .inl (c0, 40, .inr (.inl (fun _ => 0)))), (q1, .inl (c1, 40, .inl (fun _ => 0))), (q2, .inl (c2, 40, .inr (.inr (.inr (.inr (fun _ => none)))))), (q3, .inl (c3, 40, .inl (fun _ => 0)))] := hD
  refine lv_aload_n hx hb dX3_init_43 rfl (lv_at hl 1 rfl) ?_
  refine lv_iconst (v := 0) hx hb dX3_init_44 (by decide) ?_
  refine va_put (D := (dC, dI)) (ci := 2) (v := .int 0) (ty := .int) (C := RX3) (T := TX3) (N := 5) hx hb hts hws tyX3 tyX3_ok nmX3 hown hK hP hD hS 0 rfl rfl 4 (by decide) (hts (.fieldLink RX3 28 "DeskStack$Shelf" "count" "I") (by decide +kernel)) (fun _ h9 => h9) rfl (by decide +kernel) rfl rfl (Nat.le_of_ble_eq_true rfl) dX3_init_45 (fun H locs hP hD hS => ?_)
  have hP : va_P (dC, dI) vwCl [(h, .inr (2, [.ref q0, .ref q1, .ref q2, .ref q3, .int 0])), (q0, .inl (c0, 40, .inr (.inl (fun _ => 0)))), (q1, .inl (c1, 40, .inl (fun _ => 0))), (q2, .inl (c2, 40, .inr (.inr (.inr (.inr (fun _ => none)))))), (q3, .inl (c3, 40, .inl (fun _ => 0)))] H := hP
  have hD : va_D A [(h, .inr (2, [.ref q0, .ref q1, .ref q2, .ref q3, .int 0])), (q0, .inl (c0, 40, .inr (.inl (fun _ => 0)))), (q1, .inl (c1, 40, .inl (fun _ => 0))), (q2, .inl (c2, 40, .inr (.inr (.inr (.inr (fun _ => none)))))), (q3, .inl (c3, 40, .inl (fun _ => 0)))] := hD
  have e3 : c1 = c3 := Option.some.inj ((show s.vm.findClass ("[" ++ (FieldType.int).toString) = some c1 from (hK.2 1 _ rfl).2).symm.trans (hK.2 3 _ rfl).2)
  subst e3
  have hK9 := hK.sub (tys' := [(c0, .long), (c1, .int), (c2, .object "DeskStack$Row")]) [0, 1, 2] rfl
  exact W.vret hx hb hr (fun t ht hW => ⟨⟨(fun k => match k with | 0 => c0 | 1 => c1 | _ => c2, fun k => match k with | 0 => q0 | 1 => q1 | 2 => q2 | _ => q3), rfl, trivial, by rw [ht]; exact hP, va_K.moved hW.alike hK9, hD⟩, hS.F ht⟩) hS.2.2 dX3_init_48
set_option maxHeartbeats 4000000 in
set_option maxRecDepth 100000 in
theorem c_Xsh_init10 (l : Launch) (dC : Nat → ClassId) (dI : Nat → Nat → Nat) (h sz : Nat) : Met l yX3_init wsX3_init ({ frames := 1, cells := 4, slots := 40, locals := 12 }) (va_Pc [.ref h, .int 10] (fun U => U.heap.size = sz ∧ va_P (dC, dI) vwCl [(h, .inr (2, [.null, .null, .null, .null, .int 0]))] U.heap ∧ va_K (dC, dI) vwCl [] U ∧ va_D (fun _ => True) [(h, .inr (2, [.null, .null, .null, .null, .int 0]))] ∧ va_AO "DeskStack$Row" U)) (va_Qv (fun _ : (Nat → ClassId) × (Nat → Nat) => True) (fun u t => va_P (dC, dI) vwCl (shW h 10 u) t.heap ∧ va_K (dC, dI) vwCl (shT u) t ∧ va_D (va_A [(h, .inr (2, [.null, .null, .null, .null, .int 0]))] sz) (shW h 10 u)) (va_A [(h, .inr (2, [.null, .null, .null, .null, .int 0]))] sz)) 4 40 (va_A [(h, .inr (2, [.null, .null, .null, .null, .int 0]))] sz) := by
  refine Met.ofW (cc := cX3_init) (maxL := 3) (ret := none) (by decide) rfl ?_
  intro p e s m args below meth c s₁ B hml hv
  obtain ⟨rfl, hsz, hP, hK, hD0, hAO⟩ := hv
  have hx := B.exec
  have hb := B.bytes
  have hr := B.returns
  have hts := atoms_spec (ws := wsX3_init) B.pre
  have hown : s.vm.findClass RX3 = some m.cls := findClass_of_methodNamed B.named
  have hlocks := B.notSynchronized
  have hin : meth.name = "<init>" := (name_of_methodNamed B.named B.method).1
  subst hsz
  have hD := hD0.self (sz := s.heap.size)
  generalize hAe : va_A [(h, .inr (2, [.null, .null, .null, .null, .int 0]))] s.heap.size = A at hD ⊢
  have hA : ∀ q : Nat, s.heap.size ≤ q → A q := fun q h => by rw [← hAe]; exact Or.inr h
  have hS : va_S A s.heap s.heap [] := va_S.rf
  have hl := lv_entry ([.ref h, .int 10]) (n := 3) (Nat.le_of_ble_eq_true rfl)
  rw [lg_entry_eq]
  generalize (lg_sl ([.ref h, .int 10]) ++ List.replicate (3 - (lg_sl ([.ref h, .int 10])).length) Slot.unset).toArray = ls at hl ⊢
  have hl : lv_has ls 3 [(0, .ref h), (1, .int 10)] := hl
  have hws : ∀ w ∈ wsX30, w ∈ wsX3_init := (fun w hw => List.mem_cons_of_mem _ (List.mem_append_right _ hw))
  refine lv_aload_n hx hb dX3_init_0 rfl (lv_at hl 0 rfl) ?_
  refine W.objInit hx hb hown (hts (.methodLink RX3 3 objectInit) (by decide +kernel)) (hts (.instanceMethod objectInit) (by decide +kernel)) (hts (.code objectInit ⟨#[0xb1]⟩ 1 none) (by decide +kernel)) rfl (by rw [hml]; exact hl.1) rfl dX3_init_1 (Nat.le_of_ble_eq_true rfl) (Nat.le_of_ble_eq_true rfl) ?_
  refine W.eq (g2 := F0 m 4 ls []) rfl ?_
  refine lv_iload_n hx hb dX3_init_4 rfl (lv_at hl 1 rfl) ?_
  refine lv_if_ge (tgt := 12) hx hb dX3_init_5 (by decide) (fun c9 => ?_) (fun c9 => absurd (by decide) c9)
  refine lv_iload_n hx hb dX3_init_12 rfl (lv_at hl 1 rfl) ?_
  refine lv_istore_n (lv' := [(2, .int 10), (0, .ref h), (1, .int 10)]) hx hb dX3_init_13 rfl hl (by decide) rfl (fun ls hl => ?_)
  refine lv_aload_n hx hb dX3_init_14 rfl (lv_at hl 1 rfl) ?_
  refine lv_iload_n hx hb dX3_init_15 rfl (lv_at hl 0 rfl) ?_
  refine va_newa (atype := .long) (n := 10) (ty := .long) (a0 := (10, .inr (.inl (fun _ => 0)))) (N' := 10) hx hb (hts (.arrayClass .long) (by decide +kernel)) rfl hK hP hD hS hA (fun cA => rfl) (by decide) (by decide) (by decide +kernel) (by decide +kernel) (by decide +kernel) dX3_init_16 (fun q0 c0 H hK hP hD hS => ?_)
  have hP : va_P (dC, dI) vwCl [(h, .inr (2, [.null, .null, .null, .null, .int 0])), (q0, .inl (c0, 10, .inr (.inl (fun _ => 0))))] H := hP
  have hD : va_D A [(h, .inr (2, [.null, .null, .null, .null, .int 0])), (q0, .inl (c0, 10, .inr (.inl (fun _ => 0))))] := hD
  have hK : va_K (dC, dI) vwCl [(c0, .long)] s := hK
  refine W.widen (k := 1) (n := 10) (by omega) (by omega) ?_
  refine va_putF (D := (dC, dI)) (ci := 2) (v := .ref q0) (ty := .array (.long)) (C := RX3) (T := TX3) (N := 5) hx hb hts hws tyX3 tyX3_ok nmX3 hown hK hP hD hS 0 rfl rfl 0 (by decide) (hts (.fieldLink RX3 9 "DeskStack$Shelf" "values" "[J") (by decide +kernel)) (fun _ h9 => h9) rfl hin rfl (by decide +kernel) rfl rfl (Nat.le_of_ble_eq_true rfl) dX3_init_18 (fun H locs hP hD hS => ?_)
  have hP : va_P (dC, dI) vwCl [(h, .inr (2, [.ref q0, .null, .null, .null, .int 0])), (q0, .inl (c0, 10, .inr (.inl (fun _ => 0))))] H := hP
  have hD : va_D A [(h, .inr (2, [.ref q0, .null, .null, .null, .int 0])), (q0, .inl (c0, 10, .inr (.inl (fun _ => 0))))] := hD
  refine lv_aload_n hx hb dX3_init_21 rfl (lv_at hl 1 rfl) ?_
  refine lv_iload_n hx hb dX3_init_22 rfl (lv_at hl 0 rfl) ?_
  refine va_newa (atype := .int) (n := 10) (ty := .int) (a0 := (10, .inl (fun _ => 0))) (N' := 10) hx hb (hts (.arrayClass .int) (by decide +kernel)) rfl hK hP hD hS hA (fun cA => rfl) (by decide) (by decide) (by decide +kernel) (by decide +kernel) (by decide +kernel) dX3_init_23 (fun q1 c1 H hK hP hD hS => ?_)
  have hP : va_P (dC, dI) vwCl [(h, .inr (2, [.ref q0, .null, .null, .null, .int 0])), (q0, .inl (c0, 10, .inr (.inl (fun _ => 0)))), (q1, .inl (c1, 10, .inl (fun _ => 0)))] H := hP
  have hD : va_D A [(h, .inr (2, [.ref q0, .null, .null, .null, .int 0])), (q0, .inl (c0, 10, .inr (.inl (fun _ => 0)))), (q1, .inl (c1, 10, .inl (fun _ => 0)))] := hD
  have hK : va_K (dC, dI) vwCl [(c0, .long), (c1, .int)] s := hK
  refine W.widen (k := 2) (n := 20) (by omega) (by omega) ?_
  refine va_putF (D := (dC, dI)) (ci := 2) (v := .ref q1) (ty := .array (.int)) (C := RX3) (T := TX3) (N := 5) hx hb hts hws tyX3 tyX3_ok nmX3 hown hK hP hD hS 0 rfl rfl 1 (by decide) (hts (.fieldLink RX3 15 "DeskStack$Shelf" "places" "[I") (by decide +kernel)) (fun _ h9 => h9) rfl hin rfl (by decide +kernel) rfl rfl (Nat.le_of_ble_eq_true rfl) dX3_init_25 (fun H locs hP hD hS => ?_)
  have hP : va_P (dC, dI) vwCl [(h, .inr (2, [.ref q0, .ref q1, .null, .null, .int 0])), (q0, .inl (c0, 10, .inr (.inl (fun _ => 0)))), (q1, .inl (c1, 10, .inl (fun _ => 0)))] H := hP
  have hD : va_D A [(h, .inr (2, [.ref q0, .ref q1, .null, .null, .int 0])), (q0, .inl (c0, 10, .inr (.inl (fun _ => 0)))), (q1, .inl (c1, 10, .inl (fun _ => 0)))] := hD
  refine lv_aload_n hx hb dX3_init_28 rfl (lv_at hl 1 rfl) ?_
  refine lv_iload_n hx hb dX3_init_29 rfl (lv_at hl 0 rfl) ?_
  refine va_newq (C := RX2) (n := 10) (N' := 10) hx hb hown (hts (.classLink RX3 19 RX2) (by decide +kernel)) hAO hK hP hD hS hA (by decide) (by decide) (by decide +kernel) (by decide +kernel) (by decide +kernel) dX3_init_30 (fun q2 c2 H hK hP hD hS => ?_)
  have hP : va_P (dC, dI) vwCl [(h, .inr (2, [.ref q0, .ref q1, .null, .null, .int 0])), (q0, .inl (c0, 10, .inr (.inl (fun _ => 0)))), (q1, .inl (c1, 10, .inl (fun _ => 0))), (q2, .inl (c2, 10, .inr (.inr (.inr (.inr (fun _ => none))))))] H := hP
  have hD : va_D A [(h, .inr (2, [.ref q0, .ref q1, .null, .null, .int 0])), (q0, .inl (c0, 10, .inr (.inl (fun _ => 0)))), (q1, .inl (c1, 10, .inl (fun _ => 0))), (q2, .inl (c2, 10, .inr (.inr (.inr (.inr (fun _ => none))))))] := hD
  have hK : va_K (dC, dI) vwCl [(c0, .long), (c1, .int), (c2, .object "DeskStack$Row")] s := hK
  refine W.widen (k := 3) (n := 30) (by omega) (by omega) ?_
  refine va_putF (D := (dC, dI)) (ci := 2) (v := .ref q2) (ty := .array (.object "DeskStack$Row")) (C := RX3) (T := TX3) (N := 5) hx hb hts hws tyX3 tyX3_ok nmX3 hown hK hP hD hS 0 rfl rfl 2 (by decide) (hts (.fieldLink RX3 21 "DeskStack$Shelf" "rows" "[LDeskStack$Row;") (by decide +kernel)) (fun _ h9 => h9) rfl hin rfl (by decide +kernel) rfl rfl (Nat.le_of_ble_eq_true rfl) dX3_init_33 (fun H locs hP hD hS => ?_)
  have hP : va_P (dC, dI) vwCl [(h, .inr (2, [.ref q0, .ref q1, .ref q2, .null, .int 0])), (q0, .inl (c0, 10, .inr (.inl (fun _ => 0)))), (q1, .inl (c1, 10, .inl (fun _ => 0))), (q2, .inl (c2, 10, .inr (.inr (.inr (.inr (fun _ => none))))))] H := hP
  have hD : va_D A [(h, .inr (2, [.ref q0, .ref q1, .ref q2, .null, .int 0])), (q0, .inl (c0, 10, .inr (.inl (fun _ => 0)))), (q1, .inl (c1, 10, .inl (fun _ => 0))), (q2, .inl (c2, 10, .inr (.inr (.inr (.inr (fun _ => none))))))] := hD
  refine lv_aload_n hx hb dX3_init_36 rfl (lv_at hl 1 rfl) ?_
  refine lv_iload_n hx hb dX3_init_37 rfl (lv_at hl 0 rfl) ?_
  refine va_newa (atype := .int) (n := 10) (ty := .int) (a0 := (10, .inl (fun _ => 0))) (N' := 10) hx hb (hts (.arrayClass .int) (by decide +kernel)) rfl hK hP hD hS hA (fun cA => rfl) (by decide) (by decide) (by decide +kernel) (by decide +kernel) (by decide +kernel) dX3_init_38 (fun q3 c3 H hK hP hD hS => ?_)
  have hP : va_P (dC, dI) vwCl [(h, .inr (2, [.ref q0, .ref q1, .ref q2, .null, .int 0])), (q0, .inl (c0, 10, .inr (.inl (fun _ => 0)))), (q1, .inl (c1, 10, .inl (fun _ => 0))), (q2, .inl (c2, 10, .inr (.inr (.inr (.inr (fun _ => none)))))), (q3, .inl (c3, 10, .inl (fun _ => 0)))] H := hP
  have hD : va_D A [(h, .inr (2, [.ref q0, .ref q1, .ref q2, .null, .int 0])), (q0, .inl (c0, 10, .inr (.inl (fun _ => 0)))), (q1, .inl (c1, 10, .inl (fun _ => 0))), (q2, .inl (c2, 10, .inr (.inr (.inr (.inr (fun _ => none)))))), (q3, .inl (c3, 10, .inl (fun _ => 0)))] := hD
  have hK : va_K (dC, dI) vwCl [(c0, .long), (c1, .int), (c2, .object "DeskStack$Row"), (c3, .int)] s := hK
  refine W.widen (k := 4) (n := 40) (by omega) (by omega) ?_
  refine va_putF (D := (dC, dI)) (ci := 2) (v := .ref q3) (ty := .array (.int)) (C := RX3) (T := TX3) (N := 5) hx hb hts hws tyX3 tyX3_ok nmX3 hown hK hP hD hS 0 rfl rfl 3 (by decide) (hts (.fieldLink RX3 25 "DeskStack$Shelf" "starts" "[I") (by decide +kernel)) (fun _ h9 => h9) rfl hin rfl (by decide +kernel) rfl rfl (Nat.le_of_ble_eq_true rfl) dX3_init_40 (fun H locs hP hD hS => ?_)
  have hP : va_P (dC, dI) vwCl [(h, .inr (2, [.ref q0, .ref q1, .ref q2, .ref q3, .int 0])), (q0, .inl (c0, 10, .inr (.inl (fun _ => 0)))), (q1, .inl (c1, 10, .inl (fun _ => 0))), (q2, .inl (c2, 10, .inr (.inr (.inr (.inr (fun _ => none)))))), (q3, .inl (c3, 10, .inl (fun _ => 0)))] H := hP
  have hD : va_D A [(h, .inr (2, [.ref q0, .ref q1, .ref q2, .ref q3, .int 0])), (q0, .inl (c0, 10, .inr (.inl (fun _ => 0)))), (q1, .inl (c1, 10, .inl (fun _ => 0))), (q2, .inl (c2, 10, .inr (.inr (.inr (.inr (fun _ => none)))))), (q3, .inl (c3, 10, .inl (fun _ => 0)))] := hD
  refine lv_aload_n hx hb dX3_init_43 rfl (lv_at hl 1 rfl) ?_
  refine lv_iconst (v := 0) hx hb dX3_init_44 (by decide) ?_
  refine va_put (D := (dC, dI)) (ci := 2) (v := .int 0) (ty := .int) (C := RX3) (T := TX3) (N := 5) hx hb hts hws tyX3 tyX3_ok nmX3 hown hK hP hD hS 0 rfl rfl 4 (by decide) (hts (.fieldLink RX3 28 "DeskStack$Shelf" "count" "I") (by decide +kernel)) (fun _ h9 => h9) rfl (by decide +kernel) rfl rfl (Nat.le_of_ble_eq_true rfl) dX3_init_45 (fun H locs hP hD hS => ?_)
  have hP : va_P (dC, dI) vwCl [(h, .inr (2, [.ref q0, .ref q1, .ref q2, .ref q3, .int 0])), (q0, .inl (c0, 10, .inr (.inl (fun _ => 0)))), (q1, .inl (c1, 10, .inl (fun _ => 0))), (q2, .inl (c2, 10, .inr (.inr (.inr (.inr (fun _ => none)))))), (q3, .inl (c3, 10, .inl (fun _ => 0)))] H := hP
  have hD : va_D A [(h, .inr (2, [.ref q0, .ref q1, .ref q2, .ref q3, .int 0])), (q0, .inl (c0, 10, .inr (.inl (fun _ => 0)))), (q1, .inl (c1, 10, .inl (fun _ => 0))), (q2, .inl (c2, 10, .inr (.inr (.inr (.inr (fun _ => none)))))), (q3, .inl (c3, 10, .inl (fun _ => 0)))] := hD
  have e3 : c1 = c3 := Option.some.inj ((show s.vm.findClass ("[" ++ (FieldType.int).toString) = some c1 from (hK.2 1 _ rfl).2).symm.trans (hK.2 3 _ rfl).2)
  subst e3
  have hK9 := hK.sub (tys' := [(c0, .long), (c1, .int), (c2, .object "DeskStack$Row")]) [0, 1, 2] rfl
  exact W.vret hx hb hr (fun t ht hW => ⟨⟨(fun k => match k with | 0 => c0 | 1 => c1 | _ => c2, fun k => match k with | 0 => q0 | 1 => q1 | 2 => q2 | _ => q3), rfl, trivial, by rw [ht]; exact hP, va_K.moved hW.alike hK9, hD⟩, hS.F ht⟩) hS.2.2 dX3_init_48
