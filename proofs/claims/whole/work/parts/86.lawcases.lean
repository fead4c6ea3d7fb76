def R_law : String := "DeskStackLaw"
def lw_P (b : Addr) (xs : List Int32) (args : Array Value) (s : State) : Prop := args = #[.ref b] ∧ s.IntsAt b xs ∧ xs.length ≤ 1536 ∧ (Jvm.Cond.and given_1 narrow_1).before args s = true
def lw_Q (_ : Array Value) (s : State) (o : Outcome) (t : State) : Prop := o = .returned (some (.int 1)) ∧ Framed s o t [] 601024 7293033
def lw_Z (below : List Frame) (a : Array Value) (s : State) : State → Prop := fun t => ∃ o, t.status = .running ∧ Ended t below o ∧ lw_Q a s o t
/-- the law's own end, with 1 on the stack, nothing written that was there before, its room as the claim has it -/
theorem lw_ret {p : Program} {l : Launch} {e : Env} {s : State} {m : MethodId} {below : List Frame} {meth : Method} {c : Code} {b : Nat} (hx : p.tables.exec = Jvm.exec) (hb : c.code = code) (hr : meth.sig.returnType = ret) (hlocks : meth.locks = false) {pc : Nat} {H : Heap} {ls : Array Slot} (hdg : decode code pc = .ok (.ireturn, 1)) : W p l e room_1 s m #[Value.ref b] below meth c H [] 601024 7293033 (lw_Z below #[Value.ref b] s) (F0 m pc ls [.int 1]) := by
  intro T hT X
  obtain ⟨fs, hret, hrun, hended, hW, hframe⟩ := X.leave (v := some (.int 1)) (hlocks := hlocks) (fun h => by rw [hr] at h; cases h)
  have hmeth' : T.vm.method? m = some meth := X.method'
  refine ⟨T.setFrames fs, ?_, .returned (some (.int 1)), hrun, hended, rfl, ⟨_, rfl⟩, hW, hframe⟩
  jvm_step X.here [X.here.top, hx, hb, hdg, hmeth', hr, ret, narrow_b1]
  (try refine ⟨rfl, ?_⟩); (try refine ⟨rfl, ?_⟩)
  first | (intro acts; rw [hret _ acts rfl rfl rfl]) | rw [hret _ _ rfl rfl rfl]
  exact Steps.refl _
/-- what holds at the law's entry: the machine, the code, the tables' words (any of lw_tbl by 'hts w (by decide +kernel)'), the script of L ints xs at the cell b, what the Statement gives of the start (any of its parts by flat_of_before) -/
def lw_At (p : Program) (s : State) (m : MethodId) (meth : Method) (c : Code) (b L : Nat) (xs : Nat → Int32) : Prop :=
  p.tables.exec = Jvm.exec ∧ c.code = code ∧ meth.sig.returnType = ret ∧ c.maxLocals = 7 ∧ s.vm.findClass R_law = some m.cls ∧ (∀ w ∈ lw_tbl, w.before #[Value.ref b] s = true) ∧ va_X b L xs s s.heap ∧ b < s.heap.size ∧ meth.locks = false ∧ (Jvm.Cond.and given_1 narrow_1).before #[Value.ref b] s = true
/-- what stays through the law -/
def lC (p : Program) (l : Launch) (s : State) (m : MethodId) (meth : Method) (c : Code) (b L : Nat) (xs : Nat → Int32) (dC : Nat → ClassId) (dI : Nat → Nat → Nat) (kc : Nat → ClassId) (cI cJ cO : ClassId) : Prop := p.tables.exec = Jvm.exec ∧ c.code = cL_law ∧ meth.sig.returnType = ret ∧ c.maxLocals = 7 ∧ s.vm.findClass RL = some m.cls ∧ (∀ w ∈ wsL_law, w.before #[Value.ref b] s = true) ∧ va_X b L xs s s.heap ∧ b < s.heap.size ∧ meth.locks = false ∧ va_K (dC, dI) vwCl (xT kc) s ∧ va_K (dC, dI) vwCl [(cI, .int), (cJ, .long)] s ∧ va_K (dC, dI) vwCl [(cO, .long)] s ∧ zX (fun q : Nat => s.heap.size ≤ q) s ∧ zC s ∧ l.stackTraces = false ∧ L ≤ 1536
/-- the next round -/
def nxt (p : Program) (l : Launch) (e : Env) (s : State) (m : MethodId) (below : List Frame) (meth : Method) (c : Code) (b : Nat) (dC : Nat → ClassId) (dI : Nat → Nat → Nat) (kc : Nat → ClassId) (cI cJ cO : ClassId) (h qo : Nat) (am ad : Nat → Nat) (i : Int32) (j : Nat) : Prop :=
  ∀ (ad' : Nat → Nat) (σ' : XS) (μ' : MS) (f' : Nat → Int64) (H' : Heap) (locs' : List Loc) (ls' : Array Slot), ad' 0 = ad 0 → PS σ' μ' → RI μ' → LG dC dI (xW kc ad' σ') (mW h am cI cJ μ') (oW qo cO f') (fun q : Nat => s.heap.size ≤ q) s.heap H' locs' → lv_has ls' 7 [(0, .ref b), (1, .ref (ad 0)), (2, .ref h), (3, .ref qo), (4, .int i)] → W p l e room_1 s m #[Value.ref b] below meth c H' locs' (50 + 2 * j + 2) (16217 + 162 * j + 162) (lw_Z below #[Value.ref b] s) (F0 m 420 ls' [])
theorem getv {α : Type} {F : α × MS} {x r2 : α} {μ u2 : MS} {σ : XS} (h : x = F.1 ∧ F.2 = si μ 17 0) (hw : F = (r2, u2)) (hP : PS σ μ) (hR : RI μ) : x = r2 ∧ PS σ u2 ∧ RI u2 := by
  subst hw
  obtain ⟨h1, h2⟩ := h
  have h2 : u2 = si μ 17 0 := h2
  subst h2
  exact ⟨h1, get_M hP hR⟩
set_option maxHeartbeats 4000000 in
set_option maxRecDepth 100000 in
theorem lw_cost {p : Program} {l : Launch} {e : Env} {s : State} {m : MethodId} {below : List Frame} {meth : Method} {c : Code} {b L : Nat} {xs : Nat → Int32} {dC : Nat → ClassId} {dI : Nat → Nat → Nat} {kc : Nat → ClassId} {cI cJ cO : ClassId} (C : lC p l s m meth c b L xs dC dI kc cI cJ cO) {h qo : Nat} {am ad : Nat → Nat} {i : Int32} {j : Nat} {σ : XS} {μ : MS} {f : Nat → Int64} (hi : i.toInt = 3 * (j : Int)) (hj : 3 * (j : Int) + 3 ≤ L) (hP : PS σ μ) (hR : RI μ) {H : Heap} {locs : List Loc} (G : LG dC dI (xW kc ad σ) (mW h am cI cJ μ) (oW qo cO f) (fun q : Nat => s.heap.size ≤ q) s.heap H locs) {ls : Array Slot} (hl : lv_has ls 7 [(0, .ref b), (1, .ref (ad 0)), (2, .ref h), (3, .ref qo), (4, .int i)]) (kk : nxt p l e s m below meth c b dC dI kc cI cJ cO h qo am ad i j) : W p l e room_1 s m #[Value.ref b] below meth c H locs (50 + 2 * j) (16217 + 162 * j) (lw_Z below #[Value.ref b] s) (F0 m 230 ls []) := by
  obtain ⟨hx, hb, hr, hml, hown, hts, hX, hbl, hlocks, hKx, hKm, hKo, hz, hC, hl9, hL⟩ := C
  have hA : ∀ q : Nat, s.heap.size ≤ q → (fun q : Nat => s.heap.size ≤ q) q := fun _ h => h
  have hbA : ¬ (fun q : Nat => s.heap.size ≤ q) b := Nat.not_le.mpr hbl
  have e1 : (i + 1).toInt = i.toInt + 1 := i_addE rfl (show (1 : Int32).toInt = 1 from rfl) (by omega) (by omega)
  have e2 : (i + 2).toInt = i.toInt + 2 := i_addE rfl (show (2 : Int32).toInt = 2 from rfl) (by omega) (by omega)
  have hcap : 50 + 2 * j ≤ room_1.cells ∧ 16217 + 162 * j ≤ room_1.slots := ⟨by show _ ≤ 601024; omega, by show _ ≤ 7293033; omega⟩
  refine lv_aload_n hx hb dL_law_230 rfl (lv_at hl 1 rfl) ?_
  refine l_xi (As := []) (rest := []) ⟨hx, hb, hml, hown, hts⟩ hKx hz hA G (c_Xdesk_cost l dC dI kc ad _ σ) (cwV 0 hts gL_law_X4_cost rfl rfl rfl (by decide +kernel) ⟨Nat.le_of_ble_eq_true rfl, Nat.le_of_ble_eq_true rfl⟩) rfl hl.1 rfl (Nat.le_of_ble_eq_true rfl) dL_law_231 hcap (fun r1 u1 H locs hw1 G => ?_)
  obtain ⟨hr1, hu1⟩ := hw1
  rw [hu1] at G
  refine lv_aload_n hx hb dL_law_234 rfl (lv_at hl 2 rfl) ?_
  refine l_mi (As := []) (rest := [.int r1]) ⟨hx, hb, hml, hown, hts⟩ hKm hA G (c_M_cost l dC dI cI cJ h am _ μ) (cwV 0 hts gL_law_X5_cost rfl rfl rfl (by decide +kernel) ⟨Nat.le_of_ble_eq_true rfl, Nat.le_of_ble_eq_true rfl⟩) rfl hl.1 rfl (Nat.le_of_ble_eq_true rfl) dL_law_235 hcap (fun r2 u2 H locs hw2 G => ?_)
  have hv := getv (cost_rel hP) hw2 hP hR
  rw [← hr1] at hv
  refine lv_icmp_eq (tgt := 420) hx hb dL_law_238 (by decide) (fun _ => ?_) (fun cn => absurd hv.1 cn)
  refine W.widen (k := 50 + 2 * j + 2) (n := 16217 + 162 * j + 162) (by omega) (by omega) ?_
  exact kk ad _ u2 f H locs ls rfl hv.2.1 hv.2.2 G hl
set_option maxHeartbeats 4000000 in
set_option maxRecDepth 100000 in
theorem lw_prints {p : Program} {l : Launch} {e : Env} {s : State} {m : MethodId} {below : List Frame} {meth : Method} {c : Code} {b L : Nat} {xs : Nat → Int32} {dC : Nat → ClassId} {dI : Nat → Nat → Nat} {kc : Nat → ClassId} {cI cJ cO : ClassId} (C : lC p l s m meth c b L xs dC dI kc cI cJ cO) {h qo : Nat} {am ad : Nat → Nat} {i : Int32} {j : Nat} {σ : XS} {μ : MS} {f : Nat → Int64} (hi : i.toInt = 3 * (j : Int)) (hj : 3 * (j : Int) + 3 ≤ L) (hP : PS σ μ) (hR : RI μ) {H : Heap} {locs : List Loc} (G : LG dC dI (xW kc ad σ) (mW h am cI cJ μ) (oW qo cO f) (fun q : Nat => s.heap.size ≤ q) s.heap H locs) {ls : Array Slot} (hl : lv_has ls 7 [(0, .ref b), (1, .ref (ad 0)), (2, .ref h), (3, .ref qo), (4, .int i)]) (kk : nxt p l e s m below meth c b dC dI kc cI cJ cO h qo am ad i j) : W p l e room_1 s m #[Value.ref b] below meth c H locs (50 + 2 * j) (16217 + 162 * j) (lw_Z below #[Value.ref b] s) (F0 m 243 ls []) := by
  obtain ⟨hx, hb, hr, hml, hown, hts, hX, hbl, hlocks, hKx, hKm, hKo, hz, hC, hl9, hL⟩ := C
  have hA : ∀ q : Nat, s.heap.size ≤ q → (fun q : Nat => s.heap.size ≤ q) q := fun _ h => h
  have hbA : ¬ (fun q : Nat => s.heap.size ≤ q) b := Nat.not_le.mpr hbl
  have e1 : (i + 1).toInt = i.toInt + 1 := i_addE rfl (show (1 : Int32).toInt = 1 from rfl) (by omega) (by omega)
  have e2 : (i + 2).toInt = i.toInt + 2 := i_addE rfl (show (2 : Int32).toInt = 2 from rfl) (by omega) (by omega)
  have hcap : 50 + 2 * j ≤ room_1.cells ∧ 16217 + 162 * j ≤ room_1.slots := ⟨by show _ ≤ 601024; omega, by show _ ≤ 7293033; omega⟩
  refine lv_aload_n hx hb dL_law_243 rfl (lv_at hl 1 rfl) ?_
  refine l_xi (As := []) (rest := []) ⟨hx, hb, hml, hown, hts⟩ hKx hz hA G (c_Xdesk_prints l dC dI kc ad _ σ) (cwV 0 hts gL_law_X4_prints rfl rfl rfl (by decide +kernel) ⟨Nat.le_of_ble_eq_true rfl, Nat.le_of_ble_eq_true rfl⟩) rfl hl.1 rfl (Nat.le_of_ble_eq_true rfl) dL_law_244 hcap (fun r1 u1 H locs hw1 G => ?_)
  obtain ⟨hr1, hu1⟩ := hw1
  rw [hu1] at G
  refine lv_aload_n hx hb dL_law_247 rfl (lv_at hl 2 rfl) ?_
  refine l_mi (As := []) (rest := [.int r1]) ⟨hx, hb, hml, hown, hts⟩ hKm hA G (c_M_prints l dC dI cI cJ h am _ μ) (cwV 0 hts gL_law_X5_prints rfl rfl rfl (by decide +kernel) ⟨Nat.le_of_ble_eq_true rfl, Nat.le_of_ble_eq_true rfl⟩) rfl hl.1 rfl (Nat.le_of_ble_eq_true rfl) dL_law_248 hcap (fun r2 u2 H locs hw2 G => ?_)
  have hv := getv (prints_rel hP) hw2 hP hR
  rw [← hr1] at hv
  refine lv_icmp_eq (tgt := 420) hx hb dL_law_251 (by decide) (fun _ => ?_) (fun cn => absurd hv.1 cn)
  refine W.widen (k := 50 + 2 * j + 2) (n := 16217 + 162 * j + 162) (by omega) (by omega) ?_
  exact kk ad _ u2 f H locs ls rfl hv.2.1 hv.2.2 G hl
set_option maxHeartbeats 4000000 in
set_option maxRecDepth 100000 in
theorem lw_printed {p : Program} {l : Launch} {e : Env} {s : State} {m : MethodId} {below : List Frame} {meth : Method} {c : Code} {b L : Nat} {xs : Nat → Int32} {dC : Nat → ClassId} {dI : Nat → Nat → Nat} {kc : Nat → ClassId} {cI cJ cO : ClassId} (C : lC p l s m meth c b L xs dC dI kc cI cJ cO) {h qo : Nat} {am ad : Nat → Nat} {i : Int32} {j : Nat} {σ : XS} {μ : MS} {f : Nat → Int64} (hi : i.toInt = 3 * (j : Int)) (hj : 3 * (j : Int) + 3 ≤ L) (hP : PS σ μ) (hR : RI μ) {H : Heap} {locs : List Loc} (G : LG dC dI (xW kc ad σ) (mW h am cI cJ μ) (oW qo cO f) (fun q : Nat => s.heap.size ≤ q) s.heap H locs) {ls : Array Slot} (hl : lv_has ls 7 [(0, .ref b), (1, .ref (ad 0)), (2, .ref h), (3, .ref qo), (4, .int i)]) (kk : nxt p l e s m below meth c b dC dI kc cI cJ cO h qo am ad i j) : W p l e room_1 s m #[Value.ref b] below meth c H locs (50 + 2 * j) (16217 + 162 * j) (lw_Z below #[Value.ref b] s) (F0 m 256 ls []) := by
  obtain ⟨hx, hb, hr, hml, hown, hts, hX, hbl, hlocks, hKx, hKm, hKo, hz, hC, hl9, hL⟩ := C
  have hA : ∀ q : Nat, s.heap.size ≤ q → (fun q : Nat => s.heap.size ≤ q) q := fun _ h => h
  have hbA : ¬ (fun q : Nat => s.heap.size ≤ q) b := Nat.not_le.mpr hbl
  have e1 : (i + 1).toInt = i.toInt + 1 := i_addE rfl (show (1 : Int32).toInt = 1 from rfl) (by omega) (by omega)
  have e2 : (i + 2).toInt = i.toInt + 2 := i_addE rfl (show (2 : Int32).toInt = 2 from rfl) (by omega) (by omega)
  have hcap : 50 + 2 * j ≤ room_1.cells ∧ 16217 + 162 * j ≤ room_1.slots := ⟨by show _ ≤ 601024; omega, by show _ ≤ 7293033; omega⟩
  refine lv_aload_n hx hb dL_law_256 rfl (lv_at hl 1 rfl) ?_
  refine lv_aload_n hx hb dL_law_257 rfl (lv_at hl 0 rfl) ?_
  refine lv_iload hx hb dL_law_258 (lv_at hl 4 rfl) ?_
  refine lv_iconst (v := 1) hx hb dL_law_260 (by decide) ?_
  refine lv_iadd hx hb dL_law_261 ?_
  refine va_sld hx hb hX hbl hbA G.2.2.2 (vin e1 (by omega) (by omega)) dL_law_262 ?_
  refine l_xl (As := [.int (xs (i + 1).toNatClampNeg)]) (rest := []) ⟨hx, hb, hml, hown, hts⟩ hKx hz hA G (c_Xdesk_printed l dC dI kc ad _ σ (xs (i + 1).toNatClampNeg)) (cwV 1 hts gL_law_X4_printed rfl rfl rfl (by decide +kernel) ⟨Nat.le_of_ble_eq_true rfl, Nat.le_of_ble_eq_true rfl⟩) rfl hl.1 rfl (Nat.le_of_ble_eq_true rfl) dL_law_263 hcap (fun r1 u1 H locs hw1 G => ?_)
  obtain ⟨hr1, hu1⟩ := hw1
  rw [hu1] at G
  refine lv_aload_n hx hb dL_law_266 rfl (lv_at hl 2 rfl) ?_
  refine lv_aload_n hx hb dL_law_267 rfl (lv_at hl 0 rfl) ?_
  refine lv_iload hx hb dL_law_268 (lv_at hl 4 rfl) ?_
  refine lv_iconst (v := 1) hx hb dL_law_270 (by decide) ?_
  refine lv_iadd hx hb dL_law_271 ?_
  refine va_sld hx hb hX hbl hbA G.2.2.2 (vin e1 (by omega) (by omega)) dL_law_272 ?_
  refine l_ml (As := [.int (xs (i + 1).toNatClampNeg)]) (rest := [.long r1]) ⟨hx, hb, hml, hown, hts⟩ hKm hA G (c_M_printed l dC dI cI cJ h am _ μ (xs (i + 1).toNatClampNeg) hR.2.1.1 hR.2.1.2) (cwV 1 hts gL_law_X5_printed rfl rfl rfl (by decide +kernel) ⟨Nat.le_of_ble_eq_true rfl, Nat.le_of_ble_eq_true rfl⟩) rfl hl.1 rfl (Nat.le_of_ble_eq_true rfl) dL_law_273 hcap (fun r2 u2 H locs hw2 G => ?_)
  have hv := getv (printed_rel (i := (xs (i + 1).toNatClampNeg)) hP).1 hw2 hP hR
  rw [← hr1] at hv
  refine W.lcmp hx hb dL_law_276 ?_
  refine lv_if_eq (tgt := 420) hx hb dL_law_277 (by decide) (fun _ => ?_) (fun cn => absurd ((l_cmp_eq _ _).mpr hv.1) cn)
  refine W.widen (k := 50 + 2 * j + 2) (n := 16217 + 162 * j + 162) (by omega) (by omega) ?_
  exact kk ad _ u2 f H locs ls rfl hv.2.1 hv.2.2 G hl
set_option maxHeartbeats 4000000 in
set_option maxRecDepth 100000 in
theorem lw_places {p : Program} {l : Launch} {e : Env} {s : State} {m : MethodId} {below : List Frame} {meth : Method} {c : Code} {b L : Nat} {xs : Nat → Int32} {dC : Nat → ClassId} {dI : Nat → Nat → Nat} {kc : Nat → ClassId} {cI cJ cO : ClassId} (C : lC p l s m meth c b L xs dC dI kc cI cJ cO) {h qo : Nat} {am ad : Nat → Nat} {i : Int32} {j : Nat} {σ : XS} {μ : MS} {f : Nat → Int64} (hi : i.toInt = 3 * (j : Int)) (hj : 3 * (j : Int) + 3 ≤ L) (hP : PS σ μ) (hR : RI μ) {H : Heap} {locs : List Loc} (G : LG dC dI (xW kc ad σ) (mW h am cI cJ μ) (oW qo cO f) (fun q : Nat => s.heap.size ≤ q) s.heap H locs) {ls : Array Slot} (hl : lv_has ls 7 [(0, .ref b), (1, .ref (ad 0)), (2, .ref h), (3, .ref qo), (4, .int i)]) (kk : nxt p l e s m below meth c b dC dI kc cI cJ cO h qo am ad i j) : W p l e room_1 s m #[Value.ref b] below meth c H locs (50 + 2 * j) (16217 + 162 * j) (lw_Z below #[Value.ref b] s) (F0 m 282 ls []) := by
  obtain ⟨hx, hb, hr, hml, hown, hts, hX, hbl, hlocks, hKx, hKm, hKo, hz, hC, hl9, hL⟩ := C
  have hA : ∀ q : Nat, s.heap.size ≤ q → (fun q : Nat => s.heap.size ≤ q) q := fun _ h => h
  have hbA : ¬ (fun q : Nat => s.heap.size ≤ q) b := Nat.not_le.mpr hbl
  have e1 : (i + 1).toInt = i.toInt + 1 := i_addE rfl (show (1 : Int32).toInt = 1 from rfl) (by omega) (by omega)
  have e2 : (i + 2).toInt = i.toInt + 2 := i_addE rfl (show (2 : Int32).toInt = 2 from rfl) (by omega) (by omega)
  have hcap : 50 + 2 * j ≤ room_1.cells ∧ 16217 + 162 * j ≤ room_1.slots := ⟨by show _ ≤ 601024; omega, by show _ ≤ 7293033; omega⟩
  refine lv_aload_n hx hb dL_law_282 rfl (lv_at hl 1 rfl) ?_
  refine lv_aload_n hx hb dL_law_283 rfl (lv_at hl 0 rfl) ?_
  refine lv_iload hx hb dL_law_284 (lv_at hl 4 rfl) ?_
  refine lv_iconst (v := 1) hx hb dL_law_286 (by decide) ?_
  refine lv_iadd hx hb dL_law_287 ?_
  refine va_sld hx hb hX hbl hbA G.2.2.2 (vin e1 (by omega) (by omega)) dL_law_288 ?_
  refine l_xi (As := [.int (xs (i + 1).toNatClampNeg)]) (rest := []) ⟨hx, hb, hml, hown, hts⟩ hKx hz hA G (c_Xdesk_places l dC dI kc ad _ σ (xs (i + 1).toNatClampNeg)) (cwV 1 hts gL_law_X4_places rfl rfl rfl (by decide +kernel) ⟨Nat.le_of_ble_eq_true rfl, Nat.le_of_ble_eq_true rfl⟩) rfl hl.1 rfl (Nat.le_of_ble_eq_true rfl) dL_law_289 hcap (fun r1 u1 H locs hw1 G => ?_)
  obtain ⟨hr1, hu1⟩ := hw1
  rw [hu1] at G
  refine lv_aload_n hx hb dL_law_292 rfl (lv_at hl 2 rfl) ?_
  refine lv_aload_n hx hb dL_law_293 rfl (lv_at hl 0 rfl) ?_
  refine lv_iload hx hb dL_law_294 (lv_at hl 4 rfl) ?_
  refine lv_iconst (v := 1) hx hb dL_law_296 (by decide) ?_
  refine lv_iadd hx hb dL_law_297 ?_
  refine va_sld hx hb hX hbl hbA G.2.2.2 (vin e1 (by omega) (by omega)) dL_law_298 ?_
  refine l_mi (As := [.int (xs (i + 1).toNatClampNeg)]) (rest := [.int r1]) ⟨hx, hb, hml, hown, hts⟩ hKm hA G (c_M_places l dC dI cI cJ h am _ μ (xs (i + 1).toNatClampNeg) hR.2.1.1 hR.2.1.2) (cwV 1 hts gL_law_X5_places rfl rfl rfl (by decide +kernel) ⟨Nat.le_of_ble_eq_true rfl, Nat.le_of_ble_eq_true rfl⟩) rfl hl.1 rfl (Nat.le_of_ble_eq_true rfl) dL_law_299 hcap (fun r2 u2 H locs hw2 G => ?_)
  have hv := getv (printed_rel (i := (xs (i + 1).toNatClampNeg)) hP).2 hw2 hP hR
  rw [← hr1] at hv
  refine lv_icmp_eq (tgt := 420) hx hb dL_law_302 (by decide) (fun _ => ?_) (fun cn => absurd hv.1 cn)
  refine W.widen (k := 50 + 2 * j + 2) (n := 16217 + 162 * j + 162) (by omega) (by omega) ?_
  exact kk ad _ u2 f H locs ls rfl hv.2.1 hv.2.2 G hl
set_option maxHeartbeats 4000000 in
set_option maxRecDepth 100000 in
theorem lw_depth {p : Program} {l : Launch} {e : Env} {s : State} {m : MethodId} {below : List Frame} {meth : Method} {c : Code} {b L : Nat} {xs : Nat → Int32} {dC : Nat → ClassId} {dI : Nat → Nat → Nat} {kc : Nat → ClassId} {cI cJ cO : ClassId} (C : lC p l s m meth c b L xs dC dI kc cI cJ cO) {h qo : Nat} {am ad : Nat → Nat} {i : Int32} {j : Nat} {σ : XS} {μ : MS} {f : Nat → Int64} (hi : i.toInt = 3 * (j : Int)) (hj : 3 * (j : Int) + 3 ≤ L) (hP : PS σ μ) (hR : RI μ) {H : Heap} {locs : List Loc} (G : LG dC dI (xW kc ad σ) (mW h am cI cJ μ) (oW qo cO f) (fun q : Nat => s.heap.size ≤ q) s.heap H locs) {ls : Array Slot} (hl : lv_has ls 7 [(0, .ref b), (1, .ref (ad 0)), (2, .ref h), (3, .ref qo), (4, .int i)]) (kk : nxt p l e s m below meth c b dC dI kc cI cJ cO h qo am ad i j) : W p l e room_1 s m #[Value.ref b] below meth c H locs (50 + 2 * j) (16217 + 162 * j) (lw_Z below #[Value.ref b] s) (F0 m 307 ls []) := by
  obtain ⟨hx, hb, hr, hml, hown, hts, hX, hbl, hlocks, hKx, hKm, hKo, hz, hC, hl9, hL⟩ := C
  have hA : ∀ q : Nat, s.heap.size ≤ q → (fun q : Nat => s.heap.size ≤ q) q := fun _ h => h
  have hbA : ¬ (fun q : Nat => s.heap.size ≤ q) b := Nat.not_le.mpr hbl
  have e1 : (i + 1).toInt = i.toInt + 1 := i_addE rfl (show (1 : Int32).toInt = 1 from rfl) (by omega) (by omega)
  have e2 : (i + 2).toInt = i.toInt + 2 := i_addE rfl (show (2 : Int32).toInt = 2 from rfl) (by omega) (by omega)
  have hcap : 50 + 2 * j ≤ room_1.cells ∧ 16217 + 162 * j ≤ room_1.slots := ⟨by show _ ≤ 601024; omega, by show _ ≤ 7293033; omega⟩
  refine lv_aload_n hx hb dL_law_307 rfl (lv_at hl 1 rfl) ?_
  refine l_xi (As := []) (rest := []) ⟨hx, hb, hml, hown, hts⟩ hKx hz hA G (c_Xdesk_depth l dC dI kc ad _ σ) (cwV 0 hts gL_law_X4_depth rfl rfl rfl (by decide +kernel) ⟨Nat.le_of_ble_eq_true rfl, Nat.le_of_ble_eq_true rfl⟩) rfl hl.1 rfl (Nat.le_of_ble_eq_true rfl) dL_law_308 hcap (fun r1 u1 H locs hw1 G => ?_)
  obtain ⟨hr1, hu1⟩ := hw1
  rw [hu1] at G
  refine lv_aload_n hx hb dL_law_311 rfl (lv_at hl 2 rfl) ?_
  refine l_mi (As := []) (rest := [.int r1]) ⟨hx, hb, hml, hown, hts⟩ hKm hA G (c_M_depth l dC dI cI cJ h am _ μ) (cwV 0 hts gL_law_X5_depth rfl rfl rfl (by decide +kernel) ⟨Nat.le_of_ble_eq_true rfl, Nat.le_of_ble_eq_true rfl⟩) rfl hl.1 rfl (Nat.le_of_ble_eq_true rfl) dL_law_312 hcap (fun r2 u2 H locs hw2 G => ?_)
  have hv := getv (depth_rel hP) hw2 hP hR
  rw [← hr1] at hv
  refine lv_icmp_eq (tgt := 420) hx hb dL_law_315 (by decide) (fun _ => ?_) (fun cn => absurd hv.1 cn)
  refine W.widen (k := 50 + 2 * j + 2) (n := 16217 + 162 * j + 162) (by omega) (by omega) ?_
  exact kk ad _ u2 f H locs ls rfl hv.2.1 hv.2.2 G hl
set_option maxHeartbeats 4000000 in
set_option maxRecDepth 100000 in
theorem lw_item {p : Program} {l : Launch} {e : Env} {s : State} {m : MethodId} {below : List Frame} {meth : Method} {c : Code} {b L : Nat} {xs : Nat → Int32} {dC : Nat → ClassId} {dI : Nat → Nat → Nat} {kc : Nat → ClassId} {cI cJ cO : ClassId} (C : lC p l s m meth c b L xs dC dI kc cI cJ cO) {h qo : Nat} {am ad : Nat → Nat} {i : Int32} {j : Nat} {σ : XS} {μ : MS} {f : Nat → Int64} (hi : i.toInt = 3 * (j : Int)) (hj : 3 * (j : Int) + 3 ≤ L) (hP : PS σ μ) (hR : RI μ) {H : Heap} {locs : List Loc} (G : LG dC dI (xW kc ad σ) (mW h am cI cJ μ) (oW qo cO f) (fun q : Nat => s.heap.size ≤ q) s.heap H locs) {ls : Array Slot} (hl : lv_has ls 7 [(0, .ref b), (1, .ref (ad 0)), (2, .ref h), (3, .ref qo), (4, .int i)]) (kk : nxt p l e s m below meth c b dC dI kc cI cJ cO h qo am ad i j) : W p l e room_1 s m #[Value.ref b] below meth c H locs (50 + 2 * j) (16217 + 162 * j) (lw_Z below #[Value.ref b] s) (F0 m 320 ls []) := by
  obtain ⟨hx, hb, hr, hml, hown, hts, hX, hbl, hlocks, hKx, hKm, hKo, hz, hC, hl9, hL⟩ := C
  have hA : ∀ q : Nat, s.heap.size ≤ q → (fun q : Nat => s.heap.size ≤ q) q := fun _ h => h
  have hbA : ¬ (fun q : Nat => s.heap.size ≤ q) b := Nat.not_le.mpr hbl
  have e1 : (i + 1).toInt = i.toInt + 1 := i_addE rfl (show (1 : Int32).toInt = 1 from rfl) (by omega) (by omega)
  have e2 : (i + 2).toInt = i.toInt + 2 := i_addE rfl (show (2 : Int32).toInt = 2 from rfl) (by omega) (by omega)
  have hcap : 50 + 2 * j ≤ room_1.cells ∧ 16217 + 162 * j ≤ room_1.slots := ⟨by show _ ≤ 601024; omega, by show _ ≤ 7293033; omega⟩
  refine lv_aload_n hx hb dL_law_320 rfl (lv_at hl 1 rfl) ?_
  refine lv_aload_n hx hb dL_law_321 rfl (lv_at hl 0 rfl) ?_
  refine lv_iload hx hb dL_law_322 (lv_at hl 4 rfl) ?_
  refine lv_iconst (v := 1) hx hb dL_law_324 (by decide) ?_
  refine lv_iadd hx hb dL_law_325 ?_
  refine va_sld hx hb hX hbl hbA G.2.2.2 (vin e1 (by omega) (by omega)) dL_law_326 ?_
  refine l_xl (As := [.int (xs (i + 1).toNatClampNeg)]) (rest := []) ⟨hx, hb, hml, hown, hts⟩ hKx hz hA G (c_Xdesk_item l dC dI kc ad _ σ (xs (i + 1).toNatClampNeg)) (cwV 1 hts gL_law_X4_item rfl rfl rfl (by decide +kernel) ⟨Nat.le_of_ble_eq_true rfl, Nat.le_of_ble_eq_true rfl⟩) rfl hl.1 rfl (Nat.le_of_ble_eq_true rfl) dL_law_327 hcap (fun r1 u1 H locs hw1 G => ?_)
  obtain ⟨hr1, hu1⟩ := hw1
  rw [hu1] at G
  refine lv_aload_n hx hb dL_law_330 rfl (lv_at hl 2 rfl) ?_
  refine lv_aload_n hx hb dL_law_331 rfl (lv_at hl 0 rfl) ?_
  refine lv_iload hx hb dL_law_332 (lv_at hl 4 rfl) ?_
  refine lv_iconst (v := 1) hx hb dL_law_334 (by decide) ?_
  refine lv_iadd hx hb dL_law_335 ?_
  refine va_sld hx hb hX hbl hbA G.2.2.2 (vin e1 (by omega) (by omega)) dL_law_336 ?_
  refine l_ml (As := [.int (xs (i + 1).toNatClampNeg)]) (rest := [.long r1]) ⟨hx, hb, hml, hown, hts⟩ hKm hA G (c_M_item l dC dI cI cJ h am _ μ (xs (i + 1).toNatClampNeg) hR.1.1 hR.1.2) (cwV 1 hts gL_law_X5_item rfl rfl rfl (by decide +kernel) ⟨Nat.le_of_ble_eq_true rfl, Nat.le_of_ble_eq_true rfl⟩) rfl hl.1 rfl (Nat.le_of_ble_eq_true rfl) dL_law_337 hcap (fun r2 u2 H locs hw2 G => ?_)
  have hv := getv (item_rel (i := (xs (i + 1).toNatClampNeg)) hP).1 hw2 hP hR
  rw [← hr1] at hv
  refine W.lcmp hx hb dL_law_340 ?_
  refine lv_if_eq (tgt := 420) hx hb dL_law_341 (by decide) (fun _ => ?_) (fun cn => absurd ((l_cmp_eq _ _).mpr hv.1) cn)
  refine W.widen (k := 50 + 2 * j + 2) (n := 16217 + 162 * j + 162) (by omega) (by omega) ?_
  exact kk ad _ u2 f H locs ls rfl hv.2.1 hv.2.2 G hl
set_option maxHeartbeats 4000000 in
set_option maxRecDepth 100000 in
theorem lw_scale {p : Program} {l : Launch} {e : Env} {s : State} {m : MethodId} {below : List Frame} {meth : Method} {c : Code} {b L : Nat} {xs : Nat → Int32} {dC : Nat → ClassId} {dI : Nat → Nat → Nat} {kc : Nat → ClassId} {cI cJ cO : ClassId} (C : lC p l s m meth c b L xs dC dI kc cI cJ cO) {h qo : Nat} {am ad : Nat → Nat} {i : Int32} {j : Nat} {σ : XS} {μ : MS} {f : Nat → Int64} (hi : i.toInt = 3 * (j : Int)) (hj : 3 * (j : Int) + 3 ≤ L) (hP : PS σ μ) (hR : RI μ) {H : Heap} {locs : List Loc} (G : LG dC dI (xW kc ad σ) (mW h am cI cJ μ) (oW qo cO f) (fun q : Nat => s.heap.size ≤ q) s.heap H locs) {ls : Array Slot} (hl : lv_has ls 7 [(0, .ref b), (1, .ref (ad 0)), (2, .ref h), (3, .ref qo), (4, .int i)]) (kk : nxt p l e s m below meth c b dC dI kc cI cJ cO h qo am ad i j) : W p l e room_1 s m #[Value.ref b] below meth c H locs (50 + 2 * j) (16217 + 162 * j) (lw_Z below #[Value.ref b] s) (F0 m 346 ls []) := by
  obtain ⟨hx, hb, hr, hml, hown, hts, hX, hbl, hlocks, hKx, hKm, hKo, hz, hC, hl9, hL⟩ := C
  have hA : ∀ q : Nat, s.heap.size ≤ q → (fun q : Nat => s.heap.size ≤ q) q := fun _ h => h
  have hbA : ¬ (fun q : Nat => s.heap.size ≤ q) b := Nat.not_le.mpr hbl
  have e1 : (i + 1).toInt = i.toInt + 1 := i_addE rfl (show (1 : Int32).toInt = 1 from rfl) (by omega) (by omega)
  have e2 : (i + 2).toInt = i.toInt + 2 := i_addE rfl (show (2 : Int32).toInt = 2 from rfl) (by omega) (by omega)
  have hcap : 50 + 2 * j ≤ room_1.cells ∧ 16217 + 162 * j ≤ room_1.slots := ⟨by show _ ≤ 601024; omega, by show _ ≤ 7293033; omega⟩
  refine lv_aload_n hx hb dL_law_346 rfl (lv_at hl 1 rfl) ?_
  refine lv_aload_n hx hb dL_law_347 rfl (lv_at hl 0 rfl) ?_
  refine lv_iload hx hb dL_law_348 (lv_at hl 4 rfl) ?_
  refine lv_iconst (v := 1) hx hb dL_law_350 (by decide) ?_
  refine lv_iadd hx hb dL_law_351 ?_
  refine va_sld hx hb hX hbl hbA G.2.2.2 (vin e1 (by omega) (by omega)) dL_law_352 ?_
  refine l_xi (As := [.int (xs (i + 1).toNatClampNeg)]) (rest := []) ⟨hx, hb, hml, hown, hts⟩ hKx hz hA G (c_Xdesk_scale l dC dI kc ad _ σ (xs (i + 1).toNatClampNeg)) (cwV 1 hts gL_law_X4_scale rfl rfl rfl (by decide +kernel) ⟨Nat.le_of_ble_eq_true rfl, Nat.le_of_ble_eq_true rfl⟩) rfl hl.1 rfl (Nat.le_of_ble_eq_true rfl) dL_law_353 hcap (fun r1 u1 H locs hw1 G => ?_)
  obtain ⟨hr1, hu1⟩ := hw1
  rw [hu1] at G
  refine lv_aload_n hx hb dL_law_356 rfl (lv_at hl 2 rfl) ?_
  refine lv_aload_n hx hb dL_law_357 rfl (lv_at hl 0 rfl) ?_
  refine lv_iload hx hb dL_law_358 (lv_at hl 4 rfl) ?_
  refine lv_iconst (v := 1) hx hb dL_law_360 (by decide) ?_
  refine lv_iadd hx hb dL_law_361 ?_
  refine va_sld hx hb hX hbl hbA G.2.2.2 (vin e1 (by omega) (by omega)) dL_law_362 ?_
  refine l_mi (As := [.int (xs (i + 1).toNatClampNeg)]) (rest := [.int r1]) ⟨hx, hb, hml, hown, hts⟩ hKm hA G (c_M_scale l dC dI cI cJ h am _ μ (xs (i + 1).toNatClampNeg) hR.1.1 hR.1.2) (cwV 1 hts gL_law_X5_scale rfl rfl rfl (by decide +kernel) ⟨Nat.le_of_ble_eq_true rfl, Nat.le_of_ble_eq_true rfl⟩) rfl hl.1 rfl (Nat.le_of_ble_eq_true rfl) dL_law_363 hcap (fun r2 u2 H locs hw2 G => ?_)
  have hv := getv (item_rel (i := (xs (i + 1).toNatClampNeg)) hP).2 hw2 hP hR
  rw [← hr1] at hv
  refine lv_icmp_eq (tgt := 420) hx hb dL_law_366 (by decide) (fun _ => ?_) (fun cn => absurd hv.1 cn)
  refine W.widen (k := 50 + 2 * j + 2) (n := 16217 + 162 * j + 162) (by omega) (by omega) ?_
  exact kk ad _ u2 f H locs ls rfl hv.2.1 hv.2.2 G hl
set_option maxHeartbeats 4000000 in
set_option maxRecDepth 100000 in
theorem lw_held {p : Program} {l : Launch} {e : Env} {s : State} {m : MethodId} {below : List Frame} {meth : Method} {c : Code} {b L : Nat} {xs : Nat → Int32} {dC : Nat → ClassId} {dI : Nat → Nat → Nat} {kc : Nat → ClassId} {cI cJ cO : ClassId} (C : lC p l s m meth c b L xs dC dI kc cI cJ cO) {h qo : Nat} {am ad : Nat → Nat} {i : Int32} {j : Nat} {σ : XS} {μ : MS} {f : Nat → Int64} (hi : i.toInt = 3 * (j : Int)) (hj : 3 * (j : Int) + 3 ≤ L) (hP : PS σ μ) (hR : RI μ) {H : Heap} {locs : List Loc} (G : LG dC dI (xW kc ad σ) (mW h am cI cJ μ) (oW qo cO f) (fun q : Nat => s.heap.size ≤ q) s.heap H locs) {ls : Array Slot} (hl : lv_has ls 7 [(0, .ref b), (1, .ref (ad 0)), (2, .ref h), (3, .ref qo), (4, .int i)]) (kk : nxt p l e s m below meth c b dC dI kc cI cJ cO h qo am ad i j) : W p l e room_1 s m #[Value.ref b] below meth c H locs (50 + 2 * j) (16217 + 162 * j) (lw_Z below #[Value.ref b] s) (F0 m 371 ls []) := by
  obtain ⟨hx, hb, hr, hml, hown, hts, hX, hbl, hlocks, hKx, hKm, hKo, hz, hC, hl9, hL⟩ := C
  have hA : ∀ q : Nat, s.heap.size ≤ q → (fun q : Nat => s.heap.size ≤ q) q := fun _ h => h
  have hbA : ¬ (fun q : Nat => s.heap.size ≤ q) b := Nat.not_le.mpr hbl
  have e1 : (i + 1).toInt = i.toInt + 1 := i_addE rfl (show (1 : Int32).toInt = 1 from rfl) (by omega) (by omega)
  have e2 : (i + 2).toInt = i.toInt + 2 := i_addE rfl (show (2 : Int32).toInt = 2 from rfl) (by omega) (by omega)
  have hcap : 50 + 2 * j ≤ room_1.cells ∧ 16217 + 162 * j ≤ room_1.slots := ⟨by show _ ≤ 601024; omega, by show _ ≤ 7293033; omega⟩
  refine lv_aload_n hx hb dL_law_371 rfl (lv_at hl 1 rfl) ?_
  refine lv_aload_n hx hb dL_law_372 rfl (lv_at hl 0 rfl) ?_
  refine lv_iload hx hb dL_law_373 (lv_at hl 4 rfl) ?_
  refine lv_iconst (v := 1) hx hb dL_law_375 (by decide) ?_
  refine lv_iadd hx hb dL_law_376 ?_
  refine va_sld hx hb hX hbl hbA G.2.2.2 (vin e1 (by omega) (by omega)) dL_law_377 ?_
  refine l_xi (As := [.int (xs (i + 1).toNatClampNeg)]) (rest := []) ⟨hx, hb, hml, hown, hts⟩ hKx hz hA G (c_Xdesk_held l dC dI kc ad _ σ (xs (i + 1).toNatClampNeg)) (cwV 1 hts gL_law_X4_held rfl rfl rfl (by decide +kernel) ⟨Nat.le_of_ble_eq_true rfl, Nat.le_of_ble_eq_true rfl⟩) rfl hl.1 rfl (Nat.le_of_ble_eq_true rfl) dL_law_378 hcap (fun r1 u1 H locs hw1 G => ?_)
  obtain ⟨hr1, hu1⟩ := hw1
  rw [hu1] at G
  refine lv_aload_n hx hb dL_law_381 rfl (lv_at hl 2 rfl) ?_
  refine lv_aload_n hx hb dL_law_382 rfl (lv_at hl 0 rfl) ?_
  refine lv_iload hx hb dL_law_383 (lv_at hl 4 rfl) ?_
  refine lv_iconst (v := 1) hx hb dL_law_385 (by decide) ?_
  refine lv_iadd hx hb dL_law_386 ?_
  refine va_sld hx hb hX hbl hbA G.2.2.2 (vin e1 (by omega) (by omega)) dL_law_387 ?_
  refine l_mi (As := [.int (xs (i + 1).toNatClampNeg)]) (rest := [.int r1]) ⟨hx, hb, hml, hown, hts⟩ hKm hA G (c_M_held l dC dI cI cJ h am _ μ (xs (i + 1).toNatClampNeg)) (cwV 1 hts gL_law_X5_held rfl rfl rfl (by decide +kernel) ⟨Nat.le_of_ble_eq_true rfl, Nat.le_of_ble_eq_true rfl⟩) rfl hl.1 rfl (Nat.le_of_ble_eq_true rfl) dL_law_388 hcap (fun r2 u2 H locs hw2 G => ?_)
  have hv := getv (held_rel (r := (xs (i + 1).toNatClampNeg)) hP) hw2 hP hR
  rw [← hr1] at hv
  refine lv_icmp_eq (tgt := 420) hx hb dL_law_391 (by decide) (fun _ => ?_) (fun cn => absurd hv.1 cn)
  refine W.widen (k := 50 + 2 * j + 2) (n := 16217 + 162 * j + 162) (by omega) (by omega) ?_
  exact kk ad _ u2 f H locs ls rfl hv.2.1 hv.2.2 G hl
set_option maxHeartbeats 4000000 in
set_option maxRecDepth 100000 in
theorem lw_precision {p : Program} {l : Launch} {e : Env} {s : State} {m : MethodId} {below : List Frame} {meth : Method} {c : Code} {b L : Nat} {xs : Nat → Int32} {dC : Nat → ClassId} {dI : Nat → Nat → Nat} {kc : Nat → ClassId} {cI cJ cO : ClassId} (C : lC p l s m meth c b L xs dC dI kc cI cJ cO) {h qo : Nat} {am ad : Nat → Nat} {i : Int32} {j : Nat} {σ : XS} {μ : MS} {f : Nat → Int64} (hi : i.toInt = 3 * (j : Int)) (hj : 3 * (j : Int) + 3 ≤ L) (hP : PS σ μ) (hR : RI μ) {H : Heap} {locs : List Loc} (G : LG dC dI (xW kc ad σ) (mW h am cI cJ μ) (oW qo cO f) (fun q : Nat => s.heap.size ≤ q) s.heap H locs) {ls : Array Slot} (hl : lv_has ls 7 [(0, .ref b), (1, .ref (ad 0)), (2, .ref h), (3, .ref qo), (4, .int i)]) (kk : nxt p l e s m below meth c b dC dI kc cI cJ cO h qo am ad i j) : W p l e room_1 s m #[Value.ref b] below meth c H locs (50 + 2 * j) (16217 + 162 * j) (lw_Z below #[Value.ref b] s) (F0 m 396 ls []) := by
  obtain ⟨hx, hb, hr, hml, hown, hts, hX, hbl, hlocks, hKx, hKm, hKo, hz, hC, hl9, hL⟩ := C
  have hA : ∀ q : Nat, s.heap.size ≤ q → (fun q : Nat => s.heap.size ≤ q) q := fun _ h => h
  have hbA : ¬ (fun q : Nat => s.heap.size ≤ q) b := Nat.not_le.mpr hbl
  have e1 : (i + 1).toInt = i.toInt + 1 := i_addE rfl (show (1 : Int32).toInt = 1 from rfl) (by omega) (by omega)
  have e2 : (i + 2).toInt = i.toInt + 2 := i_addE rfl (show (2 : Int32).toInt = 2 from rfl) (by omega) (by omega)
  have hcap : 50 + 2 * j ≤ room_1.cells ∧ 16217 + 162 * j ≤ room_1.slots := ⟨by show _ ≤ 601024; omega, by show _ ≤ 7293033; omega⟩
  refine lv_aload_n hx hb dL_law_396 rfl (lv_at hl 1 rfl) ?_
  refine l_xi (As := []) (rest := []) ⟨hx, hb, hml, hown, hts⟩ hKx hz hA G (c_Xdesk_precision l dC dI kc ad _ σ) (cwV 0 hts gL_law_X4_precision rfl rfl rfl (by decide +kernel) ⟨Nat.le_of_ble_eq_true rfl, Nat.le_of_ble_eq_true rfl⟩) rfl hl.1 rfl (Nat.le_of_ble_eq_true rfl) dL_law_397 hcap (fun r1 u1 H locs hw1 G => ?_)
  obtain ⟨hr1, hu1⟩ := hw1
  rw [hu1] at G
  refine lv_aload_n hx hb dL_law_400 rfl (lv_at hl 2 rfl) ?_
  refine l_mi (As := []) (rest := [.int r1]) ⟨hx, hb, hml, hown, hts⟩ hKm hA G (c_M_precision l dC dI cI cJ h am _ μ) (cwV 0 hts gL_law_X5_precision rfl rfl rfl (by decide +kernel) ⟨Nat.le_of_ble_eq_true rfl, Nat.le_of_ble_eq_true rfl⟩) rfl hl.1 rfl (Nat.le_of_ble_eq_true rfl) dL_law_401 hcap (fun r2 u2 H locs hw2 G => ?_)
  have hv := getv (prec_rel hP) hw2 hP hR
  rw [← hr1] at hv
  refine lv_icmp_eq (tgt := 420) hx hb dL_law_404 (by decide) (fun _ => ?_) (fun cn => absurd hv.1 cn)
  refine W.widen (k := 50 + 2 * j + 2) (n := 16217 + 162 * j + 162) (by omega) (by omega) ?_
  exact kk ad _ u2 f H locs ls rfl hv.2.1 hv.2.2 G hl
set_option maxHeartbeats 4000000 in
set_option maxRecDepth 100000 in
theorem lw_reset {p : Program} {l : Launch} {e : Env} {s : State} {m : MethodId} {below : List Frame} {meth : Method} {c : Code} {b L : Nat} {xs : Nat → Int32} {dC : Nat → ClassId} {dI : Nat → Nat → Nat} {kc : Nat → ClassId} {cI cJ cO : ClassId} (C : lC p l s m meth c b L xs dC dI kc cI cJ cO) {h qo : Nat} {am ad : Nat → Nat} {i : Int32} {j : Nat} {σ : XS} {μ : MS} {f : Nat → Int64} (hi : i.toInt = 3 * (j : Int)) (hj : 3 * (j : Int) + 3 ≤ L) (hP : PS σ μ) (hR : RI μ) {H : Heap} {locs : List Loc} (G : LG dC dI (xW kc ad σ) (mW h am cI cJ μ) (oW qo cO f) (fun q : Nat => s.heap.size ≤ q) s.heap H locs) {ls : Array Slot} (hl : lv_has ls 7 [(0, .ref b), (1, .ref (ad 0)), (2, .ref h), (3, .ref qo), (4, .int i)]) (kk : nxt p l e s m below meth c b dC dI kc cI cJ cO h qo am ad i j) : W p l e room_1 s m #[Value.ref b] below meth c H locs (50 + 2 * j) (16217 + 162 * j) (lw_Z below #[Value.ref b] s) (F0 m 409 ls []) := by
  obtain ⟨hx, hb, hr, hml, hown, hts, hX, hbl, hlocks, hKx, hKm, hKo, hz, hC, hl9, hL⟩ := C
  have hA : ∀ q : Nat, s.heap.size ≤ q → (fun q : Nat => s.heap.size ≤ q) q := fun _ h => h
  have hbA : ¬ (fun q : Nat => s.heap.size ≤ q) b := Nat.not_le.mpr hbl
  have e1 : (i + 1).toInt = i.toInt + 1 := i_addE rfl (show (1 : Int32).toInt = 1 from rfl) (by omega) (by omega)
  have e2 : (i + 2).toInt = i.toInt + 2 := i_addE rfl (show (2 : Int32).toInt = 2 from rfl) (by omega) (by omega)
  have hcap : 50 + 2 * j ≤ room_1.cells ∧ 16217 + 162 * j ≤ room_1.slots := ⟨by show _ ≤ 601024; omega, by show _ ≤ 7293033; omega⟩
  refine lv_aload_n hx hb dL_law_409 rfl (lv_at hl 1 rfl) ?_
  refine l_xv (As := []) (rest := []) ⟨hx, hb, hml, hown, hts⟩ hKx hz hA G (c_Xdesk_reset l dC dI kc ad _ σ) (cwV 0 hts gL_law_X4_reset rfl rfl rfl (by decide +kernel) ⟨Nat.le_of_ble_eq_true rfl, Nat.le_of_ble_eq_true rfl⟩) rfl hl.1 rfl (Nat.le_of_ble_eq_true rfl) dL_law_410 hcap (fun u1 H locs hw1 G => ?_)
  refine lv_aload_n hx hb dL_law_413 rfl (lv_at hl 2 rfl) ?_
  refine l_mv (As := []) (rest := []) ⟨hx, hb, hml, hown, hts⟩ hKm hA G (c_M_reset l dC dI cI cJ h am _ μ) (cwV 0 hts gL_law_X5_reset rfl rfl rfl (by decide +kernel) ⟨Nat.le_of_ble_eq_true rfl, Nat.le_of_ble_eq_true rfl⟩) rfl hl.1 rfl (Nat.le_of_ble_eq_true rfl) dL_law_414 hcap (fun u2 H locs hw2 G => ?_)
  rw [← hw1, ← hw2] at G
  have hv := reset_rel hP hR
  refine lv_goto (tgt := 420) hx hb dL_law_417 (by decide) ?_
  refine W.widen (k := 50 + 2 * j + 2) (n := 16217 + 162 * j + 162) (by omega) (by omega) ?_
  exact kk ad _ _ f H locs ls rfl hv.1 hv.2 G hl
set_option maxHeartbeats 4000000 in
set_option maxRecDepth 100000 in
theorem lw_write {p : Program} {l : Launch} {e : Env} {s : State} {m : MethodId} {below : List Frame} {meth : Method} {c : Code} {b L : Nat} {xs : Nat → Int32} {dC : Nat → ClassId} {dI : Nat → Nat → Nat} {kc : Nat → ClassId} {cI cJ cO : ClassId} (C : lC p l s m meth c b L xs dC dI kc cI cJ cO) {h qo : Nat} {am ad : Nat → Nat} {i : Int32} {j : Nat} {σ : XS} {μ : MS} {f : Nat → Int64} (hi : i.toInt = 3 * (j : Int)) (hj : 3 * (j : Int) + 3 ≤ L) (hP : PS σ μ) (hR : RI μ) {H : Heap} {locs : List Loc} (G : LG dC dI (xW kc ad σ) (mW h am cI cJ μ) (oW qo cO f) (fun q : Nat => s.heap.size ≤ q) s.heap H locs) {ls : Array Slot} (hl : lv_has ls 7 [(0, .ref b), (1, .ref (ad 0)), (2, .ref h), (3, .ref qo), (4, .int i)]) (kk : nxt p l e s m below meth c b dC dI kc cI cJ cO h qo am ad i j) : W p l e room_1 s m #[Value.ref b] below meth c H locs (50 + 2 * j) (16217 + 162 * j) (lw_Z below #[Value.ref b] s) (F0 m 104 ls []) := by
  obtain ⟨hx, hb, hr, hml, hown, hts, hX, hbl, hlocks, hKx, hKm, hKo, hz, hC, hl9, hL⟩ := C
  have hA : ∀ q : Nat, s.heap.size ≤ q → (fun q : Nat => s.heap.size ≤ q) q := fun _ h => h
  have hbA : ¬ (fun q : Nat => s.heap.size ≤ q) b := Nat.not_le.mpr hbl
  have e1 : (i + 1).toInt = i.toInt + 1 := i_addE rfl (show (1 : Int32).toInt = 1 from rfl) (by omega) (by omega)
  have e2 : (i + 2).toInt = i.toInt + 2 := i_addE rfl (show (2 : Int32).toInt = 2 from rfl) (by omega) (by omega)
  have hcap : 50 + 2 * j ≤ room_1.cells ∧ 16217 + 162 * j ≤ room_1.slots := ⟨by show _ ≤ 601024; omega, by show _ ≤ 7293033; omega⟩
  refine lv_aload_n hx hb dL_law_104 rfl (lv_at hl 1 rfl) ?_
  refine lv_aload_n hx hb dL_law_105 rfl (lv_at hl 0 rfl) ?_
  refine lv_iload hx hb dL_law_106 (lv_at hl 4 rfl) ?_
  refine lv_iconst (v := 1) hx hb dL_law_108 (by decide) ?_
  refine lv_iadd hx hb dL_law_109 ?_
  refine va_sld hx hb hX hbl hbA G.2.2.2 (vin e1 (by omega) (by omega)) dL_law_110 ?_
  refine lv_i2l hx hb dL_law_111 rfl ?_
  refine lv_bipush (v := 32) hx hb dL_law_112 (by decide) ?_
  refine lv_lshl hx hb dL_law_114 rfl ?_
  refine lv_aload_n hx hb dL_law_115 rfl (lv_at hl 0 rfl) ?_
  refine lv_iload hx hb dL_law_116 (lv_at hl 4 rfl) ?_
  refine lv_iconst (v := 2) hx hb dL_law_118 (by decide) ?_
  refine lv_iadd hx hb dL_law_119 ?_
  refine va_sld hx hb hX hbl hbA G.2.2.2 (vin e2 (by omega) (by omega)) dL_law_120 ?_
  refine lv_i2l hx hb dL_law_121 rfl ?_
  refine lv_ldc2 (v := 4294967295) hx hb hown (hts (.constantLong RL 27 (4294967295)) (by decide +kernel)) dL_law_122 ?_
  refine lv_land hx hb dL_law_125 ?_
  refine lv_lor hx hb dL_law_126 ?_
  refine l_xi (As := [.long (((xs (i + 1).toNatClampNeg).toInt64 <<< ((32 : Int32).toInt64 &&& 63)) ||| ((xs (i + 2).toNatClampNeg).toInt64 &&& 4294967295))]) (rest := []) ⟨hx, hb, hml, hown, hts⟩ hKx hz hA G (c_Xdesk_write l dC dI kc ad _ σ (((xs (i + 1).toNatClampNeg).toInt64 <<< ((32 : Int32).toInt64 &&& 63)) ||| ((xs (i + 2).toNatClampNeg).toInt64 &&& 4294967295)) hP.1 (by have q9 := hP.2.1 _ hP.1.2; exact ⟨q9.1, q9.2.1⟩)) (cwV 1 hts gL_law_X4_write rfl rfl rfl (by decide +kernel) ⟨Nat.le_of_ble_eq_true rfl, Nat.le_of_ble_eq_true rfl⟩) rfl hl.1 rfl (Nat.le_of_ble_eq_true rfl) dL_law_127 hcap (fun r1 u1 H locs hw1 G => ?_)
  refine lv_aload_n hx hb dL_law_130 rfl (lv_at hl 2 rfl) ?_
  refine lv_aload_n hx hb dL_law_131 rfl (lv_at hl 0 rfl) ?_
  refine lv_iload hx hb dL_law_132 (lv_at hl 4 rfl) ?_
  refine lv_iconst (v := 1) hx hb dL_law_134 (by decide) ?_
  refine lv_iadd hx hb dL_law_135 ?_
  refine va_sld hx hb hX hbl hbA G.2.2.2 (vin e1 (by omega) (by omega)) dL_law_136 ?_
  refine lv_i2l hx hb dL_law_137 rfl ?_
  refine lv_bipush (v := 32) hx hb dL_law_138 (by decide) ?_
  refine lv_lshl hx hb dL_law_140 rfl ?_
  refine lv_aload_n hx hb dL_law_141 rfl (lv_at hl 0 rfl) ?_
  refine lv_iload hx hb dL_law_142 (lv_at hl 4 rfl) ?_
  refine lv_iconst (v := 2) hx hb dL_law_144 (by decide) ?_
  refine lv_iadd hx hb dL_law_145 ?_
  refine va_sld hx hb hX hbl hbA G.2.2.2 (vin e2 (by omega) (by omega)) dL_law_146 ?_
  refine lv_i2l hx hb dL_law_147 rfl ?_
  refine lv_ldc2 (v := 4294967295) hx hb hown (hts (.constantLong RL 27 (4294967295)) (by decide +kernel)) dL_law_148 ?_
  refine lv_land hx hb dL_law_151 ?_
  refine lv_lor hx hb dL_law_152 ?_
  refine l_mi (As := [.long (((xs (i + 1).toNatClampNeg).toInt64 <<< ((32 : Int32).toInt64 &&& 63)) ||| ((xs (i + 2).toNatClampNeg).toInt64 &&& 4294967295))]) (rest := [.int r1]) ⟨hx, hb, hml, hown, hts⟩ hKm hA G (c_M_write l dC dI cI cJ h am _ μ (((xs (i + 1).toNatClampNeg).toInt64 <<< ((32 : Int32).toInt64 &&& 63)) ||| ((xs (i + 2).toNatClampNeg).toInt64 &&& 4294967295)) hR.2.2.2.2.2.2.2.2.2.1 hR.2.2.2.2.2.2.2.2.2.2) (cwV 1 hts gL_law_X5_write rfl rfl rfl (by decide +kernel) ⟨Nat.le_of_ble_eq_true rfl, Nat.le_of_ble_eq_true rfl⟩) rfl hl.1 rfl (Nat.le_of_ble_eq_true rfl) dL_law_153 hcap (fun r2 u2 H locs hw2 G => ?_)
  have hv := write_rel (a := (((xs (i + 1).toNatClampNeg).toInt64 <<< ((32 : Int32).toInt64 &&& 63)) ||| ((xs (i + 2).toNatClampNeg).toInt64 &&& 4294967295))) hP hR
  rw [hw1, hw2] at hv
  refine lv_icmp_eq (tgt := 420) hx hb dL_law_156 (by decide) (fun _ => ?_) (fun cn => absurd hv.1 cn)
  refine W.widen (k := 50 + 2 * j + 2) (n := 16217 + 162 * j + 162) (by omega) (by omega) ?_
  exact kk ad _ _ f H locs ls rfl hv.2.1 hv.2.2 G hl
set_option maxHeartbeats 4000000 in
set_option maxRecDepth 100000 in
theorem lw_erase {p : Program} {l : Launch} {e : Env} {s : State} {m : MethodId} {below : List Frame} {meth : Method} {c : Code} {b L : Nat} {xs : Nat → Int32} {dC : Nat → ClassId} {dI : Nat → Nat → Nat} {kc : Nat → ClassId} {cI cJ cO : ClassId} (C : lC p l s m meth c b L xs dC dI kc cI cJ cO) {h qo : Nat} {am ad : Nat → Nat} {i : Int32} {j : Nat} {σ : XS} {μ : MS} {f : Nat → Int64} (hi : i.toInt = 3 * (j : Int)) (hj : 3 * (j : Int) + 3 ≤ L) (hP : PS σ μ) (hR : RI μ) {H : Heap} {locs : List Loc} (G : LG dC dI (xW kc ad σ) (mW h am cI cJ μ) (oW qo cO f) (fun q : Nat => s.heap.size ≤ q) s.heap H locs) {ls : Array Slot} (hl : lv_has ls 7 [(0, .ref b), (1, .ref (ad 0)), (2, .ref h), (3, .ref qo), (4, .int i)]) (kk : nxt p l e s m below meth c b dC dI kc cI cJ cO h qo am ad i j) : W p l e room_1 s m #[Value.ref b] below meth c H locs (50 + 2 * j) (16217 + 162 * j) (lw_Z below #[Value.ref b] s) (F0 m 161 ls []) := by
  obtain ⟨hx, hb, hr, hml, hown, hts, hX, hbl, hlocks, hKx, hKm, hKo, hz, hC, hl9, hL⟩ := C
  have hA : ∀ q : Nat, s.heap.size ≤ q → (fun q : Nat => s.heap.size ≤ q) q := fun _ h => h
  have hbA : ¬ (fun q : Nat => s.heap.size ≤ q) b := Nat.not_le.mpr hbl
  have e1 : (i + 1).toInt = i.toInt + 1 := i_addE rfl (show (1 : Int32).toInt = 1 from rfl) (by omega) (by omega)
  have e2 : (i + 2).toInt = i.toInt + 2 := i_addE rfl (show (2 : Int32).toInt = 2 from rfl) (by omega) (by omega)
  have hcap : 50 + 2 * j ≤ room_1.cells ∧ 16217 + 162 * j ≤ room_1.slots := ⟨by show _ ≤ 601024; omega, by show _ ≤ 7293033; omega⟩
  refine lv_aload_n hx hb dL_law_161 rfl (lv_at hl 1 rfl) ?_
  by_cases hs : σ.1 σ.2.2.2.2.1 ≤ 0
  · refine l_xi (As := []) (rest := []) ⟨hx, hb, hml, hown, hts⟩ hKx hz hA G (c_Xdesk_erase0 l dC dI kc ad _ σ hP.1 hs) (cwV 0 hts gL_law_X4_erase rfl rfl rfl (by decide +kernel) ⟨Nat.le_of_ble_eq_true rfl, Nat.le_of_ble_eq_true rfl⟩) rfl hl.1 rfl (Nat.le_of_ble_eq_true rfl) dL_law_162 hcap (fun r1 u1 H locs hw1 G => ?_)
    obtain ⟨hr1, hu1⟩ := hw1
    rw [hu1] at G
    refine lv_aload_n hx hb dL_law_165 rfl (lv_at hl 2 rfl) ?_
    refine l_mi (As := []) (rest := [.int r1]) ⟨hx, hb, hml, hown, hts⟩ hKm hA G (c_M_erase l dC dI cI cJ h am _ μ) (cwV 0 hts gL_law_X5_erase rfl rfl rfl (by decide +kernel) ⟨Nat.le_of_ble_eq_true rfl, Nat.le_of_ble_eq_true rfl⟩) rfl hl.1 rfl (Nat.le_of_ble_eq_true rfl) dL_law_166 hcap (fun r2 u2 H locs hw2 G => ?_)
    have hv := erase0_rel hP hs
    have hm := erase_M hR
    have hm : RI (F_erase μ).2 := hm
    rw [hw2] at hv hm
    refine lv_icmp_eq (tgt := 420) hx hb dL_law_169 (by decide) (fun _ => ?_) (fun cn => absurd (hr1.trans hv.1) cn)
    refine W.widen (k := 50 + 2 * j + 2) (n := 16217 + 162 * j + 162) (by omega) (by omega) ?_
    exact kk ad _ _ f H locs ls rfl hv.2 hm G hl
  · refine l_xe (As := []) (rest := []) ⟨hx, hb, hml, hown, hts⟩ hKx hz hA G (c_Xdesk_erase1 l dC dI kc ad _ σ hP.1 hs) (cwV 0 hts gL_law_X4_erase rfl rfl rfl (by decide +kernel) ⟨Nat.le_of_ble_eq_true rfl, Nat.le_of_ble_eq_true rfl⟩) rfl hl.1 rfl (Nat.le_of_ble_eq_true rfl) dL_law_162 ⟨by show _ ≤ 601024; omega, by show _ ≤ 7293033; omega⟩ (fun r1 u1 H locs hw1 G => ?_)
    obtain ⟨hr1, hu1, hu2⟩ := hw1
    refine lv_aload_n hx hb dL_law_165 rfl (lv_at hl 2 rfl) ?_
    refine l_mi (As := []) (rest := [.int r1]) ⟨hx, hb, hml, hown, hts⟩ hKm hA G (c_M_erase l dC dI cI cJ h am _ μ) (cwV 0 hts gL_law_X5_erase rfl rfl rfl (by decide +kernel) ⟨Nat.le_of_ble_eq_true rfl, Nat.le_of_ble_eq_true rfl⟩) rfl hl.1 rfl (Nat.le_of_ble_eq_true rfl) dL_law_166 ⟨by show _ ≤ 601024; omega, by show _ ≤ 7293033; omega⟩ (fun r2 u2 H locs hw2 G => ?_)
    have hv := erase1_rel hP
    have hm := erase_M hR
    have hm : RI (F_erase μ).2 := hm
    rw [hw2] at hv hm
    rw [← hu1] at hv
    refine lv_icmp_eq (tgt := 420) hx hb dL_law_169 (by decide) (fun _ => ?_) (fun cn => absurd (hr1.trans hv.1) cn)
    exact kk u1.2 u1.1 _ f H locs ls (hu2 0 (by unfold xn; omega)) hv.2 hm G hl
set_option maxHeartbeats 4000000 in
set_option maxRecDepth 100000 in
theorem lw_run {p : Program} {l : Launch} {e : Env} {s : State} {m : MethodId} {below : List Frame} {meth : Method} {c : Code} {b L : Nat} {xs : Nat → Int32} {dC : Nat → ClassId} {dI : Nat → Nat → Nat} {kc : Nat → ClassId} {cI cJ cO : ClassId} (C : lC p l s m meth c b L xs dC dI kc cI cJ cO) {h qo : Nat} {am ad : Nat → Nat} {i : Int32} {j : Nat} {σ : XS} {μ : MS} {f : Nat → Int64} (hi : i.toInt = 3 * (j : Int)) (hj : 3 * (j : Int) + 3 ≤ L) (hP : PS σ μ) (hR : RI μ) {H : Heap} {locs : List Loc} (G : LG dC dI (xW kc ad σ) (mW h am cI cJ μ) (oW qo cO f) (fun q : Nat => s.heap.size ≤ q) s.heap H locs) {ls : Array Slot} (hl : lv_has ls 7 [(0, .ref b), (1, .ref (ad 0)), (2, .ref h), (3, .ref qo), (4, .int i)]) (kk : nxt p l e s m below meth c b dC dI kc cI cJ cO h qo am ad i j) : W p l e room_1 s m #[Value.ref b] below meth c H locs (50 + 2 * j) (16217 + 162 * j) (lw_Z below #[Value.ref b] s) (F0 m 174 ls []) := by
  obtain ⟨hx, hb, hr, hml, hown, hts, hX, hbl, hlocks, hKx, hKm, hKo, hz, hC, hl9, hL⟩ := C
  have hA : ∀ q : Nat, s.heap.size ≤ q → (fun q : Nat => s.heap.size ≤ q) q := fun _ h => h
  have hbA : ¬ (fun q : Nat => s.heap.size ≤ q) b := Nat.not_le.mpr hbl
  have e1 : (i + 1).toInt = i.toInt + 1 := i_addE rfl (show (1 : Int32).toInt = 1 from rfl) (by omega) (by omega)
  have e2 : (i + 2).toInt = i.toInt + 2 := i_addE rfl (show (2 : Int32).toInt = 2 from rfl) (by omega) (by omega)
  have hcap : 50 + 2 * j ≤ room_1.cells ∧ 16217 + 162 * j ≤ room_1.slots := ⟨by show _ ≤ 601024; omega, by show _ ≤ 7293033; omega⟩
  refine lv_aload_n hx hb dL_law_174 rfl (lv_at hl 1 rfl) ?_
  refine lv_aload_n hx hb dL_law_175 rfl (lv_at hl 0 rfl) ?_
  refine lv_iload hx hb dL_law_176 (lv_at hl 4 rfl) ?_
  refine lv_iconst (v := 1) hx hb dL_law_178 (by decide) ?_
  refine lv_iadd hx hb dL_law_179 ?_
  refine va_sld hx hb hX hbl hbA G.2.2.2 (vin e1 (by omega) (by omega)) dL_law_180 ?_
  refine lv_aload_n hx hb dL_law_181 rfl (lv_at hl 3 rfl) ?_
  refine l_run (n0 := (xs (i + 1).toNatClampNeg)) (rest := []) ⟨hx, hb, hml, hown, hts⟩ hKx hKo hz hC hA G (c_L_run l hl9 dC dI kc ad cO qo _ σ f (xs (i + 1).toNatClampNeg) hP.1) (vx_cwSW 3 hts gL_law_L_run rfl rfl rfl (by decide +kernel) ⟨Nat.le_of_ble_eq_true rfl, Nat.le_of_ble_eq_true rfl⟩) hl.1 rfl (Nat.le_of_ble_eq_true rfl) dL_law_182 ⟨by show _ ≤ 601024; omega, by show _ ≤ 7293033; omega⟩ (fun r1 u1 H locs hw1 G => ?_)
  obtain ⟨ux, fx⟩ := u1
  refine lv_istore (lv' := [(5, .int r1), (0, .ref b), (1, .ref (ad 0)), (2, .ref h), (3, .ref qo), (4, .int i)]) hx hb dL_law_185 hl (by decide) rfl (fun ls hl => ?_)
  refine lv_aload_n hx hb dL_law_187 rfl (lv_at hl 3 rfl) ?_
  refine lv_aload_n hx hb dL_law_188 rfl (lv_at hl 1 rfl) ?_
  refine lv_iload hx hb dL_law_189 (lv_at hl 5 rfl) ?_
  refine lv_iconst (v := 1) hx hb dL_law_191 (by decide) ?_
  refine lv_iadd hx hb dL_law_192 ?_
  refine va_sld hx hb hX hbl hbA G.2.2.2 (vin e1 (by omega) (by omega)) dL_law_193 ?_
  obtain ⟨rx, hrx⟩ : ∃ rx, Xdesk_run σ (xs (i + 1).toNatClampNeg) = rx := ⟨_, rfl⟩
  obtain ⟨rm, hrm⟩ : ∃ rm, F_run μ (xs (i + 1).toNatClampNeg) = rm := ⟨_, rfl⟩
  have hv := run_rel hP hR hrx hrm
  have hcap1 : 50 + 2 * j + 1 ≤ room_1.cells ∧ 16217 + 162 * j + 6 ≤ room_1.slots := ⟨by show _ ≤ 601024; omega, by show _ ≤ 7293033; omega⟩
  refine l_mi (As := [.int (xs (i + 1).toNatClampNeg)]) (rest := []) ⟨hx, hb, hml, hown, hts⟩ hKm hA G (c_M_run l dC dI cI cJ h am _ μ (xs (i + 1).toNatClampNeg) hR hv.2) (cwV 1 hts gL_law_X5_run rfl rfl rfl (by decide +kernel) ⟨Nat.le_of_ble_eq_true rfl, Nat.le_of_ble_eq_true rfl⟩) rfl hl.1 rfl (Nat.le_of_ble_eq_true rfl) dL_law_194 hcap1 (fun r2 u2 H locs hw2 G => ?_)
  refine lv_istore (lv' := [(6, .int r2), (5, .int r1), (0, .ref b), (1, .ref (ad 0)), (2, .ref h), (3, .ref qo), (4, .int i)]) hx hb dL_law_197 hl (by decide) rfl (fun ls hl => ?_)
  refine lv_aload_n hx hb dL_law_199 rfl (lv_at hl 4 rfl) ?_
  refine l_mi (As := []) (rest := []) ⟨hx, hb, hml, hown, hts⟩ hKm hA G (c_M_thrown l dC dI cI cJ h am _ u2) (cwV 0 hts gL_law_X5_thrown rfl rfl rfl (by decide +kernel) ⟨Nat.le_of_ble_eq_true rfl, Nat.le_of_ble_eq_true rfl⟩) rfl hl.1 rfl (Nat.le_of_ble_eq_true rfl) dL_law_200 hcap1 (fun r3 u3 H locs hw3 G => ?_)
  obtain ⟨hr3, hu3⟩ := hw3
  rw [hu3] at G
  refine lv_iload hx hb dL_law_203 (lv_at hl 1 rfl) ?_
  have hv1 := hv.1
  rw [hw2] at hrm
  rw [← hrm] at hv1
  rcases hw1 with ⟨v, hrun, hr1, hf1⟩ | ⟨E, hrun, hr1⟩
  · rw [hrx] at hrun
    rw [hrun] at hv1
    obtain ⟨v1, v2, v3, v4⟩ := hv1
    refine lv_icmp_eq (tgt := 210) hx hb dL_law_205 (by decide) (fun _ => ?_) (fun cn => absurd (hr3.trans (v2.trans hr1.symm)) cn)
    refine lv_iload hx hb dL_law_210 (lv_at hl 1 rfl) ?_
    refine lv_if_ne (tgt := 227) hx hb dL_law_212 (by decide) (fun cn => absurd hr1 cn) (fun _ => ?_)
    refine lv_aload_n hx hb dL_law_215 rfl (lv_at hl 5 rfl) ?_
    refine lv_iconst (v := 0) hx hb dL_law_216 (by decide) ?_
    refine va_lald hx hb hKo G.1.2.2 0 0 rfl rfl (by unfold vp_in; decide) dL_law_217 ?_
    refine lv_iload hx hb dL_law_218 (lv_at hl 0 rfl) ?_
    refine lv_i2l hx hb dL_law_220 rfl ?_
    refine W.lcmp hx hb dL_law_221 ?_
    have hf2 : fx (0 : Int32).toNatClampNeg = r2.toInt64 := by rw [show (0 : Int32).toNatClampNeg = 0 by decide]; have v1 : r2 = v := v1; rw [v1]; exact hf1
    refine lv_if_eq (tgt := 227) hx hb dL_law_222 (by decide) (fun _ => ?_) (fun cn => absurd ((l_cmp_eq _ _).mpr hf2) cn)
    refine lv_goto (tgt := 420) hx hb dL_law_227 (by decide) ?_
    refine W.widen (k := 50 + 2 * j + 2) (n := 16217 + 162 * j + 162) (by omega) (by omega) ?_
    exact kk ad ux _ fx H locs ls rfl v3 v4 G (lv_sub hl [2, 3, 4, 5, 6] rfl)
  · rw [hrx] at hrun
    rw [hrun] at hv1
    obtain ⟨v2, v3, v4⟩ := hv1
    refine lv_icmp_eq (tgt := 210) hx hb dL_law_205 (by decide) (fun _ => ?_) (fun cn => absurd (hr3.trans (v2.trans hr1.symm)) cn)
    refine lv_iload hx hb dL_law_210 (lv_at hl 1 rfl) ?_
    refine lv_if_ne (tgt := 227) hx hb dL_law_212 (by decide) (fun _ => ?_) (fun cn => absurd cn (fun e9 => xcd_ne.1 (hr1.symm.trans e9)))
    refine lv_goto (tgt := 420) hx hb dL_law_227 (by decide) ?_
    refine W.widen (k := 50 + 2 * j + 2) (n := 16217 + 162 * j + 162) (by omega) (by omega) ?_
    exact kk ad ux _ fx H locs ls rfl v3 v4 G (lv_sub hl [2, 3, 4, 5, 6] rfl)
