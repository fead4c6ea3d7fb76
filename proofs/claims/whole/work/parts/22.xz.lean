def zE : List String := ["java/lang/IllegalArgumentException", "java/lang/IllegalStateException", "java/lang/IndexOutOfBoundsException", "java/lang/ArithmeticException", "java/lang/UnsupportedOperationException"]
def zY : List String := ["java/lang/RuntimeException", "java/lang/Exception", "java/lang/Throwable"]
def zStr : List (String × Nat × String) := [("DeskStack", 147, "a number without a digit or with too many"), ("DeskStack", 160, "a text in brackets does not end"), ("DeskStack", 167, "the stack has too few items"), ("DeskStack", 179, "a number is wanted and the item is a text"), ("DeskStack", 236, "no command begins with this character"), ("DeskStack", 238, "a letter a to d is wanted and is not there"), ("DeskStack", 240, "the register has no item"), ("DeskStack", 259, "a text is wanted and the item is a number"), ("DeskStack", 58, "the fuel is not 0 .. 500"), ("DeskStack", 89, "the fuel is used up"), ("DeskStack$Decimal", 38, "more than 18 digits"), ("DeskStack$Decimal", 45, "y is 0"), ("DeskStack$Decimal", 56, "more than 9 places"), ("DeskStack$Decimal", 61, "y is below 0"), ("DeskStack$Decimal", 72, "y is no whole number 0 .. 9"), ("DeskStack$Nest", 30, "too many texts under way"), ("DeskStack$Shelf", 64, "too many items")]
def zN (U : State) : Prop := (∀ E ∈ zE, va_Nw (.castable E E) U) ∧ (∀ Y ∈ zY, va_Nw (.declares ⟨Y, "<init>", "(Ljava/lang/String;)V"⟩) U) ∧ ∀ q ∈ zStr, ∃ sa, vk_R q.1 q.2.1 q.2.2 sa U
theorem zN.warm {s U : State} (hW : s.WarmedH U.vm) (h : zN s) : zN U :=
  ⟨fun E hE => va_Nw.warmC hW (h.1 E hE), fun Y hY => va_Nw.warmD hW (h.2.1 Y hY), fun q hq => (h.2.2 q hq).elim fun sa hs => ⟨sa, vk_R.warm hW hs⟩⟩
def p10 (j : Nat) : Int64 := Int64.ofNat (10 ^ j)
def pw (j : Nat) : Value := .long (p10 j)
def zS (A : Nat → Prop) (U : State) (H : Heap) : Prop := vx_Zq Bundle.tN "UNASSIGNED_STACK" Bundle.steD A U H ∧ vx_Zq Bundle.tN "SUPPRESSED_SENTINEL" Bundle.listD A U H ∧ ∃ t, va_Z "DeskStack$Decimal" "POWERS" "[J" (.ref t) A U H ∧ va_T .long t 19 pw A U H
theorem zS.moved {A : Nat → Prop} {u U : State} {H : Heap} (hvm : u.vm.Alike U.vm) (h : zS A u H) : zS A U H := by
  obtain ⟨h1, h2, t, h3, h4⟩ := h
  exact ⟨h1.moved hvm, h2.moved hvm, t, va_Z.moved hvm h3, va_T.moved hvm h4⟩
theorem zS.kept {A : Nat → Prop} {U : State} {H H1 : Heap} (h : zS A U H) (hq : ∀ a : Nat, a < H.size → ¬ A a → H1[a]? = H[a]?) : zS A U H1 := by
  obtain ⟨h1, h2, t, h3, h4⟩ := h
  exact ⟨h1.kept hq, h2.kept hq, t, h3.kept hq, h4.kept hq⟩
theorem zS.narrow {A B : Nat → Prop} {U : State} {H : Heap} (h : zS A U H) (hAB : ∀ q, B q → A q) : zS B U H := by
  obtain ⟨h1, h2, t, h3, h4⟩ := h
  exact ⟨h1.narrow hAB, h2.narrow hAB, t, h3.narrow hAB, h4.narrow hAB⟩
def zX (A : Nat → Prop) (U : State) : Prop := zN U ∧ zS A U U.heap
theorem zX.at {A B : Nat → Prop} {s U : State} {H : Heap} {locs : List Loc} (h : zX A s) (hS : va_S A s.heap H locs) (hU : U.heap = H) (hW : s.WarmedH U.vm) (hAB : ∀ q, B q → A q) : zX B U :=
  ⟨h.1.warm hW, by rw [hU]; exact ((h.2.kept hS.2.1).narrow hAB).moved hW.alike⟩
theorem zX.blind {A : Nat → Prop} {U : State} {g : JFrame} {mk : MethodId} {a : Array Value} (h : zX A U) : zX A (U.calling g mk a) := by
  have hW : U.WarmedH (U.calling g mk a).vm := State.WarmedH.refl U
  exact zX.at h va_S.rf rfl hW (fun _ h => h)
theorem zstr {A : Nat → Prop} {s : State} {own text : String} {k : Nat} (h : zX A s) (hq : (own, k, text) ∈ zStr) : ∃ sa, vk_R own k text sa s := h.1.2.2 _ hq
/-- the words of a throw: the good ones out of the method's own list -/
theorem zhat {A : Nat → Prop} {args : Array Value} {s : State} {ws : List Cond} {own E : String} {ic : Nat} (h : zX A s) (hts : ∀ w ∈ ws, w.before args s = true) (hE : E ∈ zE)
    (h1 : ∀ w ∈ (vx_atS own ic E ["java/lang/RuntimeException", "java/lang/Exception"]).filter goodWord, w ∈ ws)
    (h2 : ∀ w ∈ (vx_atS own ic E ["java/lang/RuntimeException", "java/lang/Exception"]).filter (fun w => !goodWord w), w ∈ [Cond.castable E E, .declares ⟨"java/lang/RuntimeException", "<init>", "(Ljava/lang/String;)V"⟩, .declares ⟨"java/lang/Exception", "<init>", "(Ljava/lang/String;)V"⟩, .declares ⟨"java/lang/Throwable", "<init>", "(Ljava/lang/String;)V"⟩]) :
    ∀ w ∈ vx_atS own ic E ["java/lang/RuntimeException", "java/lang/Exception"], w.before args s = true :=
  vx_hat (fun w hw => hts w (h1 w hw)) h2 (vx_c (va_Nw.use rfl (h.1.1 E hE)) (vx_c (va_Nw.use rfl (h.1.2.1 _ (by decide +kernel))) (vx_c (va_Nw.use rfl (h.1.2.1 _ (by decide +kernel))) (vx_c (va_Nw.use rfl (h.1.2.1 _ (by decide +kernel))) vx_n))))
def dPre (sz : Nat) : State → Prop := fun U => U.heap.size = sz ∧ zX (fun q => sz ≤ q) U
def dX {α : Type} (f : String ⊕ α) (sz : Nat) : String → State → State → Prop := vx_X (fun _ : Unit => True) (fun E _ _ => f = .inl E) (fun q => sz ≤ q)
section DB
variable {p : Program} {l : Launch} {e : Env} {R : Room} {s : State} {m : MethodId} {args : Array Value} {below : List Frame} {meth : Method} {c : Code} {H : Heap} {locs : List Loc} {cells slots : Nat} {Q : State → Prop} {cc : ByteArray} {pc : Nat} {ls : Array Slot} {rest st0 : List Value}
theorem d_ofW {y : MethodName} {ws ws' : List Cond} {rm : Room} {vs : List Value} {Qc : Array Value → State → Outcome → State → Prop} {XC : String → State → State → Prop} {maxL sz mx sx : Nat} {ret : Option FieldType} (hy : plainName y.cls = true) (hw : ws = Cond.code y cc maxL ret :: ws') (hcls : y.cls = RX0) (hvs : (lg_sl vs).length ≤ maxL)
    (body : ∀ (p : Program) (e : Env) (s : State) (m : MethodId) (below : List Frame) (meth : Method) (c : Code), p.tables.exec = Jvm.exec → c.code = cc → (∀ w ∈ ws, w.before vs.toArray s = true) → s.vm.findClass RX0 = some m.cls → meth.sig.returnType = ret → meth.locks = false → c.maxLocals = maxL → (∀ x ∈ c.exceptionTable.toList, False) → s.heap.size = sz → zX (fun q => sz ≤ q) s → va_S (fun q => sz ≤ q) s.heap s.heap [] → ∀ ls : Array Slot, lv_has ls maxL (lv_args 0 vs) → W p l e rm s m vs.toArray below meth c s.heap [] 0 0 (xq_MQ below Qc XC vs.toArray s 0 0 mx sx (fun q => sz ≤ q)) (F0 m 0 ls [])) :
    xq_Met l y ws rm (va_Pc vs (dPre sz)) Qc XC 0 0 mx sx (fun q => sz ≤ q) := by
  refine xq_ofW (cc := cc) (maxL := maxL) (ret := ret) hy hw ?_
  intro p e s m args below meth c s₁ B hml hEx hv
  obtain ⟨rfl, hsz, hz⟩ := hv
  have hown : s.vm.findClass y.cls = some m.cls := findClass_of_methodNamed B.named
  rw [hcls] at hown
  have hts := atoms_spec (ws := ws) B.pre
  rw [lg_entry_eq]
  exact body p e s m below meth c B.exec B.bytes hts hown B.returns B.notSynchronized hml hEx hsz hz va_S.rf _ (lv_entry vs hvs)
theorem dF {s t : State} {H : Heap} {locs : List Loc} (hS : va_S (fun q => s.heap.size ≤ q) s.heap H locs) (ht : t.heap = H) : va_F (fun _ => False) s t := ⟨by rw [ht]; exact hS.1, fun q h1 _ => by rw [ht]; exact hS.2.1 q h1 (Nat.not_le.mpr h1)⟩
variable {y : MethodName} {bytes : ByteArray} {maxL nL n index : Nat} {ret : Option FieldType} {ws : List Cond} {rm : Room} {Ts : List Cond} {own : String} {As : List Value} {α : Type} {f0 : String ⊕ α} {Qc0 : Array Value → State → Outcome → State → Prop}
theorem d_calll {f : String ⊕ Int64} (hx : p.tables.exec = Jvm.exec) (hb : c.code = cc) (hml : c.maxLocals = nL) (hown : s.vm.findClass own = some m.cls) (hts : ∀ w ∈ Ts, w.before args s = true) (hEx : ∀ x ∈ c.exceptionTable.toList, False) (hlocks : meth.locks = false) (hz : zX (fun q => s.heap.size ≤ q) s) (hS : va_S (fun q => s.heap.size ≤ q) s.heap H locs)
    (hM : xq_Met l y ws rm (va_Pc As (dPre H.size)) (va_Ql (fun r (_ : Unit) => f = .inr r) (fun _ _ => True) (fun _ => False)) (dX f H.size) 0 0 1 6 (fun q => H.size ≤ q)) (cw : CallB R s args own index y bytes maxL ret ws rm 1 6 n ∧ (Cond.static y).before args s = true) (hn : As.length = n) (hsize : ls.size = nL) (hst : st0 = As.reverse ++ rest) (hW : (rest.map fun v => v.category).sum ≤ 8) (hdg : decode cc pc = .ok (.invokestatic index, 3)) (hf : cells + 1 ≤ R.cells ∧ slots + 6 ≤ R.slots) (h0 : cells = 0 ∧ slots = 0)
    (kx : ∀ E : String, f = .inl E → f0 = .inl E) (kk : ∀ (r : Int64) (H1 : Heap) (locs1 : List Loc), f = .inr r → va_S (fun q => s.heap.size ≤ q) s.heap H1 locs1 → W p l e R s m args below meth c H1 locs1 cells slots (xq_MQ below Qc0 (dX f0 s.heap.size) args s 0 0 1 6 (fun q => s.heap.size ≤ q)) (F0 m (pc + 3) ls (.long r :: rest))) :
    W p l e R s m args below meth c H locs cells slots (xq_MQ below Qc0 (dX f0 s.heap.size) args s 0 0 1 6 (fun q => s.heap.size ≤ q)) (F0 m pc ls st0) := by
  refine xq_calll (A0 := fun q => s.heap.size ≤ q) (A1 := fun _ => False) (free := fun q => H.size ≤ q) (AX := fun q => H.size ≤ q) (SX := Unit) (px := fun _ => True) (BX := fun E _ _ => f = .inl E) (S := Unit) (B := fun _ _ => True) (mx := 1) (sx := 6) (mc := 0) (ms := 0) (rest := rest) (xq_runS (As := As) ⟨hx, hb, hml, hown, hts⟩ hM cw ⟨fun a U g mk q => ⟨q.1, q.2.1, q.2.2.blind⟩, fun U hU hW => ⟨rfl, by rw [hU], zX.at hz hS hU hW (fun q h => Nat.le_trans hS.1 h)⟩⟩ rfl hn hsize hst (lv_room hW) hdg hf) hS (fun q _ h => h.elim) (fun q h => Nat.le_trans hS.1 h) (fun q h1 h2 => absurd h2 (Nat.not_le.mpr h1)) (fun E ce q9 u t H1 locs1 ht hvm hpx hw hz1 hk1 hS hce hcv hcl => ?_) (fun r u t H1 locs1 ht hvm hw hB hz1 hk1 hS => kk r H1 locs1 hw hS)
  exact xq_thrW (vx_out (fun x hx => (hEx x hx).elim) hlocks hce hcv hcl (fun t ht ha => ⟨(), trivial, kx E hw, hS.F ht⟩) hS.2.2 (by omega) (by omega))
end DB
