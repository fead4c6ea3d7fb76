theorem i_bm {z : Int} (h1 : -2147483648 ≤ z) (h2 : z < 2147483648) : z.bmod (2 ^ 32) = z := by
  rw [Int.bmod_def]; omega
theorem i_add {a b : Int32} (h1 : -2147483648 ≤ a.toInt + b.toInt) (h2 : a.toInt + b.toInt < 2147483648) : (a + b).toInt = a.toInt + b.toInt := by
  rw [Int32.toInt_add]; exact i_bm h1 h2
theorem i_sub {a b : Int32} (h1 : -2147483648 ≤ a.toInt - b.toInt) (h2 : a.toInt - b.toInt < 2147483648) : (a - b).toInt = a.toInt - b.toInt := by
  rw [Int32.toInt_sub]; exact i_bm h1 h2
theorem i_mul {a b : Int32} (h1 : -2147483648 ≤ a.toInt * b.toInt) (h2 : a.toInt * b.toInt < 2147483648) : (a * b).toInt = a.toInt * b.toInt := by
  rw [Int32.toInt_mul]; exact i_bm h1 h2
theorem i_addE {a b : Int32} {x y : Int} (ha : a.toInt = x) (hb : b.toInt = y) (h1 : -2147483648 ≤ x + y) (h2 : x + y < 2147483648) : (a + b).toInt = x + y := by
  subst ha; subst hb; exact i_add h1 h2
theorem i_subE {a b : Int32} {x y : Int} (ha : a.toInt = x) (hb : b.toInt = y) (h1 : -2147483648 ≤ x - y) (h2 : x - y < 2147483648) : (a - b).toInt = x - y := by
  subst ha; subst hb; exact i_sub h1 h2
theorem i_mulE {a b : Int32} {x y : Int} (ha : a.toInt = x) (hb : b.toInt = y) (h1 : -2147483648 ≤ x * y) (h2 : x * y < 2147483648) : (a * b).toInt = x * y := by
  subst ha; subst hb; exact i_mul h1 h2
theorem vin {i : Int32} {x : Int} {n : Nat} (h : i.toInt = x) (h0 : 0 ≤ x) (h1 : x < n) : vp_in i n := by
  subst h; exact vp_in_iff.mpr ⟨h0, h1⟩
theorem i_cl {a : Int32} (h : 0 ≤ a.toInt) : (a.toNatClampNeg : Int) = a.toInt := by
  rw [← Int32.toNat_toInt]; omega
theorem l_cmp_lt (x y : Int64) : lg_cmp x y < 0 ↔ x < y := by
  unfold lg_cmp
  by_cases h1 : y < x
  · simp [h1]; exact Int64.le_of_lt h1
  · by_cases h2 : x = y
    · simp [h2]
    · simp [h1, h2]; rcases Int64.lt_or_lt_of_ne h2 with h | h
      · exact h
      · exact absurd h h1
theorem l_cmp_gt (x y : Int64) : 0 < lg_cmp x y ↔ y < x := by
  unfold lg_cmp
  by_cases h1 : y < x
  · simp [h1]
  · by_cases h2 : x = y
    · simp [h2]
    · simp [h1, h2]
theorem l_cmp_eq (x y : Int64) : lg_cmp x y = 0 ↔ x = y := by
  unfold lg_cmp
  by_cases h1 : y < x
  · simp [h1]; intro h; subst h; exact Int64.lt_irrefl h1
  · by_cases h2 : x = y
    · simp [h2]
    · simp [h1, h2]
theorem l_cmp_ge (x y : Int64) : 0 ≤ lg_cmp x y ↔ y ≤ x := by
  rw [← Int32.not_lt, l_cmp_lt, Int64.not_lt]
theorem l_cmp_le (x y : Int64) : lg_cmp x y ≤ 0 ↔ x ≤ y := by
  rw [← Int32.not_lt, l_cmp_gt, Int64.not_lt]
abbrev MS : Type := (Nat → Int32) × Int64 × (Nat → Nat → Int32) × (Nat → Nat → Int64)
def si (σ : MS) (k : Nat) (v : Int32) : MS := (upd σ.1 k v, σ.2)
def sm (σ : MS) (v : Int64) : MS := (σ.1, v, σ.2.2)
def sa (σ : MS) (k j : Nat) (v : Int32) : MS := (σ.1, σ.2.1, (fun q => if q = k then upd (σ.2.2.1 k) j v else σ.2.2.1 q), σ.2.2.2)
def sb (σ : MS) (k j : Nat) (v : Int64) : MS := (σ.1, σ.2.1, σ.2.2.1, fun q => if q = k then vp_updL (σ.2.2.2 k) j v else σ.2.2.2 q)
def mW (h : Nat) (ad : Nat → Nat) (cI cJ : ClassId) (σ : MS) : va_W := [(h, .inr (4, [.ref (ad 0), .int (σ.1 1), .ref (ad 2), .ref (ad 3), .ref (ad 4), .int (σ.1 5), .int (σ.1 6), .ref (ad 7), .ref (ad 8), .ref (ad 9), .ref (ad 10), .int (σ.1 11), .ref (ad 12), .ref (ad 13), .int (σ.1 14), .int (σ.1 15), .int (σ.1 16), .int (σ.1 17), .int (σ.1 18), .long σ.2.1, .int (σ.1 20)])), (ad 0, .inl (cI, 160, .inl (σ.2.2.1 0))), (ad 2, .inl (cJ, 82, .inr (.inl (σ.2.2.2 2)))), (ad 3, .inl (cI, 82, .inl (σ.2.2.1 3))), (ad 4, .inl (cI, 13120, .inl (σ.2.2.1 4))), (ad 7, .inl (cI, 4, .inl (σ.2.2.1 7))), (ad 8, .inl (cI, 1920, .inl (σ.2.2.1 8))), (ad 9, .inl (cI, 12, .inl (σ.2.2.1 9))), (ad 10, .inl (cI, 12, .inl (σ.2.2.1 10))), (ad 12, .inl (cJ, 40, .inr (.inl (σ.2.2.2 12)))), (ad 13, .inl (cI, 40, .inl (σ.2.2.1 13)))]
def mX (p : Program) (s : State) (m : MethodId) (args : Array Value) (c : Code) (cc : ByteArray) (Ts : List Cond) (dC : Nat → ClassId) (dI : Nat → Nat → Nat) (cI cJ : ClassId) : Prop := p.tables.exec = Jvm.exec ∧ c.code = cc ∧ (∀ w ∈ Ts, w.before args s = true) ∧ (∀ w ∈ wsX50, w ∈ Ts) ∧ s.vm.findClass RX5 = some m.cls ∧ va_K (dC, dI) vwCl [(cI, .int), (cJ, .long)] s
def mH (dC : Nat → ClassId) (dI : Nat → Nat → Nat) (h : Nat) (ad : Nat → Nat) (cI cJ : ClassId) (σ : MS) (A : Nat → Prop) (H0 H : Heap) (locs : List Loc) : Prop := va_P (dC, dI) vwCl (mW h ad cI cJ σ) H ∧ va_D A (mW h ad cI cJ σ) ∧ va_S A H0 H locs
def mPre (dC : Nat → ClassId) (dI : Nat → Nat → Nat) (cI cJ : ClassId) (h : Nat) (ad : Nat → Nat) (sz : Nat) (σ : MS) : State → Prop := fun U => U.heap.size = sz ∧ va_P (dC, dI) vwCl (mW h ad cI cJ σ) U.heap ∧ va_K (dC, dI) vwCl [(cI, .int), (cJ, .long)] U ∧ va_D (fun _ => True) (mW h ad cI cJ σ)
def mAt (dC : Nat → ClassId) (dI : Nat → Nat → Nat) (cI cJ : ClassId) (h : Nat) (ad : Nat → Nat) (A : Nat → Prop) (u : MS) (t : State) : Prop := va_P (dC, dI) vwCl (mW h ad cI cJ u) t.heap ∧ va_K (dC, dI) vwCl [(cI, .int), (cJ, .long)] t ∧ va_D A (mW h ad cI cJ u)
abbrev mA (h : Nat) (ad : Nat → Nat) (cI cJ : ClassId) (σ : MS) (sz : Nat) : Nat → Prop := va_A (mW h ad cI cJ σ) sz
def QcReadL (r : Int64) : Array Value → State → Outcome → State → Prop := fun _ st o t => o = .returned (some (.long r)) ∧ t.heap = st.heap
section SB
variable {p : Program} {l : Launch} {e : Env} {R : Room} {s : State} {m : MethodId} {args : Array Value} {below : List Frame} {meth : Method} {c : Code} {H : Heap} {locs : List Loc} {cells slots : Nat} {Q : State → Prop} {g : JFrame} {rest : List Value} {a : Array Value} {cc : ByteArray}
theorem W.callRL {r : Int64} (hr : CallRun p l e R s m args below meth c H locs cells slots 0 0 g rest (QcReadL r a) (fun _ => False)) (kk : W p l e R s m args below meth c H locs cells slots Q { g with pc := g.pc + 3, stack := .long r :: rest }) : W p l e R s m args below meth c H locs cells slots Q g := by
  intro T hT X
  obtain ⟨v, st₀, t, T', L, h0, X', hL, e1, ⟨hv, hh⟩, st⟩ := hr T hT X
  cases hv
  obtain ⟨t2, a1, b1⟩ := kk T' (by rw [e1, hh, h0]) (Stand.forget X' (fun q h => (hL q h).elim))
  exact ⟨t2, st t2 a1, b1⟩
theorem s_ofW {y : MethodName} {ws ws' : List Cond} {rm : Room} {vs : List Value} {Qc : Array Value → State → Outcome → State → Prop} {maxL : Nat} {ret : Option FieldType} {cls : String} (hy : plainName y.cls = true) (hw : ws = Cond.code y cc maxL ret :: ws') (hcls : y.cls = cls) (hvs : (lg_sl vs).length ≤ maxL)
    (body : ∀ (p : Program) (e : Env) (s : State) (m : MethodId) (below : List Frame) (meth : Method) (c : Code), p.tables.exec = Jvm.exec → c.code = cc → (∀ w ∈ ws, w.before vs.toArray s = true) → s.vm.findClass cls = some m.cls → meth.sig.returnType = ret → meth.locks = false → c.maxLocals = maxL → ∀ ls : Array Slot, lv_has ls maxL (lv_args 0 vs) → W p l e rm s m vs.toArray below meth c s.heap [] 0 0 (MQ below Qc vs.toArray s 0 0 (fun _ => False)) (F0 m 0 ls [])) :
    Met l y ws rm (va_Pc vs (fun _ => True)) Qc 0 0 (fun _ => False) := by
  refine Met.ofW (cc := cc) (maxL := maxL) (ret := ret) hy hw ?_
  intro p e s m args below meth c s₁ B hml hv
  obtain ⟨rfl, -⟩ := hv
  have hown : s.vm.findClass y.cls = some m.cls := findClass_of_methodNamed B.named
  rw [hcls] at hown
  rw [lg_entry_eq]
  exact body p e s m below meth c B.exec B.bytes (atoms_spec (ws := ws) B.pre) hown B.returns B.notSynchronized hml _ (lv_entry vs hvs)
end SB
section MB
variable {p : Program} {l : Launch} {e : Env} {R : Room} {s : State} {m : MethodId} {args : Array Value} {below : List Frame} {meth : Method} {c : Code} {H : Heap} {locs : List Loc} {cells slots : Nat} {Q : State → Prop}
variable {cc : ByteArray} {pc : Nat} {ls : Array Slot} {rest st0 : List Value} {A : Nat → Prop} {H0 : Heap} {dC : Nat → ClassId} {dI : Nat → Nat → Nat} {cI cJ : ClassId} {h : Nat} {ad : Nat → Nat} {σ : MS} {Ts : List Cond} {index : Nat}
theorem m_get_0 (X : mX p s m args c cc Ts dC dI cI cJ) (G : mH dC dI h ad cI cJ σ A H0 H locs) (hl : Cond.fieldLink RX5 index "DeskStackModel" "program" "[I" ∈ Ts) (hdg : decode cc pc = .ok (.getfield index, 3)) (kk : W p l e R s m args below meth c H locs cells slots Q (F0 m (pc + 3) ls (.ref (ad 0) :: rest))) : W p l e R s m args below meth c H locs cells slots Q (F0 m pc ls (.ref h :: rest)) := by
  obtain ⟨hx, hb, hts, hin, hown, hK⟩ := X
  exact va_get (D := (dC, dI)) (ci := 4) (C := RX5) (T := TX5) (N := 21) hx hb hts hin hown hK G.1 0 rfl rfl 0 (by decide) (hts _ hl) (fun _ h9 => h9) rfl hdg kk
theorem m_get_1 (X : mX p s m args c cc Ts dC dI cI cJ) (G : mH dC dI h ad cI cJ σ A H0 H locs) (hl : Cond.fieldLink RX5 index "DeskStackModel" "length" "I" ∈ Ts) (hdg : decode cc pc = .ok (.getfield index, 3)) (kk : W p l e R s m args below meth c H locs cells slots Q (F0 m (pc + 3) ls (.int (σ.1 1) :: rest))) : W p l e R s m args below meth c H locs cells slots Q (F0 m pc ls (.ref h :: rest)) := by
  obtain ⟨hx, hb, hts, hin, hown, hK⟩ := X
  exact va_get (D := (dC, dI)) (ci := 4) (C := RX5) (T := TX5) (N := 21) hx hb hts hin hown hK G.1 0 rfl rfl 1 (by decide) (hts _ hl) (fun _ h9 => h9) rfl hdg kk
theorem m_put_1 (X : mX p s m args c cc Ts dC dI cI cJ) (G : mH dC dI h ad cI cJ σ A H0 H locs) {v : Int32} (hl : Cond.fieldLink RX5 index "DeskStackModel" "length" "I" ∈ Ts) (hdg : decode cc pc = .ok (.putfield index, 3)) (kk : ∀ (H1 : Heap) (locs1 : List Loc), mH dC dI h ad cI cJ (si σ 1 v) A H0 H1 locs1 → W p l e R s m args below meth c H1 locs1 cells slots Q (F0 m (pc + 3) ls rest)) : W p l e R s m args below meth c H locs cells slots Q (F0 m pc ls (.int v :: .ref h :: rest)) := by
  obtain ⟨hx, hb, hts, hin, hown, hK⟩ := X
  exact va_put (D := (dC, dI)) (ci := 4) (v := .int v) (ty := .int) (C := RX5) (T := TX5) (N := 21) hx hb hts hin tyX5 tyX5_ok nmX5 hown hK G.1 G.2.1 G.2.2 0 rfl rfl 1 (by decide) (hts _ hl) (fun _ h9 => h9) rfl (by decide +kernel) rfl rfl (Nat.le_of_ble_eq_true rfl) hdg (fun H1 locs1 hP hD hS => kk H1 locs1 ⟨hP, hD, hS⟩)
theorem m_get_2 (X : mX p s m args c cc Ts dC dI cI cJ) (G : mH dC dI h ad cI cJ σ A H0 H locs) (hl : Cond.fieldLink RX5 index "DeskStackModel" "value" "[J" ∈ Ts) (hdg : decode cc pc = .ok (.getfield index, 3)) (kk : W p l e R s m args below meth c H locs cells slots Q (F0 m (pc + 3) ls (.ref (ad 2) :: rest))) : W p l e R s m args below meth c H locs cells slots Q (F0 m pc ls (.ref h :: rest)) := by
  obtain ⟨hx, hb, hts, hin, hown, hK⟩ := X
  exact va_get (D := (dC, dI)) (ci := 4) (C := RX5) (T := TX5) (N := 21) hx hb hts hin hown hK G.1 0 rfl rfl 2 (by decide) (hts _ hl) (fun _ h9 => h9) rfl hdg kk
theorem m_get_3 (X : mX p s m args c cc Ts dC dI cI cJ) (G : mH dC dI h ad cI cJ σ A H0 H locs) (hl : Cond.fieldLink RX5 index "DeskStackModel" "places" "[I" ∈ Ts) (hdg : decode cc pc = .ok (.getfield index, 3)) (kk : W p l e R s m args below meth c H locs cells slots Q (F0 m (pc + 3) ls (.ref (ad 3) :: rest))) : W p l e R s m args below meth c H locs cells slots Q (F0 m pc ls (.ref h :: rest)) := by
  obtain ⟨hx, hb, hts, hin, hown, hK⟩ := X
  exact va_get (D := (dC, dI)) (ci := 4) (C := RX5) (T := TX5) (N := 21) hx hb hts hin hown hK G.1 0 rfl rfl 3 (by decide) (hts _ hl) (fun _ h9 => h9) rfl hdg kk
theorem m_get_4 (X : mX p s m args c cc Ts dC dI cI cJ) (G : mH dC dI h ad cI cJ σ A H0 H locs) (hl : Cond.fieldLink RX5 index "DeskStackModel" "letters" "[I" ∈ Ts) (hdg : decode cc pc = .ok (.getfield index, 3)) (kk : W p l e R s m args below meth c H locs cells slots Q (F0 m (pc + 3) ls (.ref (ad 4) :: rest))) : W p l e R s m args below meth c H locs cells slots Q (F0 m pc ls (.ref h :: rest)) := by
  obtain ⟨hx, hb, hts, hin, hown, hK⟩ := X
  exact va_get (D := (dC, dI)) (ci := 4) (C := RX5) (T := TX5) (N := 21) hx hb hts hin hown hK G.1 0 rfl rfl 4 (by decide) (hts _ hl) (fun _ h9 => h9) rfl hdg kk
theorem m_get_5 (X : mX p s m args c cc Ts dC dI cI cJ) (G : mH dC dI h ad cI cJ σ A H0 H locs) (hl : Cond.fieldLink RX5 index "DeskStackModel" "depth" "I" ∈ Ts) (hdg : decode cc pc = .ok (.getfield index, 3)) (kk : W p l e R s m args below meth c H locs cells slots Q (F0 m (pc + 3) ls (.int (σ.1 5) :: rest))) : W p l e R s m args below meth c H locs cells slots Q (F0 m pc ls (.ref h :: rest)) := by
  obtain ⟨hx, hb, hts, hin, hown, hK⟩ := X
  exact va_get (D := (dC, dI)) (ci := 4) (C := RX5) (T := TX5) (N := 21) hx hb hts hin hown hK G.1 0 rfl rfl 5 (by decide) (hts _ hl) (fun _ h9 => h9) rfl hdg kk
theorem m_put_5 (X : mX p s m args c cc Ts dC dI cI cJ) (G : mH dC dI h ad cI cJ σ A H0 H locs) {v : Int32} (hl : Cond.fieldLink RX5 index "DeskStackModel" "depth" "I" ∈ Ts) (hdg : decode cc pc = .ok (.putfield index, 3)) (kk : ∀ (H1 : Heap) (locs1 : List Loc), mH dC dI h ad cI cJ (si σ 5 v) A H0 H1 locs1 → W p l e R s m args below meth c H1 locs1 cells slots Q (F0 m (pc + 3) ls rest)) : W p l e R s m args below meth c H locs cells slots Q (F0 m pc ls (.int v :: .ref h :: rest)) := by
  obtain ⟨hx, hb, hts, hin, hown, hK⟩ := X
  exact va_put (D := (dC, dI)) (ci := 4) (v := .int v) (ty := .int) (C := RX5) (T := TX5) (N := 21) hx hb hts hin tyX5 tyX5_ok nmX5 hown hK G.1 G.2.1 G.2.2 0 rfl rfl 5 (by decide) (hts _ hl) (fun _ h9 => h9) rfl (by decide +kernel) rfl rfl (Nat.le_of_ble_eq_true rfl) hdg (fun H1 locs1 hP hD hS => kk H1 locs1 ⟨hP, hD, hS⟩)
theorem m_get_6 (X : mX p s m args c cc Ts dC dI cI cJ) (G : mH dC dI h ad cI cJ σ A H0 H locs) (hl : Cond.fieldLink RX5 index "DeskStackModel" "precision" "I" ∈ Ts) (hdg : decode cc pc = .ok (.getfield index, 3)) (kk : W p l e R s m args below meth c H locs cells slots Q (F0 m (pc + 3) ls (.int (σ.1 6) :: rest))) : W p l e R s m args below meth c H locs cells slots Q (F0 m pc ls (.ref h :: rest)) := by
  obtain ⟨hx, hb, hts, hin, hown, hK⟩ := X
  exact va_get (D := (dC, dI)) (ci := 4) (C := RX5) (T := TX5) (N := 21) hx hb hts hin hown hK G.1 0 rfl rfl 6 (by decide) (hts _ hl) (fun _ h9 => h9) rfl hdg kk
theorem m_put_6 (X : mX p s m args c cc Ts dC dI cI cJ) (G : mH dC dI h ad cI cJ σ A H0 H locs) {v : Int32} (hl : Cond.fieldLink RX5 index "DeskStackModel" "precision" "I" ∈ Ts) (hdg : decode cc pc = .ok (.putfield index, 3)) (kk : ∀ (H1 : Heap) (locs1 : List Loc), mH dC dI h ad cI cJ (si σ 6 v) A H0 H1 locs1 → W p l e R s m args below meth c H1 locs1 cells slots Q (F0 m (pc + 3) ls rest)) : W p l e R s m args below meth c H locs cells slots Q (F0 m pc ls (.int v :: .ref h :: rest)) := by
  obtain ⟨hx, hb, hts, hin, hown, hK⟩ := X
  exact va_put (D := (dC, dI)) (ci := 4) (v := .int v) (ty := .int) (C := RX5) (T := TX5) (N := 21) hx hb hts hin tyX5 tyX5_ok nmX5 hown hK G.1 G.2.1 G.2.2 0 rfl rfl 6 (by decide) (hts _ hl) (fun _ h9 => h9) rfl (by decide +kernel) rfl rfl (Nat.le_of_ble_eq_true rfl) hdg (fun H1 locs1 hP hD hS => kk H1 locs1 ⟨hP, hD, hS⟩)
theorem m_get_7 (X : mX p s m args c cc Ts dC dI cI cJ) (G : mH dC dI h ad cI cJ σ A H0 H locs) (hl : Cond.fieldLink RX5 index "DeskStackModel" "held" "[I" ∈ Ts) (hdg : decode cc pc = .ok (.getfield index, 3)) (kk : W p l e R s m args below meth c H locs cells slots Q (F0 m (pc + 3) ls (.ref (ad 7) :: rest))) : W p l e R s m args below meth c H locs cells slots Q (F0 m pc ls (.ref h :: rest)) := by
  obtain ⟨hx, hb, hts, hin, hown, hK⟩ := X
  exact va_get (D := (dC, dI)) (ci := 4) (C := RX5) (T := TX5) (N := 21) hx hb hts hin hown hK G.1 0 rfl rfl 7 (by decide) (hts _ hl) (fun _ h9 => h9) rfl hdg kk
theorem m_get_8 (X : mX p s m args c cc Ts dC dI cI cJ) (G : mH dC dI h ad cI cJ σ A H0 H locs) (hl : Cond.fieldLink RX5 index "DeskStackModel" "text" "[I" ∈ Ts) (hdg : decode cc pc = .ok (.getfield index, 3)) (kk : W p l e R s m args below meth c H locs cells slots Q (F0 m (pc + 3) ls (.ref (ad 8) :: rest))) : W p l e R s m args below meth c H locs cells slots Q (F0 m pc ls (.ref h :: rest)) := by
  obtain ⟨hx, hb, hts, hin, hown, hK⟩ := X
  exact va_get (D := (dC, dI)) (ci := 4) (C := RX5) (T := TX5) (N := 21) hx hb hts hin hown hK G.1 0 rfl rfl 8 (by decide) (hts _ hl) (fun _ h9 => h9) rfl hdg kk
theorem m_get_9 (X : mX p s m args c cc Ts dC dI cI cJ) (G : mH dC dI h ad cI cJ σ A H0 H locs) (hl : Cond.fieldLink RX5 index "DeskStackModel" "size" "[I" ∈ Ts) (hdg : decode cc pc = .ok (.getfield index, 3)) (kk : W p l e R s m args below meth c H locs cells slots Q (F0 m (pc + 3) ls (.ref (ad 9) :: rest))) : W p l e R s m args below meth c H locs cells slots Q (F0 m pc ls (.ref h :: rest)) := by
  obtain ⟨hx, hb, hts, hin, hown, hK⟩ := X
  exact va_get (D := (dC, dI)) (ci := 4) (C := RX5) (T := TX5) (N := 21) hx hb hts hin hown hK G.1 0 rfl rfl 9 (by decide) (hts _ hl) (fun _ h9 => h9) rfl hdg kk
theorem m_get_10 (X : mX p s m args c cc Ts dC dI cI cJ) (G : mH dC dI h ad cI cJ σ A H0 H locs) (hl : Cond.fieldLink RX5 index "DeskStackModel" "at" "[I" ∈ Ts) (hdg : decode cc pc = .ok (.getfield index, 3)) (kk : W p l e R s m args below meth c H locs cells slots Q (F0 m (pc + 3) ls (.ref (ad 10) :: rest))) : W p l e R s m args below meth c H locs cells slots Q (F0 m pc ls (.ref h :: rest)) := by
  obtain ⟨hx, hb, hts, hin, hown, hK⟩ := X
  exact va_get (D := (dC, dI)) (ci := 4) (C := RX5) (T := TX5) (N := 21) hx hb hts hin hown hK G.1 0 rfl rfl 10 (by decide) (hts _ hl) (fun _ h9 => h9) rfl hdg kk
theorem m_get_11 (X : mX p s m args c cc Ts dC dI cI cJ) (G : mH dC dI h ad cI cJ σ A H0 H locs) (hl : Cond.fieldLink RX5 index "DeskStackModel" "levels" "I" ∈ Ts) (hdg : decode cc pc = .ok (.getfield index, 3)) (kk : W p l e R s m args below meth c H locs cells slots Q (F0 m (pc + 3) ls (.int (σ.1 11) :: rest))) : W p l e R s m args below meth c H locs cells slots Q (F0 m pc ls (.ref h :: rest)) := by
  obtain ⟨hx, hb, hts, hin, hown, hK⟩ := X
  exact va_get (D := (dC, dI)) (ci := 4) (C := RX5) (T := TX5) (N := 21) hx hb hts hin hown hK G.1 0 rfl rfl 11 (by decide) (hts _ hl) (fun _ h9 => h9) rfl hdg kk
theorem m_put_11 (X : mX p s m args c cc Ts dC dI cI cJ) (G : mH dC dI h ad cI cJ σ A H0 H locs) {v : Int32} (hl : Cond.fieldLink RX5 index "DeskStackModel" "levels" "I" ∈ Ts) (hdg : decode cc pc = .ok (.putfield index, 3)) (kk : ∀ (H1 : Heap) (locs1 : List Loc), mH dC dI h ad cI cJ (si σ 11 v) A H0 H1 locs1 → W p l e R s m args below meth c H1 locs1 cells slots Q (F0 m (pc + 3) ls rest)) : W p l e R s m args below meth c H locs cells slots Q (F0 m pc ls (.int v :: .ref h :: rest)) := by
  obtain ⟨hx, hb, hts, hin, hown, hK⟩ := X
  exact va_put (D := (dC, dI)) (ci := 4) (v := .int v) (ty := .int) (C := RX5) (T := TX5) (N := 21) hx hb hts hin tyX5 tyX5_ok nmX5 hown hK G.1 G.2.1 G.2.2 0 rfl rfl 11 (by decide) (hts _ hl) (fun _ h9 => h9) rfl (by decide +kernel) rfl rfl (Nat.le_of_ble_eq_true rfl) hdg (fun H1 locs1 hP hD hS => kk H1 locs1 ⟨hP, hD, hS⟩)
theorem m_get_12 (X : mX p s m args c cc Ts dC dI cI cJ) (G : mH dC dI h ad cI cJ σ A H0 H locs) (hl : Cond.fieldLink RX5 index "DeskStackModel" "shown" "[J" ∈ Ts) (hdg : decode cc pc = .ok (.getfield index, 3)) (kk : W p l e R s m args below meth c H locs cells slots Q (F0 m (pc + 3) ls (.ref (ad 12) :: rest))) : W p l e R s m args below meth c H locs cells slots Q (F0 m pc ls (.ref h :: rest)) := by
  obtain ⟨hx, hb, hts, hin, hown, hK⟩ := X
  exact va_get (D := (dC, dI)) (ci := 4) (C := RX5) (T := TX5) (N := 21) hx hb hts hin hown hK G.1 0 rfl rfl 12 (by decide) (hts _ hl) (fun _ h9 => h9) rfl hdg kk
theorem m_get_13 (X : mX p s m args c cc Ts dC dI cI cJ) (G : mH dC dI h ad cI cJ σ A H0 H locs) (hl : Cond.fieldLink RX5 index "DeskStackModel" "shownPlaces" "[I" ∈ Ts) (hdg : decode cc pc = .ok (.getfield index, 3)) (kk : W p l e R s m args below meth c H locs cells slots Q (F0 m (pc + 3) ls (.ref (ad 13) :: rest))) : W p l e R s m args below meth c H locs cells slots Q (F0 m pc ls (.ref h :: rest)) := by
  obtain ⟨hx, hb, hts, hin, hown, hK⟩ := X
  exact va_get (D := (dC, dI)) (ci := 4) (C := RX5) (T := TX5) (N := 21) hx hb hts hin hown hK G.1 0 rfl rfl 13 (by decide) (hts _ hl) (fun _ h9 => h9) rfl hdg kk
theorem m_get_14 (X : mX p s m args c cc Ts dC dI cI cJ) (G : mH dC dI h ad cI cJ σ A H0 H locs) (hl : Cond.fieldLink RX5 index "DeskStackModel" "prints" "I" ∈ Ts) (hdg : decode cc pc = .ok (.getfield index, 3)) (kk : W p l e R s m args below meth c H locs cells slots Q (F0 m (pc + 3) ls (.int (σ.1 14) :: rest))) : W p l e R s m args below meth c H locs cells slots Q (F0 m pc ls (.ref h :: rest)) := by
  obtain ⟨hx, hb, hts, hin, hown, hK⟩ := X
  exact va_get (D := (dC, dI)) (ci := 4) (C := RX5) (T := TX5) (N := 21) hx hb hts hin hown hK G.1 0 rfl rfl 14 (by decide) (hts _ hl) (fun _ h9 => h9) rfl hdg kk
theorem m_put_14 (X : mX p s m args c cc Ts dC dI cI cJ) (G : mH dC dI h ad cI cJ σ A H0 H locs) {v : Int32} (hl : Cond.fieldLink RX5 index "DeskStackModel" "prints" "I" ∈ Ts) (hdg : decode cc pc = .ok (.putfield index, 3)) (kk : ∀ (H1 : Heap) (locs1 : List Loc), mH dC dI h ad cI cJ (si σ 14 v) A H0 H1 locs1 → W p l e R s m args below meth c H1 locs1 cells slots Q (F0 m (pc + 3) ls rest)) : W p l e R s m args below meth c H locs cells slots Q (F0 m pc ls (.int v :: .ref h :: rest)) := by
  obtain ⟨hx, hb, hts, hin, hown, hK⟩ := X
  exact va_put (D := (dC, dI)) (ci := 4) (v := .int v) (ty := .int) (C := RX5) (T := TX5) (N := 21) hx hb hts hin tyX5 tyX5_ok nmX5 hown hK G.1 G.2.1 G.2.2 0 rfl rfl 14 (by decide) (hts _ hl) (fun _ h9 => h9) rfl (by decide +kernel) rfl rfl (Nat.le_of_ble_eq_true rfl) hdg (fun H1 locs1 hP hD hS => kk H1 locs1 ⟨hP, hD, hS⟩)
theorem m_get_15 (X : mX p s m args c cc Ts dC dI cI cJ) (G : mH dC dI h ad cI cJ σ A H0 H locs) (hl : Cond.fieldLink RX5 index "DeskStackModel" "cost" "I" ∈ Ts) (hdg : decode cc pc = .ok (.getfield index, 3)) (kk : W p l e R s m args below meth c H locs cells slots Q (F0 m (pc + 3) ls (.int (σ.1 15) :: rest))) : W p l e R s m args below meth c H locs cells slots Q (F0 m pc ls (.ref h :: rest)) := by
  obtain ⟨hx, hb, hts, hin, hown, hK⟩ := X
  exact va_get (D := (dC, dI)) (ci := 4) (C := RX5) (T := TX5) (N := 21) hx hb hts hin hown hK G.1 0 rfl rfl 15 (by decide) (hts _ hl) (fun _ h9 => h9) rfl hdg kk
theorem m_put_15 (X : mX p s m args c cc Ts dC dI cI cJ) (G : mH dC dI h ad cI cJ σ A H0 H locs) {v : Int32} (hl : Cond.fieldLink RX5 index "DeskStackModel" "cost" "I" ∈ Ts) (hdg : decode cc pc = .ok (.putfield index, 3)) (kk : ∀ (H1 : Heap) (locs1 : List Loc), mH dC dI h ad cI cJ (si σ 15 v) A H0 H1 locs1 → W p l e R s m args below meth c H1 locs1 cells slots Q (F0 m (pc + 3) ls rest)) : W p l e R s m args below meth c H locs cells slots Q (F0 m pc ls (.int v :: .ref h :: rest)) := by
  obtain ⟨hx, hb, hts, hin, hown, hK⟩ := X
  exact va_put (D := (dC, dI)) (ci := 4) (v := .int v) (ty := .int) (C := RX5) (T := TX5) (N := 21) hx hb hts hin tyX5 tyX5_ok nmX5 hown hK G.1 G.2.1 G.2.2 0 rfl rfl 15 (by decide) (hts _ hl) (fun _ h9 => h9) rfl (by decide +kernel) rfl rfl (Nat.le_of_ble_eq_true rfl) hdg (fun H1 locs1 hP hD hS => kk H1 locs1 ⟨hP, hD, hS⟩)
theorem m_get_16 (X : mX p s m args c cc Ts dC dI cI cJ) (G : mH dC dI h ad cI cJ σ A H0 H locs) (hl : Cond.fieldLink RX5 index "DeskStackModel" "fault" "I" ∈ Ts) (hdg : decode cc pc = .ok (.getfield index, 3)) (kk : W p l e R s m args below meth c H locs cells slots Q (F0 m (pc + 3) ls (.int (σ.1 16) :: rest))) : W p l e R s m args below meth c H locs cells slots Q (F0 m pc ls (.ref h :: rest)) := by
  obtain ⟨hx, hb, hts, hin, hown, hK⟩ := X
  exact va_get (D := (dC, dI)) (ci := 4) (C := RX5) (T := TX5) (N := 21) hx hb hts hin hown hK G.1 0 rfl rfl 16 (by decide) (hts _ hl) (fun _ h9 => h9) rfl hdg kk
theorem m_put_16 (X : mX p s m args c cc Ts dC dI cI cJ) (G : mH dC dI h ad cI cJ σ A H0 H locs) {v : Int32} (hl : Cond.fieldLink RX5 index "DeskStackModel" "fault" "I" ∈ Ts) (hdg : decode cc pc = .ok (.putfield index, 3)) (kk : ∀ (H1 : Heap) (locs1 : List Loc), mH dC dI h ad cI cJ (si σ 16 v) A H0 H1 locs1 → W p l e R s m args below meth c H1 locs1 cells slots Q (F0 m (pc + 3) ls rest)) : W p l e R s m args below meth c H locs cells slots Q (F0 m pc ls (.int v :: .ref h :: rest)) := by
  obtain ⟨hx, hb, hts, hin, hown, hK⟩ := X
  exact va_put (D := (dC, dI)) (ci := 4) (v := .int v) (ty := .int) (C := RX5) (T := TX5) (N := 21) hx hb hts hin tyX5 tyX5_ok nmX5 hown hK G.1 G.2.1 G.2.2 0 rfl rfl 16 (by decide) (hts _ hl) (fun _ h9 => h9) rfl (by decide +kernel) rfl rfl (Nat.le_of_ble_eq_true rfl) hdg (fun H1 locs1 hP hD hS => kk H1 locs1 ⟨hP, hD, hS⟩)
theorem m_get_17 (X : mX p s m args c cc Ts dC dI cI cJ) (G : mH dC dI h ad cI cJ σ A H0 H locs) (hl : Cond.fieldLink RX5 index "DeskStackModel" "thrown" "I" ∈ Ts) (hdg : decode cc pc = .ok (.getfield index, 3)) (kk : W p l e R s m args below meth c H locs cells slots Q (F0 m (pc + 3) ls (.int (σ.1 17) :: rest))) : W p l e R s m args below meth c H locs cells slots Q (F0 m pc ls (.ref h :: rest)) := by
  obtain ⟨hx, hb, hts, hin, hown, hK⟩ := X
  exact va_get (D := (dC, dI)) (ci := 4) (C := RX5) (T := TX5) (N := 21) hx hb hts hin hown hK G.1 0 rfl rfl 17 (by decide) (hts _ hl) (fun _ h9 => h9) rfl hdg kk
theorem m_put_17 (X : mX p s m args c cc Ts dC dI cI cJ) (G : mH dC dI h ad cI cJ σ A H0 H locs) {v : Int32} (hl : Cond.fieldLink RX5 index "DeskStackModel" "thrown" "I" ∈ Ts) (hdg : decode cc pc = .ok (.putfield index, 3)) (kk : ∀ (H1 : Heap) (locs1 : List Loc), mH dC dI h ad cI cJ (si σ 17 v) A H0 H1 locs1 → W p l e R s m args below meth c H1 locs1 cells slots Q (F0 m (pc + 3) ls rest)) : W p l e R s m args below meth c H locs cells slots Q (F0 m pc ls (.int v :: .ref h :: rest)) := by
  obtain ⟨hx, hb, hts, hin, hown, hK⟩ := X
  exact va_put (D := (dC, dI)) (ci := 4) (v := .int v) (ty := .int) (C := RX5) (T := TX5) (N := 21) hx hb hts hin tyX5 tyX5_ok nmX5 hown hK G.1 G.2.1 G.2.2 0 rfl rfl 17 (by decide) (hts _ hl) (fun _ h9 => h9) rfl (by decide +kernel) rfl rfl (Nat.le_of_ble_eq_true rfl) hdg (fun H1 locs1 hP hD hS => kk H1 locs1 ⟨hP, hD, hS⟩)
theorem m_get_18 (X : mX p s m args c cc Ts dC dI cI cJ) (G : mH dC dI h ad cI cJ σ A H0 H locs) (hl : Cond.fieldLink RX5 index "DeskStackModel" "over" "Z" ∈ Ts) (hdg : decode cc pc = .ok (.getfield index, 3)) (kk : W p l e R s m args below meth c H locs cells slots Q (F0 m (pc + 3) ls (.int (σ.1 18) :: rest))) : W p l e R s m args below meth c H locs cells slots Q (F0 m pc ls (.ref h :: rest)) := by
  obtain ⟨hx, hb, hts, hin, hown, hK⟩ := X
  exact va_get (D := (dC, dI)) (ci := 4) (C := RX5) (T := TX5) (N := 21) hx hb hts hin hown hK G.1 0 rfl rfl 18 (by decide) (hts _ hl) (fun _ h9 => h9) rfl hdg kk
theorem m_put_18 (X : mX p s m args c cc Ts dC dI cI cJ) (G : mH dC dI h ad cI cJ σ A H0 H locs) {v : Int32} (hz : narrow .boolean (.int v) = .int v) (hf : fits .boolean (.int v) = true) (hl : Cond.fieldLink RX5 index "DeskStackModel" "over" "Z" ∈ Ts) (hdg : decode cc pc = .ok (.putfield index, 3)) (kk : ∀ (H1 : Heap) (locs1 : List Loc), mH dC dI h ad cI cJ (si σ 18 v) A H0 H1 locs1 → W p l e R s m args below meth c H1 locs1 cells slots Q (F0 m (pc + 3) ls rest)) : W p l e R s m args below meth c H locs cells slots Q (F0 m pc ls (.int v :: .ref h :: rest)) := by
  obtain ⟨hx, hb, hts, hin, hown, hK⟩ := X
  exact va_put (D := (dC, dI)) (ci := 4) (v := .int v) (ty := .boolean) (C := RX5) (T := TX5) (N := 21) hx hb hts hin tyX5 tyX5_ok nmX5 hown hK G.1 G.2.1 G.2.2 0 rfl rfl 18 (by decide) (hts _ hl) (fun _ h9 => h9) rfl (by decide +kernel) hz hf (Nat.le_of_ble_eq_true rfl) hdg (fun H1 locs1 hP hD hS => kk H1 locs1 ⟨hP, hD, hS⟩)
theorem m_get_19 (X : mX p s m args c cc Ts dC dI cI cJ) (G : mH dC dI h ad cI cJ σ A H0 H locs) (hl : Cond.fieldLink RX5 index "DeskStackModel" "m" "J" ∈ Ts) (hdg : decode cc pc = .ok (.getfield index, 3)) (kk : W p l e R s m args below meth c H locs cells slots Q (F0 m (pc + 3) ls (.long σ.2.1 :: rest))) : W p l e R s m args below meth c H locs cells slots Q (F0 m pc ls (.ref h :: rest)) := by
  obtain ⟨hx, hb, hts, hin, hown, hK⟩ := X
  exact va_get (D := (dC, dI)) (ci := 4) (C := RX5) (T := TX5) (N := 21) hx hb hts hin hown hK G.1 0 rfl rfl 19 (by decide) (hts _ hl) (fun _ h9 => h9) rfl hdg kk
theorem m_put_19 (X : mX p s m args c cc Ts dC dI cI cJ) (G : mH dC dI h ad cI cJ σ A H0 H locs) {v : Int64} (hl : Cond.fieldLink RX5 index "DeskStackModel" "m" "J" ∈ Ts) (hdg : decode cc pc = .ok (.putfield index, 3)) (kk : ∀ (H1 : Heap) (locs1 : List Loc), mH dC dI h ad cI cJ (sm σ v) A H0 H1 locs1 → W p l e R s m args below meth c H1 locs1 cells slots Q (F0 m (pc + 3) ls rest)) : W p l e R s m args below meth c H locs cells slots Q (F0 m pc ls (.long v :: .ref h :: rest)) := by
  obtain ⟨hx, hb, hts, hin, hown, hK⟩ := X
  exact va_put (D := (dC, dI)) (ci := 4) (v := .long v) (ty := .long) (C := RX5) (T := TX5) (N := 21) hx hb hts hin tyX5 tyX5_ok nmX5 hown hK G.1 G.2.1 G.2.2 0 rfl rfl 19 (by decide) (hts _ hl) (fun _ h9 => h9) rfl (by decide +kernel) rfl rfl (Nat.le_of_ble_eq_true rfl) hdg (fun H1 locs1 hP hD hS => kk H1 locs1 ⟨hP, hD, hS⟩)
theorem m_get_20 (X : mX p s m args c cc Ts dC dI cI cJ) (G : mH dC dI h ad cI cJ σ A H0 H locs) (hl : Cond.fieldLink RX5 index "DeskStackModel" "s" "I" ∈ Ts) (hdg : decode cc pc = .ok (.getfield index, 3)) (kk : W p l e R s m args below meth c H locs cells slots Q (F0 m (pc + 3) ls (.int (σ.1 20) :: rest))) : W p l e R s m args below meth c H locs cells slots Q (F0 m pc ls (.ref h :: rest)) := by
  obtain ⟨hx, hb, hts, hin, hown, hK⟩ := X
  exact va_get (D := (dC, dI)) (ci := 4) (C := RX5) (T := TX5) (N := 21) hx hb hts hin hown hK G.1 0 rfl rfl 20 (by decide) (hts _ hl) (fun _ h9 => h9) rfl hdg kk
theorem m_put_20 (X : mX p s m args c cc Ts dC dI cI cJ) (G : mH dC dI h ad cI cJ σ A H0 H locs) {v : Int32} (hl : Cond.fieldLink RX5 index "DeskStackModel" "s" "I" ∈ Ts) (hdg : decode cc pc = .ok (.putfield index, 3)) (kk : ∀ (H1 : Heap) (locs1 : List Loc), mH dC dI h ad cI cJ (si σ 20 v) A H0 H1 locs1 → W p l e R s m args below meth c H1 locs1 cells slots Q (F0 m (pc + 3) ls rest)) : W p l e R s m args below meth c H locs cells slots Q (F0 m pc ls (.int v :: .ref h :: rest)) := by
  obtain ⟨hx, hb, hts, hin, hown, hK⟩ := X
  exact va_put (D := (dC, dI)) (ci := 4) (v := .int v) (ty := .int) (C := RX5) (T := TX5) (N := 21) hx hb hts hin tyX5 tyX5_ok nmX5 hown hK G.1 G.2.1 G.2.2 0 rfl rfl 20 (by decide) (hts _ hl) (fun _ h9 => h9) rfl (by decide +kernel) rfl rfl (Nat.le_of_ble_eq_true rfl) hdg (fun H1 locs1 hP hD hS => kk H1 locs1 ⟨hP, hD, hS⟩)
theorem m_ld_0 (X : mX p s m args c cc Ts dC dI cI cJ) (G : mH dC dI h ad cI cJ σ A H0 H locs) {i : Int32} (hi : vp_in i 160) (hdg : decode cc pc = .ok (.iaload, 1)) (kk : W p l e R s m args below meth c H locs cells slots Q (F0 m (pc + 1) ls (.int (σ.2.2.1 0 i.toNatClampNeg) :: rest))) : W p l e R s m args below meth c H locs cells slots Q (F0 m pc ls (.int i :: .ref (ad 0) :: rest)) := by
  obtain ⟨hx, hb, hts, hin, hown, hK⟩ := X
  exact va_iald hx hb hK G.1 1 0 rfl rfl hi hdg kk
theorem m_st_0 (X : mX p s m args c cc Ts dC dI cI cJ) (G : mH dC dI h ad cI cJ σ A H0 H locs) {i : Int32} {v : Int32} (hi : vp_in i 160) (hdg : decode cc pc = .ok (.iastore, 1)) (kk : ∀ (H1 : Heap) (locs1 : List Loc), mH dC dI h ad cI cJ (sa σ 0 i.toNatClampNeg v) A H0 H1 locs1 → W p l e R s m args below meth c H1 locs1 cells slots Q (F0 m (pc + 1) ls rest)) : W p l e R s m args below meth c H locs cells slots Q (F0 m pc ls (.int v :: .int i :: .ref (ad 0) :: rest)) := by
  obtain ⟨hx, hb, hts, hin, hown, hK⟩ := X
  exact va_iast hx hb hK G.1 G.2.1 G.2.2 1 0 rfl rfl hi hdg (fun H1 locs1 hP hD hS => kk H1 locs1 ⟨hP, hD, hS⟩)
theorem m_ld_2 (X : mX p s m args c cc Ts dC dI cI cJ) (G : mH dC dI h ad cI cJ σ A H0 H locs) {i : Int32} (hi : vp_in i 82) (hdg : decode cc pc = .ok (.laload, 1)) (kk : W p l e R s m args below meth c H locs cells slots Q (F0 m (pc + 1) ls (.long (σ.2.2.2 2 i.toNatClampNeg) :: rest))) : W p l e R s m args below meth c H locs cells slots Q (F0 m pc ls (.int i :: .ref (ad 2) :: rest)) := by
  obtain ⟨hx, hb, hts, hin, hown, hK⟩ := X
  exact va_lald hx hb hK G.1 2 1 rfl rfl hi hdg kk
theorem m_st_2 (X : mX p s m args c cc Ts dC dI cI cJ) (G : mH dC dI h ad cI cJ σ A H0 H locs) {i : Int32} {v : Int64} (hi : vp_in i 82) (hdg : decode cc pc = .ok (.lastore, 1)) (kk : ∀ (H1 : Heap) (locs1 : List Loc), mH dC dI h ad cI cJ (sb σ 2 i.toNatClampNeg v) A H0 H1 locs1 → W p l e R s m args below meth c H1 locs1 cells slots Q (F0 m (pc + 1) ls rest)) : W p l e R s m args below meth c H locs cells slots Q (F0 m pc ls (.long v :: .int i :: .ref (ad 2) :: rest)) := by
  obtain ⟨hx, hb, hts, hin, hown, hK⟩ := X
  exact va_last hx hb hK G.1 G.2.1 G.2.2 2 1 rfl rfl hi hdg (fun H1 locs1 hP hD hS => kk H1 locs1 ⟨hP, hD, hS⟩)
theorem m_ld_3 (X : mX p s m args c cc Ts dC dI cI cJ) (G : mH dC dI h ad cI cJ σ A H0 H locs) {i : Int32} (hi : vp_in i 82) (hdg : decode cc pc = .ok (.iaload, 1)) (kk : W p l e R s m args below meth c H locs cells slots Q (F0 m (pc + 1) ls (.int (σ.2.2.1 3 i.toNatClampNeg) :: rest))) : W p l e R s m args below meth c H locs cells slots Q (F0 m pc ls (.int i :: .ref (ad 3) :: rest)) := by
  obtain ⟨hx, hb, hts, hin, hown, hK⟩ := X
  exact va_iald hx hb hK G.1 3 0 rfl rfl hi hdg kk
theorem m_st_3 (X : mX p s m args c cc Ts dC dI cI cJ) (G : mH dC dI h ad cI cJ σ A H0 H locs) {i : Int32} {v : Int32} (hi : vp_in i 82) (hdg : decode cc pc = .ok (.iastore, 1)) (kk : ∀ (H1 : Heap) (locs1 : List Loc), mH dC dI h ad cI cJ (sa σ 3 i.toNatClampNeg v) A H0 H1 locs1 → W p l e R s m args below meth c H1 locs1 cells slots Q (F0 m (pc + 1) ls rest)) : W p l e R s m args below meth c H locs cells slots Q (F0 m pc ls (.int v :: .int i :: .ref (ad 3) :: rest)) := by
  obtain ⟨hx, hb, hts, hin, hown, hK⟩ := X
  exact va_iast hx hb hK G.1 G.2.1 G.2.2 3 0 rfl rfl hi hdg (fun H1 locs1 hP hD hS => kk H1 locs1 ⟨hP, hD, hS⟩)
theorem m_ld_4 (X : mX p s m args c cc Ts dC dI cI cJ) (G : mH dC dI h ad cI cJ σ A H0 H locs) {i : Int32} (hi : vp_in i 13120) (hdg : decode cc pc = .ok (.iaload, 1)) (kk : W p l e R s m args below meth c H locs cells slots Q (F0 m (pc + 1) ls (.int (σ.2.2.1 4 i.toNatClampNeg) :: rest))) : W p l e R s m args below meth c H locs cells slots Q (F0 m pc ls (.int i :: .ref (ad 4) :: rest)) := by
  obtain ⟨hx, hb, hts, hin, hown, hK⟩ := X
  exact va_iald hx hb hK G.1 4 0 rfl rfl hi hdg kk
theorem m_st_4 (X : mX p s m args c cc Ts dC dI cI cJ) (G : mH dC dI h ad cI cJ σ A H0 H locs) {i : Int32} {v : Int32} (hi : vp_in i 13120) (hdg : decode cc pc = .ok (.iastore, 1)) (kk : ∀ (H1 : Heap) (locs1 : List Loc), mH dC dI h ad cI cJ (sa σ 4 i.toNatClampNeg v) A H0 H1 locs1 → W p l e R s m args below meth c H1 locs1 cells slots Q (F0 m (pc + 1) ls rest)) : W p l e R s m args below meth c H locs cells slots Q (F0 m pc ls (.int v :: .int i :: .ref (ad 4) :: rest)) := by
  obtain ⟨hx, hb, hts, hin, hown, hK⟩ := X
  exact va_iast hx hb hK G.1 G.2.1 G.2.2 4 0 rfl rfl hi hdg (fun H1 locs1 hP hD hS => kk H1 locs1 ⟨hP, hD, hS⟩)
theorem m_ld_7 (X : mX p s m args c cc Ts dC dI cI cJ) (G : mH dC dI h ad cI cJ σ A H0 H locs) {i : Int32} (hi : vp_in i 4) (hdg : decode cc pc = .ok (.iaload, 1)) (kk : W p l e R s m args below meth c H locs cells slots Q (F0 m (pc + 1) ls (.int (σ.2.2.1 7 i.toNatClampNeg) :: rest))) : W p l e R s m args below meth c H locs cells slots Q (F0 m pc ls (.int i :: .ref (ad 7) :: rest)) := by
  obtain ⟨hx, hb, hts, hin, hown, hK⟩ := X
  exact va_iald hx hb hK G.1 5 0 rfl rfl hi hdg kk
theorem m_st_7 (X : mX p s m args c cc Ts dC dI cI cJ) (G : mH dC dI h ad cI cJ σ A H0 H locs) {i : Int32} {v : Int32} (hi : vp_in i 4) (hdg : decode cc pc = .ok (.iastore, 1)) (kk : ∀ (H1 : Heap) (locs1 : List Loc), mH dC dI h ad cI cJ (sa σ 7 i.toNatClampNeg v) A H0 H1 locs1 → W p l e R s m args below meth c H1 locs1 cells slots Q (F0 m (pc + 1) ls rest)) : W p l e R s m args below meth c H locs cells slots Q (F0 m pc ls (.int v :: .int i :: .ref (ad 7) :: rest)) := by
  obtain ⟨hx, hb, hts, hin, hown, hK⟩ := X
  exact va_iast hx hb hK G.1 G.2.1 G.2.2 5 0 rfl rfl hi hdg (fun H1 locs1 hP hD hS => kk H1 locs1 ⟨hP, hD, hS⟩)
theorem m_ld_8 (X : mX p s m args c cc Ts dC dI cI cJ) (G : mH dC dI h ad cI cJ σ A H0 H locs) {i : Int32} (hi : vp_in i 1920) (hdg : decode cc pc = .ok (.iaload, 1)) (kk : W p l e R s m args below meth c H locs cells slots Q (F0 m (pc + 1) ls (.int (σ.2.2.1 8 i.toNatClampNeg) :: rest))) : W p l e R s m args below meth c H locs cells slots Q (F0 m pc ls (.int i :: .ref (ad 8) :: rest)) := by
  obtain ⟨hx, hb, hts, hin, hown, hK⟩ := X
  exact va_iald hx hb hK G.1 6 0 rfl rfl hi hdg kk
theorem m_st_8 (X : mX p s m args c cc Ts dC dI cI cJ) (G : mH dC dI h ad cI cJ σ A H0 H locs) {i : Int32} {v : Int32} (hi : vp_in i 1920) (hdg : decode cc pc = .ok (.iastore, 1)) (kk : ∀ (H1 : Heap) (locs1 : List Loc), mH dC dI h ad cI cJ (sa σ 8 i.toNatClampNeg v) A H0 H1 locs1 → W p l e R s m args below meth c H1 locs1 cells slots Q (F0 m (pc + 1) ls rest)) : W p l e R s m args below meth c H locs cells slots Q (F0 m pc ls (.int v :: .int i :: .ref (ad 8) :: rest)) := by
  obtain ⟨hx, hb, hts, hin, hown, hK⟩ := X
  exact va_iast hx hb hK G.1 G.2.1 G.2.2 6 0 rfl rfl hi hdg (fun H1 locs1 hP hD hS => kk H1 locs1 ⟨hP, hD, hS⟩)
theorem m_ld_9 (X : mX p s m args c cc Ts dC dI cI cJ) (G : mH dC dI h ad cI cJ σ A H0 H locs) {i : Int32} (hi : vp_in i 12) (hdg : decode cc pc = .ok (.iaload, 1)) (kk : W p l e R s m args below meth c H locs cells slots Q (F0 m (pc + 1) ls (.int (σ.2.2.1 9 i.toNatClampNeg) :: rest))) : W p l e R s m args below meth c H locs cells slots Q (F0 m pc ls (.int i :: .ref (ad 9) :: rest)) := by
  obtain ⟨hx, hb, hts, hin, hown, hK⟩ := X
  exact va_iald hx hb hK G.1 7 0 rfl rfl hi hdg kk
theorem m_st_9 (X : mX p s m args c cc Ts dC dI cI cJ) (G : mH dC dI h ad cI cJ σ A H0 H locs) {i : Int32} {v : Int32} (hi : vp_in i 12) (hdg : decode cc pc = .ok (.iastore, 1)) (kk : ∀ (H1 : Heap) (locs1 : List Loc), mH dC dI h ad cI cJ (sa σ 9 i.toNatClampNeg v) A H0 H1 locs1 → W p l e R s m args below meth c H1 locs1 cells slots Q (F0 m (pc + 1) ls rest)) : W p l e R s m args below meth c H locs cells slots Q (F0 m pc ls (.int v :: .int i :: .ref (ad 9) :: rest)) := by
  obtain ⟨hx, hb, hts, hin, hown, hK⟩ := X
  exact va_iast hx hb hK G.1 G.2.1 G.2.2 7 0 rfl rfl hi hdg (fun H1 locs1 hP hD hS => kk H1 locs1 ⟨hP, hD, hS⟩)
theorem m_ld_10 (X : mX p s m args c cc Ts dC dI cI cJ) (G : mH dC dI h ad cI cJ σ A H0 H locs) {i : Int32} (hi : vp_in i 12) (hdg : decode cc pc = .ok (.iaload, 1)) (kk : W p l e R s m args below meth c H locs cells slots Q (F0 m (pc + 1) ls (.int (σ.2.2.1 10 i.toNatClampNeg) :: rest))) : W p l e R s m args below meth c H locs cells slots Q (F0 m pc ls (.int i :: .ref (ad 10) :: rest)) := by
  obtain ⟨hx, hb, hts, hin, hown, hK⟩ := X
  exact va_iald hx hb hK G.1 8 0 rfl rfl hi hdg kk
theorem m_st_10 (X : mX p s m args c cc Ts dC dI cI cJ) (G : mH dC dI h ad cI cJ σ A H0 H locs) {i : Int32} {v : Int32} (hi : vp_in i 12) (hdg : decode cc pc = .ok (.iastore, 1)) (kk : ∀ (H1 : Heap) (locs1 : List Loc), mH dC dI h ad cI cJ (sa σ 10 i.toNatClampNeg v) A H0 H1 locs1 → W p l e R s m args below meth c H1 locs1 cells slots Q (F0 m (pc + 1) ls rest)) : W p l e R s m args below meth c H locs cells slots Q (F0 m pc ls (.int v :: .int i :: .ref (ad 10) :: rest)) := by
  obtain ⟨hx, hb, hts, hin, hown, hK⟩ := X
  exact va_iast hx hb hK G.1 G.2.1 G.2.2 8 0 rfl rfl hi hdg (fun H1 locs1 hP hD hS => kk H1 locs1 ⟨hP, hD, hS⟩)
theorem m_ld_12 (X : mX p s m args c cc Ts dC dI cI cJ) (G : mH dC dI h ad cI cJ σ A H0 H locs) {i : Int32} (hi : vp_in i 40) (hdg : decode cc pc = .ok (.laload, 1)) (kk : W p l e R s m args below meth c H locs cells slots Q (F0 m (pc + 1) ls (.long (σ.2.2.2 12 i.toNatClampNeg) :: rest))) : W p l e R s m args below meth c H locs cells slots Q (F0 m pc ls (.int i :: .ref (ad 12) :: rest)) := by
  obtain ⟨hx, hb, hts, hin, hown, hK⟩ := X
  exact va_lald hx hb hK G.1 9 1 rfl rfl hi hdg kk
theorem m_st_12 (X : mX p s m args c cc Ts dC dI cI cJ) (G : mH dC dI h ad cI cJ σ A H0 H locs) {i : Int32} {v : Int64} (hi : vp_in i 40) (hdg : decode cc pc = .ok (.lastore, 1)) (kk : ∀ (H1 : Heap) (locs1 : List Loc), mH dC dI h ad cI cJ (sb σ 12 i.toNatClampNeg v) A H0 H1 locs1 → W p l e R s m args below meth c H1 locs1 cells slots Q (F0 m (pc + 1) ls rest)) : W p l e R s m args below meth c H locs cells slots Q (F0 m pc ls (.long v :: .int i :: .ref (ad 12) :: rest)) := by
  obtain ⟨hx, hb, hts, hin, hown, hK⟩ := X
  exact va_last hx hb hK G.1 G.2.1 G.2.2 9 1 rfl rfl hi hdg (fun H1 locs1 hP hD hS => kk H1 locs1 ⟨hP, hD, hS⟩)
theorem m_ld_13 (X : mX p s m args c cc Ts dC dI cI cJ) (G : mH dC dI h ad cI cJ σ A H0 H locs) {i : Int32} (hi : vp_in i 40) (hdg : decode cc pc = .ok (.iaload, 1)) (kk : W p l e R s m args below meth c H locs cells slots Q (F0 m (pc + 1) ls (.int (σ.2.2.1 13 i.toNatClampNeg) :: rest))) : W p l e R s m args below meth c H locs cells slots Q (F0 m pc ls (.int i :: .ref (ad 13) :: rest)) := by
  obtain ⟨hx, hb, hts, hin, hown, hK⟩ := X
  exact va_iald hx hb hK G.1 10 0 rfl rfl hi hdg kk
theorem m_st_13 (X : mX p s m args c cc Ts dC dI cI cJ) (G : mH dC dI h ad cI cJ σ A H0 H locs) {i : Int32} {v : Int32} (hi : vp_in i 40) (hdg : decode cc pc = .ok (.iastore, 1)) (kk : ∀ (H1 : Heap) (locs1 : List Loc), mH dC dI h ad cI cJ (sa σ 13 i.toNatClampNeg v) A H0 H1 locs1 → W p l e R s m args below meth c H1 locs1 cells slots Q (F0 m (pc + 1) ls rest)) : W p l e R s m args below meth c H locs cells slots Q (F0 m pc ls (.int v :: .int i :: .ref (ad 13) :: rest)) := by
  obtain ⟨hx, hb, hts, hin, hown, hK⟩ := X
  exact va_iast hx hb hK G.1 G.2.1 G.2.2 10 0 rfl rfl hi hdg (fun H1 locs1 hP hD hS => kk H1 locs1 ⟨hP, hD, hS⟩)
theorem m_iret {A1 : Nat → Prop} {v : Int32} {post : Int32 → MS → Prop} (X : mX p s m args c cc Ts dC dI cI cJ) (G : mH dC dI h ad cI cJ σ A1 s.heap H locs) (hr : meth.sig.returnType = some .int) (hlocks : meth.locks = false) (hq : post v σ) (hdg : decode cc pc = .ok (.ireturn, 1)) : W p l e R s m args below meth c H locs cells slots (MQ below (va_Qi post (mAt dC dI cI cJ h ad A1) A1) args s cells slots A1) (F0 m pc ls [.int v]) := by
  obtain ⟨hx, hb, hts, hin, hown, hK⟩ := X
  exact W.iret hx hb hr (fun t ht hW => ⟨⟨v, σ, rfl, hq, by rw [ht]; exact G.1, va_K.moved hW.alike hK, G.2.1⟩, G.2.2.F ht⟩) G.2.2.2.2 hdg hlocks
theorem m_lret {A1 : Nat → Prop} {v : Int64} {post : Int64 → MS → Prop} (X : mX p s m args c cc Ts dC dI cI cJ) (G : mH dC dI h ad cI cJ σ A1 s.heap H locs) (hr : meth.sig.returnType = some .long) (hlocks : meth.locks = false) (hq : post v σ) (hdg : decode cc pc = .ok (.lreturn, 1)) : W p l e R s m args below meth c H locs cells slots (MQ below (va_Ql post (mAt dC dI cI cJ h ad A1) A1) args s cells slots A1) (F0 m pc ls [.long v]) := by
  obtain ⟨hx, hb, hts, hin, hown, hK⟩ := X
  exact W.lret hx hb hr (fun t ht hW => ⟨⟨v, σ, rfl, hq, by rw [ht]; exact G.1, va_K.moved hW.alike hK, G.2.1⟩, G.2.2.F ht⟩) G.2.2.2.2 hdg hlocks
theorem m_zret {A1 : Nat → Prop} {v : Int32} {post : Int32 → MS → Prop} (X : mX p s m args c cc Ts dC dI cI cJ) (G : mH dC dI h ad cI cJ σ A1 s.heap H locs) (hr : meth.sig.returnType = some .boolean) (hlocks : meth.locks = false) (hn : narrow .boolean (.int v) = .int v) (hq : post v σ) (hdg : decode cc pc = .ok (.ireturn, 1)) : W p l e R s m args below meth c H locs cells slots (MQ below (va_Qi post (mAt dC dI cI cJ h ad A1) A1) args s cells slots A1) (F0 m pc ls [.int v]) := by
  obtain ⟨hx, hb, hts, hin, hown, hK⟩ := X
  exact W.zret hx hb hr hn (fun t ht hW => ⟨⟨v, σ, rfl, hq, by rw [ht]; exact G.1, va_K.moved hW.alike hK, G.2.1⟩, G.2.2.F ht⟩) G.2.2.2.2 hdg hlocks
theorem m_vret {A1 : Nat → Prop} {post : MS → Prop} (X : mX p s m args c cc Ts dC dI cI cJ) (G : mH dC dI h ad cI cJ σ A1 s.heap H locs) (hr : meth.sig.returnType = none) (hlocks : meth.locks = false) (hq : post σ) (hdg : decode cc pc = .ok (.return_, 1)) : W p l e R s m args below meth c H locs cells slots (MQ below (va_Qv post (mAt dC dI cI cJ h ad A1) A1) args s cells slots A1) (F0 m pc ls []) := by
  obtain ⟨hx, hb, hts, hin, hown, hK⟩ := X
  exact W.vret hx hb hr (fun t ht hW => ⟨⟨σ, rfl, hq, by rw [ht]; exact G.1, va_K.moved hW.alike hK, G.2.1⟩, G.2.2.F ht⟩) G.2.2.2.2 hdg hlocks
theorem m_calli {y : MethodName} {bytes : ByteArray} {maxL nL n : Nat} {ret : Option FieldType} {ws : List Cond} {rm : Room} {As : List Value} {post : Int32 → MS → Prop} (X : mX p s m args c cc Ts dC dI cI cJ) (hml : c.maxLocals = nL) (G : mH dC dI h ad cI cJ σ A H0 H locs) (hA : ∀ q : Nat, H0.size ≤ q → A q) (hM : Met l y ws rm (va_Pc (.ref h :: As) (mPre dC dI cI cJ h ad H.size σ)) (va_Qi post (mAt dC dI cI cJ h ad (mA h ad cI cJ σ H.size)) (mA h ad cI cJ σ H.size)) 0 0 (mA h ad cI cJ σ H.size)) (cw : CallW R s args RX5 RX5 index y bytes maxL ret ws rm 0 0 n) (hn : As.length = n) (hsize : ls.size = nL) (hst : st0 = As.reverse ++ .ref h :: rest) (hW : (rest.map fun v => v.category).sum ≤ 8) (hdg : decode cc pc = .ok (.invokevirtual index, 3)) (hf : cells ≤ R.cells ∧ slots ≤ R.slots) (kk : ∀ (r : Int32) (u : MS) (H1 : Heap) (locs1 : List Loc), post r u → mH dC dI h ad cI cJ u A H0 H1 locs1 → W p l e R s m args below meth c H1 locs1 cells slots Q (F0 m (pc + 3) ls (.int r :: rest))) : W p l e R s m args below meth c H locs cells slots Q (F0 m pc ls st0) := by
  obtain ⟨hx, hb, hts, hin, hown, hK⟩ := X
  obtain ⟨hP, hD, hS⟩ := G
  have hFc := va_free (wc := mW h ad cI cJ σ) hD hS hA [0, 1, 2, 3, 4, 5, 6, 7, 8, 9, 10] rfl
  refine va_calli (va_runV (As := As) (rest := rest) ⟨hx, hb, hml, hown, hts⟩ hM cw ⟨fun a U g mk q => by obtain ⟨q0, q1, qP, qK, qD⟩ := q; exact ⟨q0, q1, qP, va_K.moved (u := U) (U := U.calling g mk a) (Vm.Alike.refl U.vm) qK, qD⟩, va_recv hK hP (ci := 4) (q0 := 0) rfl rfl, fun U hU hW => ⟨rfl, by rw [hU], by rw [hU]; exact hP, va_K.moved hW.alike hK, hD.weaken (fun _ _ _ _ => trivial)⟩⟩ rfl hn hsize hst (lv_room hW) hdg hf) hS (fun q _ h => hFc q h) hFc (fun r u t H1 locs ht hvm hw hB hz1 hk1 hS => ?_)
  obtain ⟨hP1, hK1, hD1⟩ := hB
  rw [ht] at hP1
  obtain ⟨hP, hD⟩ := va_join (wr := []) (w1 := mW h ad cI cJ u) hP hD [0, 1, 2, 3, 4, 5, 6, 7, 8, 9, 10] [] rfl rfl (by decide) (by decide) hk1 hFc hP1 hD1
  exact kk r u H1 locs hw ⟨hP, hD, hS⟩
theorem m_calll {y : MethodName} {bytes : ByteArray} {maxL nL n : Nat} {ret : Option FieldType} {ws : List Cond} {rm : Room} {As : List Value} {post : Int64 → MS → Prop} (X : mX p s m args c cc Ts dC dI cI cJ) (hml : c.maxLocals = nL) (G : mH dC dI h ad cI cJ σ A H0 H locs) (hA : ∀ q : Nat, H0.size ≤ q → A q) (hM : Met l y ws rm (va_Pc (.ref h :: As) (mPre dC dI cI cJ h ad H.size σ)) (va_Ql post (mAt dC dI cI cJ h ad (mA h ad cI cJ σ H.size)) (mA h ad cI cJ σ H.size)) 0 0 (mA h ad cI cJ σ H.size)) (cw : CallW R s args RX5 RX5 index y bytes maxL ret ws rm 0 0 n) (hn : As.length = n) (hsize : ls.size = nL) (hst : st0 = As.reverse ++ .ref h :: rest) (hW : (rest.map fun v => v.category).sum ≤ 8) (hdg : decode cc pc = .ok (.invokevirtual index, 3)) (hf : cells ≤ R.cells ∧ slots ≤ R.slots) (kk : ∀ (r : Int64) (u : MS) (H1 : Heap) (locs1 : List Loc), post r u → mH dC dI h ad cI cJ u A H0 H1 locs1 → W p l e R s m args below meth c H1 locs1 cells slots Q (F0 m (pc + 3) ls (.long r :: rest))) : W p l e R s m args below meth c H locs cells slots Q (F0 m pc ls st0) := by
  obtain ⟨hx, hb, hts, hin, hown, hK⟩ := X
  obtain ⟨hP, hD, hS⟩ := G
  have hFc := va_free (wc := mW h ad cI cJ σ) hD hS hA [0, 1, 2, 3, 4, 5, 6, 7, 8, 9, 10] rfl
  refine va_calll (va_runV (As := As) (rest := rest) ⟨hx, hb, hml, hown, hts⟩ hM cw ⟨fun a U g mk q => by obtain ⟨q0, q1, qP, qK, qD⟩ := q; exact ⟨q0, q1, qP, va_K.moved (u := U) (U := U.calling g mk a) (Vm.Alike.refl U.vm) qK, qD⟩, va_recv hK hP (ci := 4) (q0 := 0) rfl rfl, fun U hU hW => ⟨rfl, by rw [hU], by rw [hU]; exact hP, va_K.moved hW.alike hK, hD.weaken (fun _ _ _ _ => trivial)⟩⟩ rfl hn hsize hst (lv_room hW) hdg hf) hS (fun q _ h => hFc q h) hFc (fun r u t H1 locs ht hvm hw hB hz1 hk1 hS => ?_)
  obtain ⟨hP1, hK1, hD1⟩ := hB
  rw [ht] at hP1
  obtain ⟨hP, hD⟩ := va_join (wr := []) (w1 := mW h ad cI cJ u) hP hD [0, 1, 2, 3, 4, 5, 6, 7, 8, 9, 10] [] rfl rfl (by decide) (by decide) hk1 hFc hP1 hD1
  exact kk r u H1 locs hw ⟨hP, hD, hS⟩
theorem m_callv {y : MethodName} {bytes : ByteArray} {maxL nL n : Nat} {ret : Option FieldType} {ws : List Cond} {rm : Room} {As : List Value} {post : MS → Prop} (X : mX p s m args c cc Ts dC dI cI cJ) (hml : c.maxLocals = nL) (G : mH dC dI h ad cI cJ σ A H0 H locs) (hA : ∀ q : Nat, H0.size ≤ q → A q) (hM : Met l y ws rm (va_Pc (.ref h :: As) (mPre dC dI cI cJ h ad H.size σ)) (va_Qv post (mAt dC dI cI cJ h ad (mA h ad cI cJ σ H.size)) (mA h ad cI cJ σ H.size)) 0 0 (mA h ad cI cJ σ H.size)) (cw : CallW R s args RX5 RX5 index y bytes maxL ret ws rm 0 0 n) (hn : As.length = n) (hsize : ls.size = nL) (hst : st0 = As.reverse ++ .ref h :: rest) (hW : (rest.map fun v => v.category).sum ≤ 8) (hdg : decode cc pc = .ok (.invokevirtual index, 3)) (hf : cells ≤ R.cells ∧ slots ≤ R.slots) (kk : ∀ (u : MS) (H1 : Heap) (locs1 : List Loc), post u → mH dC dI h ad cI cJ u A H0 H1 locs1 → W p l e R s m args below meth c H1 locs1 cells slots Q (F0 m (pc + 3) ls (rest))) : W p l e R s m args below meth c H locs cells slots Q (F0 m pc ls st0) := by
  obtain ⟨hx, hb, hts, hin, hown, hK⟩ := X
  obtain ⟨hP, hD, hS⟩ := G
  have hFc := va_free (wc := mW h ad cI cJ σ) hD hS hA [0, 1, 2, 3, 4, 5, 6, 7, 8, 9, 10] rfl
  refine va_callv (va_runV (As := As) (rest := rest) ⟨hx, hb, hml, hown, hts⟩ hM cw ⟨fun a U g mk q => by obtain ⟨q0, q1, qP, qK, qD⟩ := q; exact ⟨q0, q1, qP, va_K.moved (u := U) (U := U.calling g mk a) (Vm.Alike.refl U.vm) qK, qD⟩, va_recv hK hP (ci := 4) (q0 := 0) rfl rfl, fun U hU hW => ⟨rfl, by rw [hU], by rw [hU]; exact hP, va_K.moved hW.alike hK, hD.weaken (fun _ _ _ _ => trivial)⟩⟩ rfl hn hsize hst (lv_room hW) hdg hf) hS (fun q _ h => hFc q h) hFc (fun u t H1 locs ht hvm hw hB hz1 hk1 hS => ?_)
  obtain ⟨hP1, hK1, hD1⟩ := hB
  rw [ht] at hP1
  obtain ⟨hP, hD⟩ := va_join (wr := []) (w1 := mW h ad cI cJ u) hP hD [0, 1, 2, 3, 4, 5, 6, 7, 8, 9, 10] [] rfl rfl (by decide) (by decide) hk1 hFc hP1 hD1
  exact kk u H1 locs hw ⟨hP, hD, hS⟩
theorem m_ofW {y : MethodName} {ws ws' : List Cond} {rm : Room} {vs : List Value} {Qc : Array Value → State → Outcome → State → Prop} {mc ms maxL sz : Nat} {ret : Option FieldType} (hy : plainName y.cls = true) (hw : ws = Cond.code y cc maxL ret :: ws') (hin : ∀ w ∈ wsX50, w ∈ ws) (hcls : y.cls = RX5) (hvs : (lg_sl vs).length ≤ maxL)
    (body : ∀ (p : Program) (e : Env) (s : State) (m : MethodId) (below : List Frame) (meth : Method) (c : Code), mX p s m vs.toArray c cc ws dC dI cI cJ → mH dC dI h ad cI cJ σ (mA h ad cI cJ σ sz) s.heap s.heap [] → (∀ q : Nat, s.heap.size ≤ q → mA h ad cI cJ σ sz q) → meth.sig.returnType = ret → meth.locks = false → c.maxLocals = maxL → ∀ ls : Array Slot, lv_has ls maxL (lv_args 0 vs) → W p l e rm s m vs.toArray below meth c s.heap [] 0 0 (MQ below Qc vs.toArray s mc ms (mA h ad cI cJ σ sz)) (F0 m 0 ls [])) :
    Met l y ws rm (va_Pc vs (mPre dC dI cI cJ h ad sz σ)) Qc mc ms (mA h ad cI cJ σ sz) := by
  refine Met.ofW (cc := cc) (maxL := maxL) (ret := ret) hy hw ?_
  intro p e s m args below meth c s₁ B hml hv
  obtain ⟨rfl, hsz, hP, hK, hD0⟩ := hv
  subst hsz
  have hown : s.vm.findClass y.cls = some m.cls := findClass_of_methodNamed B.named
  rw [hcls] at hown
  rw [lg_entry_eq]
  exact body p e s m below meth c ⟨B.exec, B.bytes, atoms_spec (ws := ws) B.pre, hin, hown, hK⟩ ⟨hP, hD0.self, va_S.rf⟩ (fun q h => Or.inr h) B.returns B.notSynchronized hml _ (lv_entry vs hvs)
end MB
