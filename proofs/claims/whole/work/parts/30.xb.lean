abbrev XS : Type := (Nat → Int32) × (Nat → Nat → Int32) × (Nat → Nat → Int64) × (Nat → Nat → Option Nat) × Nat × Nat
def xi (σ : XS) (k : Nat) (v : Int32) : XS := (upd σ.1 k v, σ.2)
def xa (σ : XS) (k j : Nat) (v : Int32) : XS := (σ.1, (fun q => if q = k then upd (σ.2.1 k) j v else σ.2.1 q), σ.2.2)
def xb (σ : XS) (k j : Nat) (v : Int64) : XS := (σ.1, σ.2.1, (fun q => if q = k then vp_updL (σ.2.2.1 k) j v else σ.2.2.1 q), σ.2.2.2)
def xr (σ : XS) (k j : Nat) (v : Option Nat) : XS := (σ.1, σ.2.1, σ.2.2.1, (fun q => if q = k then va_up (σ.2.2.2.1 k) j v else σ.2.2.2.1 q), σ.2.2.2.2)
def xp (σ : XS) (v : Nat) : XS := (σ.1, σ.2.1, σ.2.2.1, σ.2.2.2.1, v, σ.2.2.2.2.2)
def xn (σ : XS) : Nat := 36 + 2 * σ.2.2.2.2.2
def xv (σ : XS) (n : Nat) : Prop := 36 ≤ n ∧ n % 2 = 0 ∧ n < xn σ
def shN : List Nat := [6, 11, 16, 21, 26, 31]
def xlen (n : Nat) : Nat := if n < 11 then 40 else if n < 31 then 10 else 40
def xT (kc : Nat → ClassId) : List (ClassId × FieldType) := [(kc 0, .int), (kc 1, .long), (kc 2, .byte), (kc 3, .object "DeskStack$Row"), (kc 4, .object "DeskStack$Shelf")]
def xe (kc : Nat → ClassId) (ad : Nat → Nat) (n : Nat) (i : Int32) (a : Nat → Int32) (b : Nat → Int64) (r : Nat → Option Nat) : va_E :=
  if n = 1 then .inl (kc 4, 4, .inr (.inr (.inr (.inr (fun j => some (ad (if j < 4 then 11 + 5 * j else 11)))))))
  else if n = 2 then .inr (0, [.ref (ad 3), .ref (ad 4), .ref (ad 5), .int i])
  else if n = 3 then .inl (kc 3, 12, .inr (.inr (.inr (.inr (fun j => (r j).map ad)))))
  else if n = 4 then .inl (kc 0, 12, .inl a)
  else if n = 5 then .inl (kc 0, 12, .inl a)
  else if n < 36 then (if (n - 6) % 5 = 0 then .inr (2, [.ref (ad (n + 1)), .ref (ad (n + 2)), .ref (ad (n + 3)), .ref (ad (n + 4)), .int i])
    else if (n - 6) % 5 = 1 then .inl (kc 1, xlen n, .inr (.inl b))
    else if (n - 6) % 5 = 3 then .inl (kc 3, xlen n, .inr (.inr (.inr (.inr (fun j => (r j).map ad)))))
    else .inl (kc 0, xlen n, .inl a))
  else if n % 2 = 0 then .inr (1, [.ref (ad (n + 1)), .int i]) else .inl (kc 2, 160, .inl a)
def xc (kc : Nat → ClassId) (ad : Nat → Nat) (σ : XS) (n : Nat) : va_E :=
  if n = 0 then .inr (3, [.ref (ad 6), .ref (ad 1), .ref (ad 31), .ref (ad 2), .ref (ad σ.2.2.2.2.1), .int (σ.1 0), .int (σ.1 1)])
  else xe kc ad n (σ.1 n) (σ.2.1 n) (σ.2.2.1 n) (σ.2.2.2.1 n)
def xW (kc : Nat → ClassId) (ad : Nat → Nat) (σ : XS) : va_W := (List.range (xn σ)).map (fun n => (ad n, xc kc ad σ n))
abbrev xA (kc : Nat → ClassId) (ad : Nat → Nat) (σ : XS) (sz : Nat) : Nat → Prop := va_A (xW kc ad σ) sz
section XB0
variable {kc : Nat → ClassId} {ad : Nat → Nat} {σ τ : XS} {n k c0 : Nat}
theorem shN_cases (h : c0 ∈ shN) : c0 = 6 ∨ c0 = 11 ∨ c0 = 16 ∨ c0 = 21 ∨ c0 = 26 ∨ c0 = 31 := by
  simpa only [shN, List.mem_cons, List.not_mem_nil, or_false] using h
theorem shN_lt (h : c0 ∈ shN) : c0 + 4 < 36 ∧ 6 ≤ c0 := by
  rcases shN_cases h with rfl | rfl | rfl | rfl | rfl | rfl <;> decide
theorem xn_ge : 36 ≤ xn σ := by unfold xn; omega
theorem xW_at (h : n < xn σ) : (xW kc ad σ)[n]? = some (ad n, xc kc ad σ n) := by
  simp [xW, h]
theorem xW_no (h : ¬ n < xn σ) : (xW kc ad σ)[n]? = none := by
  simp [xW]; omega
theorem xW_set {e : va_E} (hN : τ.2.2.2.2.2 = σ.2.2.2.2.2) (he : e = xc kc ad τ k) (h : ∀ n, n ≠ k → xc kc ad τ n = xc kc ad σ n) : (xW kc ad σ).set k (ad k, e) = xW kc ad τ := by
  subst he
  have hx : xn τ = xn σ := by unfold xn; rw [hN]
  apply List.ext_getElem?
  intro n
  by_cases hl : n < xn σ
  · rw [xW_at (hx ▸ hl)]
    by_cases hn : n = k
    · subst hn
      rw [List.getElem?_set_self (by simp [xW]; exact hl)]
    · rw [List.getElem?_set_ne (Ne.symm hn), xW_at hl, h n hn]
  · rw [xW_no (hx ▸ hl)]
    apply List.getElem?_eq_none
    simp [xW]; omega
theorem xc_sh (h : c0 ∈ shN) : xc kc ad σ c0 = .inr (2, [.ref (ad (c0 + 1)), .ref (ad (c0 + 2)), .ref (ad (c0 + 3)), .ref (ad (c0 + 4)), .int (σ.1 c0)]) := by
  rcases shN_cases h with rfl | rfl | rfl | rfl | rfl | rfl <;> rfl
theorem xc_sh1 (h : c0 ∈ shN) : xc kc ad σ (c0 + 1) = .inl (kc 1, xlen c0, .inr (.inl (σ.2.2.1 (c0 + 1)))) := by
  rcases shN_cases h with rfl | rfl | rfl | rfl | rfl | rfl <;> rfl
theorem xc_sh2 (h : c0 ∈ shN) : xc kc ad σ (c0 + 2) = .inl (kc 0, xlen c0, .inl (σ.2.1 (c0 + 2))) := by
  rcases shN_cases h with rfl | rfl | rfl | rfl | rfl | rfl <;> rfl
theorem xc_sh3 (h : c0 ∈ shN) : xc kc ad σ (c0 + 3) = .inl (kc 3, xlen c0, .inr (.inr (.inr (.inr (fun j => (σ.2.2.2.1 (c0 + 3) j).map ad))))) := by
  rcases shN_cases h with rfl | rfl | rfl | rfl | rfl | rfl <;> rfl
theorem xc_sh4 (h : c0 ∈ shN) : xc kc ad σ (c0 + 4) = .inl (kc 0, xlen c0, .inl (σ.2.1 (c0 + 4))) := by
  rcases shN_cases h with rfl | rfl | rfl | rfl | rfl | rfl <;> rfl
theorem xc_row (h : xv σ n) : xc kc ad σ n = .inr (1, [.ref (ad (n + 1)), .int (σ.1 n)]) := by
  obtain ⟨h1, h2, -⟩ := h
  unfold xc xe
  rw [if_neg (by omega), if_neg (by omega), if_neg (by omega), if_neg (by omega), if_neg (by omega), if_neg (by omega), if_neg (by omega), if_pos h2]
theorem xc_bytes (h : xv σ n) : xc kc ad σ (n + 1) = .inl (kc 2, 160, .inl (σ.2.1 (n + 1))) := by
  obtain ⟨h1, h2, -⟩ := h
  unfold xc xe
  rw [if_neg (by omega), if_neg (by omega), if_neg (by omega), if_neg (by omega), if_neg (by omega), if_neg (by omega), if_neg (by omega), if_neg (by omega)]
theorem xv_lt (h : xv σ n) : n + 1 < xn σ := by
  obtain ⟨h1, h2, h3⟩ := h
  unfold xn at *
  omega
theorem xW_sh (h : c0 ∈ shN) : (xW kc ad σ)[c0]? = some (ad c0, .inr (2, [.ref (ad (c0 + 1)), .ref (ad (c0 + 2)), .ref (ad (c0 + 3)), .ref (ad (c0 + 4)), .int (σ.1 c0)])) := by
  rw [xW_at (by have := shN_lt h; have := xn_ge (σ := σ); omega), xc_sh h]
theorem xW_row (h : xv σ n) : (xW kc ad σ)[n]? = some (ad n, .inr (1, [.ref (ad (n + 1)), .int (σ.1 n)])) := by
  rw [xW_at h.2.2, xc_row h]
theorem xW_nest : (xW kc ad σ)[2]? = some (ad 2, .inr (0, [.ref (ad 3), .ref (ad 4), .ref (ad 5), .int (σ.1 2)])) := xW_at (by have := xn_ge (σ := σ); omega)
theorem xW_desk : (xW kc ad σ)[0]? = some (ad 0, .inr (3, [.ref (ad 6), .ref (ad 1), .ref (ad 31), .ref (ad 2), .ref (ad σ.2.2.2.2.1), .int (σ.1 0), .int (σ.1 1)])) := xW_at (by have := xn_ge (σ := σ); omega)
theorem xW_regs : (xW kc ad σ)[1]? = some (ad 1, .inl (kc 4, 4, .inr (.inr (.inr (.inr (fun j => some (ad (if j < 4 then 11 + 5 * j else 11)))))))) := xW_at (by have := xn_ge (σ := σ); omega)
/-- a cell number of an int row, a long row, a row of rows, with its length -/
def xI (n L : Nat) : Prop := n < 36 ∧ ∀ (kc : Nat → ClassId) (ad : Nat → Nat) (σ : XS), xc kc ad σ n = .inl (kc 0, L, .inl (σ.2.1 n))
def xJ (n L : Nat) : Prop := n < 36 ∧ ∀ (kc : Nat → ClassId) (ad : Nat → Nat) (σ : XS), xc kc ad σ n = .inl (kc 1, L, .inr (.inl (σ.2.2.1 n)))
def xQ (n L : Nat) : Prop := n < 36 ∧ ∀ (kc : Nat → ClassId) (ad : Nat → Nat) (σ : XS), xc kc ad σ n = .inl (kc 3, L, .inr (.inr (.inr (.inr (fun j => (σ.2.2.2.1 n j).map ad)))))
theorem xI_4 : xI 4 12 := ⟨by decide, fun _ _ _ => rfl⟩
theorem xI_5 : xI 5 12 := ⟨by decide, fun _ _ _ => rfl⟩
theorem xQ_3 : xQ 3 12 := ⟨by decide, fun _ _ _ => rfl⟩
theorem xJ_sh (h : c0 ∈ shN) : xJ (c0 + 1) (xlen c0) := ⟨by have := shN_lt h; omega, fun _ _ _ => xc_sh1 h⟩
theorem xI_sh2 (h : c0 ∈ shN) : xI (c0 + 2) (xlen c0) := ⟨by have := shN_lt h; omega, fun _ _ _ => xc_sh2 h⟩
theorem xQ_sh (h : c0 ∈ shN) : xQ (c0 + 3) (xlen c0) := ⟨by have := shN_lt h; omega, fun _ _ _ => xc_sh3 h⟩
theorem xI_sh4 (h : c0 ∈ shN) : xI (c0 + 4) (xlen c0) := ⟨by have := shN_lt h; omega, fun _ _ _ => xc_sh4 h⟩
theorem xc_xi {v : Int32} (h0 : k ≠ 0) (h1 : k ≠ 1) (hn : n ≠ k) : xc kc ad (xi σ k v) n = xc kc ad σ n := by
  by_cases hz : n = 0
  · subst hz; simp [xc, xi, upd, Ne.symm h0, Ne.symm h1]
  · simp [xc, xi, upd, hz, hn]
theorem xc_xi0 {v : Int32} (hk : k = 0 ∨ k = 1) (hn : n ≠ 0) : xc kc ad (xi σ k v) n = xc kc ad σ n := by
  by_cases h1 : n = 1
  · subst h1; rfl
  · have : n ≠ k := by omega
    simp [xc, xi, upd, hn, this]
theorem xc_xa {j : Nat} {v : Int32} (hn : n ≠ k) : xc kc ad (xa σ k j v) n = xc kc ad σ n := by
  simp [xc, xa, hn]
theorem xc_xb {j : Nat} {v : Int64} (hn : n ≠ k) : xc kc ad (xb σ k j v) n = xc kc ad σ n := by
  simp [xc, xb, hn]
theorem xc_xr {j : Nat} {v : Option Nat} (hn : n ≠ k) : xc kc ad (xr σ k j v) n = xc kc ad σ n := by
  simp [xc, xr, hn]
theorem xc_xp {v : Nat} (hn : n ≠ 0) : xc kc ad (xp σ v) n = xc kc ad σ n := by
  simp [xc, xp, hn]
theorem xi_1 {v : Int32} : (xi σ k v).1 k = v := by simp [xi, upd]
theorem xa_1 {j : Nat} {v : Int32} : (xa σ k j v).2.1 k = upd (σ.2.1 k) j v := by simp [xa]
theorem xb_1 {j : Nat} {v : Int64} : (xb σ k j v).2.2.1 k = vp_updL (σ.2.2.1 k) j v := by simp [xb]
theorem xr_1 {j : Nat} {v : Option Nat} : (xr σ k j v).2.2.2.1 k = va_up (σ.2.2.2.1 k) j v := by simp [xr]
theorem xr_map {r : Nat → Option Nat} {j : Nat} {v : Option Nat} : va_up (fun q => (r q).map ad) j (v.map ad) = fun q => ((va_up r j v) q).map ad := by
  funext q
  unfold va_up
  split <;> rfl
theorem sh_in {i : Int32} {c0 : Nat} (hs : c0 ∈ shN) (h0 : ¬ i < 0) (h1 : i < Int32.ofNat (xlen c0)) : vp_in i (xlen c0) := by
  rw [vp_in_iff]
  rw [Int32.lt_iff_toInt_lt] at h0 h1
  have z0 : (0 : Int32).toInt = 0 := rfl
  rcases shN_cases hs with rfl | rfl | rfl | rfl | rfl | rfl <;>
    (first | (have z1 : (Int32.ofNat (xlen 6)).toInt = 40 := by decide
              have z2 : xlen 6 = 40 := by decide
              omega)
           | (have z1 : (Int32.ofNat (xlen 11)).toInt = 10 := by decide
              have z2 : xlen 11 = 10 := by decide
              omega)
           | (have z1 : (Int32.ofNat (xlen 16)).toInt = 10 := by decide
              have z2 : xlen 16 = 10 := by decide
              omega)
           | (have z1 : (Int32.ofNat (xlen 21)).toInt = 10 := by decide
              have z2 : xlen 21 = 10 := by decide
              omega)
           | (have z1 : (Int32.ofNat (xlen 26)).toInt = 10 := by decide
              have z2 : xlen 26 = 10 := by decide
              omega)
           | (have z1 : (Int32.ofNat (xlen 31)).toInt = 40 := by decide
              have z2 : xlen 31 = 40 := by decide
              omega))
end XB0
def xX (p : Program) (s : State) (m : MethodId) (args : Array Value) (c : Code) (cc : ByteArray) (Ts : List Cond) (dC : Nat → ClassId) (dI : Nat → Nat → Nat) (kc : Nat → ClassId) (own : String) (A : Nat → Prop) : Prop := p.tables.exec = Jvm.exec ∧ c.code = cc ∧ (∀ w ∈ Ts, w.before args s = true) ∧ s.vm.findClass own = some m.cls ∧ va_K (dC, dI) vwCl (xT kc) s ∧ zX A s
def xH (dC : Nat → ClassId) (dI : Nat → Nat → Nat) (kc : Nat → ClassId) (ad : Nat → Nat) (σ : XS) (A : Nat → Prop) (H0 H : Heap) (locs : List Loc) : Prop := va_P (dC, dI) vwCl (xW kc ad σ) H ∧ va_D A (xW kc ad σ) ∧ va_S A H0 H locs
def xPre (dC : Nat → ClassId) (dI : Nat → Nat → Nat) (kc : Nat → ClassId) (ad : Nat → Nat) (sz : Nat) (σ : XS) : State → Prop := fun U => U.heap.size = sz ∧ va_P (dC, dI) vwCl (xW kc ad σ) U.heap ∧ va_K (dC, dI) vwCl (xT kc) U ∧ va_D (fun _ => True) (xW kc ad σ) ∧ zX (xA kc ad σ sz) U
def xAt (dC : Nat → ClassId) (dI : Nat → Nat → Nat) (kc : Nat → ClassId) (ad : Nat → Nat) (A : Nat → Prop) (u : XS) (t : State) : Prop := va_P (dC, dI) vwCl (xW kc ad u) t.heap ∧ va_K (dC, dI) vwCl (xT kc) t ∧ va_D A (xW kc ad u)
def xE {α : Type} (f : (String × XS) ⊕ α) (dC : Nat → ClassId) (dI : Nat → Nat → Nat) (kc : Nat → ClassId) (ad : Nat → Nat) (A : Nat → Prop) : String → State → State → Prop := vx_X (fun _ : XS => True) (fun E u t => f = .inl (E, u) ∧ xAt dC dI kc ad A u t) A
section XB1
variable {p : Program} {l : Launch} {e : Env} {R : Room} {s : State} {m : MethodId} {args : Array Value} {below : List Frame} {meth : Method} {c : Code} {H : Heap} {locs : List Loc} {cells slots : Nat} {Q : State → Prop}
variable {cc : ByteArray} {pc : Nat} {ls : Array Slot} {rest st0 : List Value} {A B : Nat → Prop} {H0 : Heap} {dC : Nat → ClassId} {dI : Nat → Nat → Nat} {kc : Nat → ClassId} {ad : Nat → Nat} {σ τ : XS} {Ts : List Cond} {index : Nat} {own : String} {c0 : Nat}
theorem x_to {k : Nat} {e : va_E} {H1 : Heap} {locs1 : List Loc} (he : e = xc kc ad τ k) (hN : τ.2.2.2.2.2 = σ.2.2.2.2.2) (h : ∀ n, n ≠ k → xc kc ad τ n = xc kc ad σ n) (hP : va_P (dC, dI) vwCl ((xW kc ad σ).set k (ad k, e)) H1) (hD : va_D A ((xW kc ad σ).set k (ad k, e))) (hS : va_S A H0 H1 locs1) : xH dC dI kc ad τ A H0 H1 locs1 := by
  rw [xW_set hN he h] at hP hD
  exact ⟨hP, hD, hS⟩
theorem x_sget_0 (X : xX p s m args c cc Ts dC dI kc own B) (G : xH dC dI kc ad σ A H0 H locs) (hin : ∀ w ∈ wsX30, w ∈ Ts) (h0 : c0 ∈ shN) (hl : Cond.fieldLink own index "DeskStack$Shelf" "values" "[J" ∈ Ts) (hdg : decode cc pc = .ok (.getfield index, 3)) (kk : W p l e R s m args below meth c H locs cells slots Q (F0 m (pc + 3) ls (.ref (ad (c0 + 1)) :: rest))) : W p l e R s m args below meth c H locs cells slots Q (F0 m pc ls (.ref (ad c0) :: rest)) := by
  obtain ⟨hx, hb, hts, hown, hK, hz⟩ := X
  exact va_get (D := (dC, dI)) (ci := 2) (C := RX3) (T := TX3) (N := 5) hx hb hts hin hown hK G.1 c0 (xW_sh h0) rfl 0 (by decide) (hts _ hl) (fun _ h9 => h9) rfl hdg kk
theorem x_sget_1 (X : xX p s m args c cc Ts dC dI kc own B) (G : xH dC dI kc ad σ A H0 H locs) (hin : ∀ w ∈ wsX30, w ∈ Ts) (h0 : c0 ∈ shN) (hl : Cond.fieldLink own index "DeskStack$Shelf" "places" "[I" ∈ Ts) (hdg : decode cc pc = .ok (.getfield index, 3)) (kk : W p l e R s m args below meth c H locs cells slots Q (F0 m (pc + 3) ls (.ref (ad (c0 + 2)) :: rest))) : W p l e R s m args below meth c H locs cells slots Q (F0 m pc ls (.ref (ad c0) :: rest)) := by
  obtain ⟨hx, hb, hts, hown, hK, hz⟩ := X
  exact va_get (D := (dC, dI)) (ci := 2) (C := RX3) (T := TX3) (N := 5) hx hb hts hin hown hK G.1 c0 (xW_sh h0) rfl 1 (by decide) (hts _ hl) (fun _ h9 => h9) rfl hdg kk
theorem x_sget_2 (X : xX p s m args c cc Ts dC dI kc own B) (G : xH dC dI kc ad σ A H0 H locs) (hin : ∀ w ∈ wsX30, w ∈ Ts) (h0 : c0 ∈ shN) (hl : Cond.fieldLink own index "DeskStack$Shelf" "rows" "[LDeskStack$Row;" ∈ Ts) (hdg : decode cc pc = .ok (.getfield index, 3)) (kk : W p l e R s m args below meth c H locs cells slots Q (F0 m (pc + 3) ls (.ref (ad (c0 + 3)) :: rest))) : W p l e R s m args below meth c H locs cells slots Q (F0 m pc ls (.ref (ad c0) :: rest)) := by
  obtain ⟨hx, hb, hts, hown, hK, hz⟩ := X
  exact va_get (D := (dC, dI)) (ci := 2) (C := RX3) (T := TX3) (N := 5) hx hb hts hin hown hK G.1 c0 (xW_sh h0) rfl 2 (by decide) (hts _ hl) (fun _ h9 => h9) rfl hdg kk
theorem x_sget_3 (X : xX p s m args c cc Ts dC dI kc own B) (G : xH dC dI kc ad σ A H0 H locs) (hin : ∀ w ∈ wsX30, w ∈ Ts) (h0 : c0 ∈ shN) (hl : Cond.fieldLink own index "DeskStack$Shelf" "starts" "[I" ∈ Ts) (hdg : decode cc pc = .ok (.getfield index, 3)) (kk : W p l e R s m args below meth c H locs cells slots Q (F0 m (pc + 3) ls (.ref (ad (c0 + 4)) :: rest))) : W p l e R s m args below meth c H locs cells slots Q (F0 m pc ls (.ref (ad c0) :: rest)) := by
  obtain ⟨hx, hb, hts, hown, hK, hz⟩ := X
  exact va_get (D := (dC, dI)) (ci := 2) (C := RX3) (T := TX3) (N := 5) hx hb hts hin hown hK G.1 c0 (xW_sh h0) rfl 3 (by decide) (hts _ hl) (fun _ h9 => h9) rfl hdg kk
theorem x_sget_4 (X : xX p s m args c cc Ts dC dI kc own B) (G : xH dC dI kc ad σ A H0 H locs) (hin : ∀ w ∈ wsX30, w ∈ Ts) (h0 : c0 ∈ shN) (hl : Cond.fieldLink own index "DeskStack$Shelf" "count" "I" ∈ Ts) (hdg : decode cc pc = .ok (.getfield index, 3)) (kk : W p l e R s m args below meth c H locs cells slots Q (F0 m (pc + 3) ls (.int (σ.1 c0) :: rest))) : W p l e R s m args below meth c H locs cells slots Q (F0 m pc ls (.ref (ad c0) :: rest)) := by
  obtain ⟨hx, hb, hts, hown, hK, hz⟩ := X
  exact va_get (D := (dC, dI)) (ci := 2) (C := RX3) (T := TX3) (N := 5) hx hb hts hin hown hK G.1 c0 (xW_sh h0) rfl 4 (by decide) (hts _ hl) (fun _ h9 => h9) rfl hdg kk
theorem x_sput_4 (X : xX p s m args c cc Ts dC dI kc own B) (G : xH dC dI kc ad σ A H0 H locs) (hin : ∀ w ∈ wsX30, w ∈ Ts) (h0 : c0 ∈ shN) {v : Int32} (hl : Cond.fieldLink own index "DeskStack$Shelf" "count" "I" ∈ Ts) (hdg : decode cc pc = .ok (.putfield index, 3)) (kk : ∀ (H1 : Heap) (locs1 : List Loc), xH dC dI kc ad (xi σ c0 v) A H0 H1 locs1 → W p l e R s m args below meth c H1 locs1 cells slots Q (F0 m (pc + 3) ls rest)) : W p l e R s m args below meth c H locs cells slots Q (F0 m pc ls (.int v :: .ref (ad c0) :: rest)) := by
  obtain ⟨hx, hb, hts, hown, hK, hz⟩ := X
  exact va_put (D := (dC, dI)) (ci := 2) (v := .int v) (ty := .int) (C := RX3) (T := TX3) (N := 5) hx hb hts hin tyX3 tyX3_ok nmX3 hown hK G.1 G.2.1 G.2.2 c0 (xW_sh h0) rfl 4 (by decide) (hts _ hl) (fun _ h9 => h9) rfl (by decide +kernel) rfl rfl (Nat.le_of_ble_eq_true rfl) hdg (fun H1 locs1 hP hD hS => kk H1 locs1 (x_to (σ := σ) (τ := xi σ c0 v) (k := c0) (by rw [xc_sh h0, xi_1] <;> rfl) rfl (fun n hn => xc_xi (by have := shN_lt h0; omega) (by have := shN_lt h0; omega) hn) hP hD hS))
theorem x_nget_0 (X : xX p s m args c cc Ts dC dI kc own B) (G : xH dC dI kc ad σ A H0 H locs) (hin : ∀ w ∈ wsX10, w ∈ Ts) (hl : Cond.fieldLink own index "DeskStack$Nest" "rows" "[LDeskStack$Row;" ∈ Ts) (hdg : decode cc pc = .ok (.getfield index, 3)) (kk : W p l e R s m args below meth c H locs cells slots Q (F0 m (pc + 3) ls (.ref (ad 3) :: rest))) : W p l e R s m args below meth c H locs cells slots Q (F0 m pc ls (.ref (ad 2) :: rest)) := by
  obtain ⟨hx, hb, hts, hown, hK, hz⟩ := X
  exact va_get (D := (dC, dI)) (ci := 0) (C := RX1) (T := TX1) (N := 4) hx hb hts hin hown hK G.1 2 (xW_nest) rfl 0 (by decide) (hts _ hl) (fun _ h9 => h9) rfl hdg kk
theorem x_nget_1 (X : xX p s m args c cc Ts dC dI kc own B) (G : xH dC dI kc ad σ A H0 H locs) (hin : ∀ w ∈ wsX10, w ∈ Ts) (hl : Cond.fieldLink own index "DeskStack$Nest" "positions" "[I" ∈ Ts) (hdg : decode cc pc = .ok (.getfield index, 3)) (kk : W p l e R s m args below meth c H locs cells slots Q (F0 m (pc + 3) ls (.ref (ad 4) :: rest))) : W p l e R s m args below meth c H locs cells slots Q (F0 m pc ls (.ref (ad 2) :: rest)) := by
  obtain ⟨hx, hb, hts, hown, hK, hz⟩ := X
  exact va_get (D := (dC, dI)) (ci := 0) (C := RX1) (T := TX1) (N := 4) hx hb hts hin hown hK G.1 2 (xW_nest) rfl 1 (by decide) (hts _ hl) (fun _ h9 => h9) rfl hdg kk
theorem x_nget_2 (X : xX p s m args c cc Ts dC dI kc own B) (G : xH dC dI kc ad σ A H0 H locs) (hin : ∀ w ∈ wsX10, w ∈ Ts) (hl : Cond.fieldLink own index "DeskStack$Nest" "ends" "[I" ∈ Ts) (hdg : decode cc pc = .ok (.getfield index, 3)) (kk : W p l e R s m args below meth c H locs cells slots Q (F0 m (pc + 3) ls (.ref (ad 5) :: rest))) : W p l e R s m args below meth c H locs cells slots Q (F0 m pc ls (.ref (ad 2) :: rest)) := by
  obtain ⟨hx, hb, hts, hown, hK, hz⟩ := X
  exact va_get (D := (dC, dI)) (ci := 0) (C := RX1) (T := TX1) (N := 4) hx hb hts hin hown hK G.1 2 (xW_nest) rfl 2 (by decide) (hts _ hl) (fun _ h9 => h9) rfl hdg kk
theorem x_nget_3 (X : xX p s m args c cc Ts dC dI kc own B) (G : xH dC dI kc ad σ A H0 H locs) (hin : ∀ w ∈ wsX10, w ∈ Ts) (hl : Cond.fieldLink own index "DeskStack$Nest" "count" "I" ∈ Ts) (hdg : decode cc pc = .ok (.getfield index, 3)) (kk : W p l e R s m args below meth c H locs cells slots Q (F0 m (pc + 3) ls (.int (σ.1 2) :: rest))) : W p l e R s m args below meth c H locs cells slots Q (F0 m pc ls (.ref (ad 2) :: rest)) := by
  obtain ⟨hx, hb, hts, hown, hK, hz⟩ := X
  exact va_get (D := (dC, dI)) (ci := 0) (C := RX1) (T := TX1) (N := 4) hx hb hts hin hown hK G.1 2 (xW_nest) rfl 3 (by decide) (hts _ hl) (fun _ h9 => h9) rfl hdg kk
theorem x_nput_3 (X : xX p s m args c cc Ts dC dI kc own B) (G : xH dC dI kc ad σ A H0 H locs) (hin : ∀ w ∈ wsX10, w ∈ Ts) {v : Int32} (hl : Cond.fieldLink own index "DeskStack$Nest" "count" "I" ∈ Ts) (hdg : decode cc pc = .ok (.putfield index, 3)) (kk : ∀ (H1 : Heap) (locs1 : List Loc), xH dC dI kc ad (xi σ 2 v) A H0 H1 locs1 → W p l e R s m args below meth c H1 locs1 cells slots Q (F0 m (pc + 3) ls rest)) : W p l e R s m args below meth c H locs cells slots Q (F0 m pc ls (.int v :: .ref (ad 2) :: rest)) := by
  obtain ⟨hx, hb, hts, hown, hK, hz⟩ := X
  exact va_put (D := (dC, dI)) (ci := 0) (v := .int v) (ty := .int) (C := RX1) (T := TX1) (N := 4) hx hb hts hin tyX1 tyX1_ok nmX1 hown hK G.1 G.2.1 G.2.2 2 (xW_nest) rfl 3 (by decide) (hts _ hl) (fun _ h9 => h9) rfl (by decide +kernel) rfl rfl (Nat.le_of_ble_eq_true rfl) hdg (fun H1 locs1 hP hD hS => kk H1 locs1 (x_to (σ := σ) (τ := xi σ 2 v) (k := 2) (rfl) rfl (fun n hn => xc_xi (by decide) (by decide) hn) hP hD hS))
theorem x_rget_0 (X : xX p s m args c cc Ts dC dI kc own B) (G : xH dC dI kc ad σ A H0 H locs) (hin : ∀ w ∈ wsX20, w ∈ Ts) (h0 : xv σ c0) (hl : Cond.fieldLink own index "DeskStack$Row" "chars" "[B" ∈ Ts) (hdg : decode cc pc = .ok (.getfield index, 3)) (kk : W p l e R s m args below meth c H locs cells slots Q (F0 m (pc + 3) ls (.ref (ad (c0 + 1)) :: rest))) : W p l e R s m args below meth c H locs cells slots Q (F0 m pc ls (.ref (ad c0) :: rest)) := by
  obtain ⟨hx, hb, hts, hown, hK, hz⟩ := X
  exact va_get (D := (dC, dI)) (ci := 1) (C := RX2) (T := TX2) (N := 2) hx hb hts hin hown hK G.1 c0 (xW_row h0) rfl 0 (by decide) (hts _ hl) (fun _ h9 => h9) rfl hdg kk
theorem x_rget_1 (X : xX p s m args c cc Ts dC dI kc own B) (G : xH dC dI kc ad σ A H0 H locs) (hin : ∀ w ∈ wsX20, w ∈ Ts) (h0 : xv σ c0) (hl : Cond.fieldLink own index "DeskStack$Row" "size" "I" ∈ Ts) (hdg : decode cc pc = .ok (.getfield index, 3)) (kk : W p l e R s m args below meth c H locs cells slots Q (F0 m (pc + 3) ls (.int (σ.1 c0) :: rest))) : W p l e R s m args below meth c H locs cells slots Q (F0 m pc ls (.ref (ad c0) :: rest)) := by
  obtain ⟨hx, hb, hts, hown, hK, hz⟩ := X
  exact va_get (D := (dC, dI)) (ci := 1) (C := RX2) (T := TX2) (N := 2) hx hb hts hin hown hK G.1 c0 (xW_row h0) rfl 1 (by decide) (hts _ hl) (fun _ h9 => h9) rfl hdg kk
theorem x_rput_1 (X : xX p s m args c cc Ts dC dI kc own B) (G : xH dC dI kc ad σ A H0 H locs) (hin : ∀ w ∈ wsX20, w ∈ Ts) (h0 : xv σ c0) {v : Int32} (hl : Cond.fieldLink own index "DeskStack$Row" "size" "I" ∈ Ts) (hdg : decode cc pc = .ok (.putfield index, 3)) (kk : ∀ (H1 : Heap) (locs1 : List Loc), xH dC dI kc ad (xi σ c0 v) A H0 H1 locs1 → W p l e R s m args below meth c H1 locs1 cells slots Q (F0 m (pc + 3) ls rest)) : W p l e R s m args below meth c H locs cells slots Q (F0 m pc ls (.int v :: .ref (ad c0) :: rest)) := by
  obtain ⟨hx, hb, hts, hown, hK, hz⟩ := X
  exact va_put (D := (dC, dI)) (ci := 1) (v := .int v) (ty := .int) (C := RX2) (T := TX2) (N := 2) hx hb hts hin tyX2 tyX2_ok nmX2 hown hK G.1 G.2.1 G.2.2 c0 (xW_row h0) rfl 1 (by decide) (hts _ hl) (fun _ h9 => h9) rfl (by decide +kernel) rfl rfl (Nat.le_of_ble_eq_true rfl) hdg (fun H1 locs1 hP hD hS => kk H1 locs1 (x_to (σ := σ) (τ := xi σ c0 v) (k := c0) (by rw [xc_row (show xv (xi σ c0 v) c0 from h0), xi_1] <;> rfl) rfl (fun n hn => xc_xi (by have := h0.1; omega) (by have := h0.1; omega) hn) hP hD hS))
theorem x_dget_0 (X : xX p s m args c cc Ts dC dI kc own B) (G : xH dC dI kc ad σ A H0 H locs) (hin : ∀ w ∈ wsX40, w ∈ Ts) (hl : Cond.fieldLink own index "DeskStack" "stack" "LDeskStack$Shelf;" ∈ Ts) (hdg : decode cc pc = .ok (.getfield index, 3)) (kk : W p l e R s m args below meth c H locs cells slots Q (F0 m (pc + 3) ls (.ref (ad 6) :: rest))) : W p l e R s m args below meth c H locs cells slots Q (F0 m pc ls (.ref (ad 0) :: rest)) := by
  obtain ⟨hx, hb, hts, hown, hK, hz⟩ := X
  exact va_get (D := (dC, dI)) (ci := 3) (C := RX4) (T := TX4) (N := 7) hx hb hts hin hown hK G.1 0 (xW_desk) rfl 0 (by decide) (hts _ hl) (fun _ h9 => h9) rfl hdg kk
theorem x_dget_1 (X : xX p s m args c cc Ts dC dI kc own B) (G : xH dC dI kc ad σ A H0 H locs) (hin : ∀ w ∈ wsX40, w ∈ Ts) (hl : Cond.fieldLink own index "DeskStack" "registers" "[LDeskStack$Shelf;" ∈ Ts) (hdg : decode cc pc = .ok (.getfield index, 3)) (kk : W p l e R s m args below meth c H locs cells slots Q (F0 m (pc + 3) ls (.ref (ad 1) :: rest))) : W p l e R s m args below meth c H locs cells slots Q (F0 m pc ls (.ref (ad 0) :: rest)) := by
  obtain ⟨hx, hb, hts, hown, hK, hz⟩ := X
  exact va_get (D := (dC, dI)) (ci := 3) (C := RX4) (T := TX4) (N := 7) hx hb hts hin hown hK G.1 0 (xW_desk) rfl 1 (by decide) (hts _ hl) (fun _ h9 => h9) rfl hdg kk
theorem x_dget_2 (X : xX p s m args c cc Ts dC dI kc own B) (G : xH dC dI kc ad σ A H0 H locs) (hin : ∀ w ∈ wsX40, w ∈ Ts) (hl : Cond.fieldLink own index "DeskStack" "printer" "LDeskStack$Shelf;" ∈ Ts) (hdg : decode cc pc = .ok (.getfield index, 3)) (kk : W p l e R s m args below meth c H locs cells slots Q (F0 m (pc + 3) ls (.ref (ad 31) :: rest))) : W p l e R s m args below meth c H locs cells slots Q (F0 m pc ls (.ref (ad 0) :: rest)) := by
  obtain ⟨hx, hb, hts, hown, hK, hz⟩ := X
  exact va_get (D := (dC, dI)) (ci := 3) (C := RX4) (T := TX4) (N := 7) hx hb hts hin hown hK G.1 0 (xW_desk) rfl 2 (by decide) (hts _ hl) (fun _ h9 => h9) rfl hdg kk
theorem x_dget_3 (X : xX p s m args c cc Ts dC dI kc own B) (G : xH dC dI kc ad σ A H0 H locs) (hin : ∀ w ∈ wsX40, w ∈ Ts) (hl : Cond.fieldLink own index "DeskStack" "texts" "LDeskStack$Nest;" ∈ Ts) (hdg : decode cc pc = .ok (.getfield index, 3)) (kk : W p l e R s m args below meth c H locs cells slots Q (F0 m (pc + 3) ls (.ref (ad 2) :: rest))) : W p l e R s m args below meth c H locs cells slots Q (F0 m pc ls (.ref (ad 0) :: rest)) := by
  obtain ⟨hx, hb, hts, hown, hK, hz⟩ := X
  exact va_get (D := (dC, dI)) (ci := 3) (C := RX4) (T := TX4) (N := 7) hx hb hts hin hown hK G.1 0 (xW_desk) rfl 3 (by decide) (hts _ hl) (fun _ h9 => h9) rfl hdg kk
theorem x_dget_4 (X : xX p s m args c cc Ts dC dI kc own B) (G : xH dC dI kc ad σ A H0 H locs) (hin : ∀ w ∈ wsX40, w ∈ Ts) (hl : Cond.fieldLink own index "DeskStack" "program" "LDeskStack$Row;" ∈ Ts) (hdg : decode cc pc = .ok (.getfield index, 3)) (kk : W p l e R s m args below meth c H locs cells slots Q (F0 m (pc + 3) ls (.ref (ad σ.2.2.2.2.1) :: rest))) : W p l e R s m args below meth c H locs cells slots Q (F0 m pc ls (.ref (ad 0) :: rest)) := by
  obtain ⟨hx, hb, hts, hown, hK, hz⟩ := X
  exact va_get (D := (dC, dI)) (ci := 3) (C := RX4) (T := TX4) (N := 7) hx hb hts hin hown hK G.1 0 (xW_desk) rfl 4 (by decide) (hts _ hl) (fun _ h9 => h9) rfl hdg kk
theorem x_dget_5 (X : xX p s m args c cc Ts dC dI kc own B) (G : xH dC dI kc ad σ A H0 H locs) (hin : ∀ w ∈ wsX40, w ∈ Ts) (hl : Cond.fieldLink own index "DeskStack" "keptPlaces" "I" ∈ Ts) (hdg : decode cc pc = .ok (.getfield index, 3)) (kk : W p l e R s m args below meth c H locs cells slots Q (F0 m (pc + 3) ls (.int (σ.1 0) :: rest))) : W p l e R s m args below meth c H locs cells slots Q (F0 m pc ls (.ref (ad 0) :: rest)) := by
  obtain ⟨hx, hb, hts, hown, hK, hz⟩ := X
  exact va_get (D := (dC, dI)) (ci := 3) (C := RX4) (T := TX4) (N := 7) hx hb hts hin hown hK G.1 0 (xW_desk) rfl 5 (by decide) (hts _ hl) (fun _ h9 => h9) rfl hdg kk
theorem x_dget_6 (X : xX p s m args c cc Ts dC dI kc own B) (G : xH dC dI kc ad σ A H0 H locs) (hin : ∀ w ∈ wsX40, w ∈ Ts) (hl : Cond.fieldLink own index "DeskStack" "commandsDone" "I" ∈ Ts) (hdg : decode cc pc = .ok (.getfield index, 3)) (kk : W p l e R s m args below meth c H locs cells slots Q (F0 m (pc + 3) ls (.int (σ.1 1) :: rest))) : W p l e R s m args below meth c H locs cells slots Q (F0 m pc ls (.ref (ad 0) :: rest)) := by
  obtain ⟨hx, hb, hts, hown, hK, hz⟩ := X
  exact va_get (D := (dC, dI)) (ci := 3) (C := RX4) (T := TX4) (N := 7) hx hb hts hin hown hK G.1 0 (xW_desk) rfl 6 (by decide) (hts _ hl) (fun _ h9 => h9) rfl hdg kk
theorem x_dput_5 (X : xX p s m args c cc Ts dC dI kc own B) (G : xH dC dI kc ad σ A H0 H locs) (hin : ∀ w ∈ wsX40, w ∈ Ts) {v : Int32} (hl : Cond.fieldLink own index "DeskStack" "keptPlaces" "I" ∈ Ts) (hdg : decode cc pc = .ok (.putfield index, 3)) (kk : ∀ (H1 : Heap) (locs1 : List Loc), xH dC dI kc ad (xi σ 0 v) A H0 H1 locs1 → W p l e R s m args below meth c H1 locs1 cells slots Q (F0 m (pc + 3) ls rest)) : W p l e R s m args below meth c H locs cells slots Q (F0 m pc ls (.int v :: .ref (ad 0) :: rest)) := by
  obtain ⟨hx, hb, hts, hown, hK, hz⟩ := X
  exact va_put (D := (dC, dI)) (ci := 3) (v := .int v) (ty := .int) (C := RX4) (T := TX4) (N := 7) hx hb hts hin tyX4 tyX4_ok nmX4 hown hK G.1 G.2.1 G.2.2 0 (xW_desk) rfl 5 (by decide) (hts _ hl) (fun _ h9 => h9) rfl (by decide +kernel) rfl rfl (Nat.le_of_ble_eq_true rfl) hdg (fun H1 locs1 hP hD hS => kk H1 locs1 (x_to (σ := σ) (τ := xi σ 0 v) (k := 0) (rfl) rfl (fun n hn => xc_xi0 (Or.inl rfl) hn) hP hD hS))
theorem x_dput_6 (X : xX p s m args c cc Ts dC dI kc own B) (G : xH dC dI kc ad σ A H0 H locs) (hin : ∀ w ∈ wsX40, w ∈ Ts) {v : Int32} (hl : Cond.fieldLink own index "DeskStack" "commandsDone" "I" ∈ Ts) (hdg : decode cc pc = .ok (.putfield index, 3)) (kk : ∀ (H1 : Heap) (locs1 : List Loc), xH dC dI kc ad (xi σ 1 v) A H0 H1 locs1 → W p l e R s m args below meth c H1 locs1 cells slots Q (F0 m (pc + 3) ls rest)) : W p l e R s m args below meth c H locs cells slots Q (F0 m pc ls (.int v :: .ref (ad 0) :: rest)) := by
  obtain ⟨hx, hb, hts, hown, hK, hz⟩ := X
  exact va_put (D := (dC, dI)) (ci := 3) (v := .int v) (ty := .int) (C := RX4) (T := TX4) (N := 7) hx hb hts hin tyX4 tyX4_ok nmX4 hown hK G.1 G.2.1 G.2.2 0 (xW_desk) rfl 6 (by decide) (hts _ hl) (fun _ h9 => h9) rfl (by decide +kernel) rfl rfl (Nat.le_of_ble_eq_true rfl) hdg (fun H1 locs1 hP hD hS => kk H1 locs1 (x_to (σ := σ) (τ := xi σ 1 v) (k := 0) (rfl) rfl (fun n hn => xc_xi0 (Or.inr rfl) hn) hP hD hS))
theorem x_ild (X : xX p s m args c cc Ts dC dI kc own B) (G : xH dC dI kc ad σ A H0 H locs) {L : Nat} (h0 : xI c0 L) {i : Int32} (hi : vp_in i L) (hdg : decode cc pc = .ok (.iaload, 1)) (kk : W p l e R s m args below meth c H locs cells slots Q (F0 m (pc + 1) ls (.int (σ.2.1 c0 i.toNatClampNeg) :: rest))) : W p l e R s m args below meth c H locs cells slots Q (F0 m pc ls (.int i :: .ref (ad c0) :: rest)) := by
  obtain ⟨hx, hb, hts, hown, hK, hz⟩ := X
  exact va_iald (cA := kc 0) (n := L) (f := σ.2.1 c0) hx hb hK G.1 c0 0 (by rw [xW_at (Nat.lt_of_lt_of_le h0.1 xn_ge), h0.2]) rfl hi hdg kk
theorem x_ist (X : xX p s m args c cc Ts dC dI kc own B) (G : xH dC dI kc ad σ A H0 H locs) {L : Nat} (h0 : xI c0 L) {i : Int32} {v : Int32} (hi : vp_in i L) (hdg : decode cc pc = .ok (.iastore, 1)) (kk : ∀ (H1 : Heap) (locs1 : List Loc), xH dC dI kc ad (xa σ c0 i.toNatClampNeg v) A H0 H1 locs1 → W p l e R s m args below meth c H1 locs1 cells slots Q (F0 m (pc + 1) ls rest)) : W p l e R s m args below meth c H locs cells slots Q (F0 m pc ls (.int v :: .int i :: .ref (ad c0) :: rest)) := by
  obtain ⟨hx, hb, hts, hown, hK, hz⟩ := X
  exact va_iast (cA := kc 0) (n := L) (f := σ.2.1 c0) hx hb hK G.1 G.2.1 G.2.2 c0 0 (by rw [xW_at (Nat.lt_of_lt_of_le h0.1 xn_ge), h0.2]) rfl hi hdg (fun H1 locs1 hP hD hS => kk H1 locs1 (x_to (σ := σ) (τ := xa σ c0 i.toNatClampNeg v) (k := c0) (by rw [h0.2, xa_1]) rfl (fun n hn => xc_xa hn) hP hD hS))
theorem x_lld (X : xX p s m args c cc Ts dC dI kc own B) (G : xH dC dI kc ad σ A H0 H locs) {L : Nat} (h0 : xJ c0 L) {i : Int32} (hi : vp_in i L) (hdg : decode cc pc = .ok (.laload, 1)) (kk : W p l e R s m args below meth c H locs cells slots Q (F0 m (pc + 1) ls (.long (σ.2.2.1 c0 i.toNatClampNeg) :: rest))) : W p l e R s m args below meth c H locs cells slots Q (F0 m pc ls (.int i :: .ref (ad c0) :: rest)) := by
  obtain ⟨hx, hb, hts, hown, hK, hz⟩ := X
  exact va_lald (cA := kc 1) (n := L) (f := σ.2.2.1 c0) hx hb hK G.1 c0 1 (by rw [xW_at (Nat.lt_of_lt_of_le h0.1 xn_ge), h0.2]) rfl hi hdg kk
theorem x_lst (X : xX p s m args c cc Ts dC dI kc own B) (G : xH dC dI kc ad σ A H0 H locs) {L : Nat} (h0 : xJ c0 L) {i : Int32} {v : Int64} (hi : vp_in i L) (hdg : decode cc pc = .ok (.lastore, 1)) (kk : ∀ (H1 : Heap) (locs1 : List Loc), xH dC dI kc ad (xb σ c0 i.toNatClampNeg v) A H0 H1 locs1 → W p l e R s m args below meth c H1 locs1 cells slots Q (F0 m (pc + 1) ls rest)) : W p l e R s m args below meth c H locs cells slots Q (F0 m pc ls (.long v :: .int i :: .ref (ad c0) :: rest)) := by
  obtain ⟨hx, hb, hts, hown, hK, hz⟩ := X
  exact va_last (cA := kc 1) (n := L) (f := σ.2.2.1 c0) hx hb hK G.1 G.2.1 G.2.2 c0 1 (by rw [xW_at (Nat.lt_of_lt_of_le h0.1 xn_ge), h0.2]) rfl hi hdg (fun H1 locs1 hP hD hS => kk H1 locs1 (x_to (σ := σ) (τ := xb σ c0 i.toNatClampNeg v) (k := c0) (by rw [h0.2, xb_1]) rfl (fun n hn => xc_xb hn) hP hD hS))
theorem x_qld (X : xX p s m args c cc Ts dC dI kc own B) (G : xH dC dI kc ad σ A H0 H locs) {L : Nat} (h0 : xQ c0 L) {i : Int32} (hi : vp_in i L) (hdg : decode cc pc = .ok (.aaload, 1)) (kk : W p l e R s m args below meth c H locs cells slots Q (F0 m (pc + 1) ls (va_rf ((σ.2.2.2.1 c0 i.toNatClampNeg).map ad) :: rest))) : W p l e R s m args below meth c H locs cells slots Q (F0 m pc ls (.int i :: .ref (ad c0) :: rest)) := by
  obtain ⟨hx, hb, hts, hown, hK, hz⟩ := X
  exact va_aldq (cA := kc 3) (n := L) (f := fun j => (σ.2.2.2.1 c0 j).map ad) hx hb hK G.1 c0 3 (by rw [xW_at (Nat.lt_of_lt_of_le h0.1 xn_ge), h0.2]) rfl hi hdg kk
theorem x_qst (X : xX p s m args c cc Ts dC dI kc own B) (G : xH dC dI kc ad σ A H0 H locs) {L : Nat} (h0 : xQ c0 L) {i : Int32} {v : Option Nat} (hv : ∀ n, v = some n → xv σ n) (hi : vp_in i L) (hdg : decode cc pc = .ok (.aastore, 1)) (kk : ∀ (H1 : Heap) (locs1 : List Loc), xH dC dI kc ad (xr σ c0 i.toNatClampNeg v) A H0 H1 locs1 → W p l e R s m args below meth c H1 locs1 cells slots Q (F0 m (pc + 1) ls rest)) : W p l e R s m args below meth c H locs cells slots Q (F0 m pc ls (va_rf (v.map ad) :: .int i :: .ref (ad c0) :: rest)) := by
  obtain ⟨hx, hb, hts, hown, hK, hz⟩ := X
  cases v with
  | none =>
    exact va_astqN (cA := kc 3) (n := L) (f := fun j => (σ.2.2.2.1 c0 j).map ad) hx hb hK G.1 G.2.1 G.2.2 c0 3 (by rw [xW_at (Nat.lt_of_lt_of_le h0.1 xn_ge), h0.2]) rfl hi hdg (fun H1 locs1 hP hD hS => kk H1 locs1 (x_to (σ := σ) (τ := xr σ c0 i.toNatClampNeg none) (k := c0) (by rw [h0.2, xr_1, ← xr_map] <;> rfl) rfl (fun n hn => xc_xr hn) hP hD hS))
  | some n =>
    exact va_astq (cA := kc 3) (n := L) (f := fun j => (σ.2.2.2.1 c0 j).map ad) hx hb hK G.1 G.2.1 G.2.2 c0 3 n 1 (by rw [xW_at (Nat.lt_of_lt_of_le h0.1 xn_ge), h0.2]) rfl (xW_row (hv n rfl)) rfl hi hdg (fun H1 locs1 hP hD hS => kk H1 locs1 (x_to (σ := σ) (τ := xr σ c0 i.toNatClampNeg (some n)) (k := c0) (by rw [h0.2, xr_1, ← xr_map] <;> rfl) rfl (fun n hn => xc_xr hn) hP hD hS))
theorem x_alenJ (X : xX p s m args c cc Ts dC dI kc own B) (G : xH dC dI kc ad σ A H0 H locs) {L : Nat} (h0 : xJ c0 L) (hdg : decode cc pc = .ok (.arraylength, 1)) (kk : W p l e R s m args below meth c H locs cells slots Q (F0 m (pc + 1) ls (.int (Int32.ofNat L) :: rest))) : W p l e R s m args below meth c H locs cells slots Q (F0 m pc ls (.ref (ad c0) :: rest)) := by
  obtain ⟨hx, hb, hts, hown, hK, hz⟩ := X
  exact va_alen (cA := kc 1) (x := (L, .inr (.inl (σ.2.2.1 c0)))) hx hb hK G.1 c0 1 (by rw [xW_at (Nat.lt_of_lt_of_le h0.1 xn_ge), h0.2]) rfl rfl hdg kk
theorem x_alenQ (X : xX p s m args c cc Ts dC dI kc own B) (G : xH dC dI kc ad σ A H0 H locs) {L : Nat} {v : Int32} (h0 : xQ c0 L) (hv : Int32.ofNat L = v) (hdg : decode cc pc = .ok (.arraylength, 1)) (kk : W p l e R s m args below meth c H locs cells slots Q (F0 m (pc + 1) ls (.int v :: rest))) : W p l e R s m args below meth c H locs cells slots Q (F0 m pc ls (.ref (ad c0) :: rest)) := by
  obtain ⟨hx, hb, hts, hown, hK, hz⟩ := X
  exact va_alen (cA := kc 3) (x := (L, .inr (.inr (.inr (.inr (fun j => (σ.2.2.2.1 c0 j).map ad)))))) hx hb hK G.1 c0 3 (by rw [xW_at (Nat.lt_of_lt_of_le h0.1 xn_ge), h0.2]) rfl hv hdg kk
theorem x_alenR (X : xX p s m args c cc Ts dC dI kc own B) (G : xH dC dI kc ad σ A H0 H locs) (hdg : decode cc pc = .ok (.arraylength, 1)) (kk : W p l e R s m args below meth c H locs cells slots Q (F0 m (pc + 1) ls (.int 4 :: rest))) : W p l e R s m args below meth c H locs cells slots Q (F0 m pc ls (.ref (ad 1) :: rest)) := by
  obtain ⟨hx, hb, hts, hown, hK, hz⟩ := X
  exact va_alen hx hb hK G.1 1 4 xW_regs rfl rfl hdg kk
theorem x_rld (X : xX p s m args c cc Ts dC dI kc own B) (G : xH dC dI kc ad σ A H0 H locs) {i : Int32} (hi : vp_in i 4) (hdg : decode cc pc = .ok (.aaload, 1)) (kk : W p l e R s m args below meth c H locs cells slots Q (F0 m (pc + 1) ls (.ref (ad (11 + 5 * i.toNatClampNeg)) :: rest))) : W p l e R s m args below meth c H locs cells slots Q (F0 m pc ls (.int i :: .ref (ad 1) :: rest)) := by
  obtain ⟨hx, hb, hts, hown, hK, hz⟩ := X
  have h4 : i.toNatClampNeg < 4 := by
    have h9 := vp_in_iff.mp hi
    have h8 : (i.toNatClampNeg : Int) = i.toInt := i_cl h9.1
    omega
  refine va_aldq hx hb hK G.1 1 4 xW_regs rfl hi hdg ?_
  rw [if_pos h4]
  exact kk
theorem x_alenB (X : xX p s m args c cc Ts dC dI kc own B) (G : xH dC dI kc ad σ A H0 H locs) (h0 : xv σ c0) (hdg : decode cc pc = .ok (.arraylength, 1)) (kk : W p l e R s m args below meth c H locs cells slots Q (F0 m (pc + 1) ls (.int 160 :: rest))) : W p l e R s m args below meth c H locs cells slots Q (F0 m pc ls (.ref (ad (c0 + 1)) :: rest)) := by
  obtain ⟨hx, hb, hts, hown, hK, hz⟩ := X
  exact va_alen (cA := kc 2) (x := (160, .inl (σ.2.1 (c0 + 1)))) hx hb hK G.1 (c0 + 1) 2 (by rw [xW_at (xv_lt h0), xc_bytes h0]) rfl rfl hdg kk
theorem x_bld (X : xX p s m args c cc Ts dC dI kc own B) (G : xH dC dI kc ad σ A H0 H locs) (h0 : xv σ c0) {i : Int32} (hi : vp_in i 160) (hdg : decode cc pc = .ok (.baload, 1)) (kk : W p l e R s m args below meth c H locs cells slots Q (F0 m (pc + 1) ls (.int (σ.2.1 (c0 + 1) i.toNatClampNeg) :: rest))) : W p l e R s m args below meth c H locs cells slots Q (F0 m pc ls (.int i :: .ref (ad (c0 + 1)) :: rest)) := by
  obtain ⟨hx, hb, hts, hown, hK, hz⟩ := X
  exact va_bald (cA := kc 2) (n := 160) (f := σ.2.1 (c0 + 1)) hx hb hK G.1 (c0 + 1) 2 (by rw [xW_at (xv_lt h0), xc_bytes h0]) rfl hi hdg kk
theorem x_bst (X : xX p s m args c cc Ts dC dI kc own B) (G : xH dC dI kc ad σ A H0 H locs) (h0 : xv σ c0) {i v : Int32} (hi : vp_in i 160) (hdg : decode cc pc = .ok (.bastore, 1)) (kk : ∀ (H1 : Heap) (locs1 : List Loc), xH dC dI kc ad (xa σ (c0 + 1) i.toNatClampNeg (vp_nar .byte v)) A H0 H1 locs1 → W p l e R s m args below meth c H1 locs1 cells slots Q (F0 m (pc + 1) ls rest)) : W p l e R s m args below meth c H locs cells slots Q (F0 m pc ls (.int v :: .int i :: .ref (ad (c0 + 1)) :: rest)) := by
  obtain ⟨hx, hb, hts, hown, hK, hz⟩ := X
  exact va_bast (cA := kc 2) (n := 160) (f := σ.2.1 (c0 + 1)) hx hb hK G.1 G.2.1 G.2.2 (c0 + 1) 2 (by rw [xW_at (xv_lt h0), xc_bytes h0]) rfl hi hdg (fun H1 locs1 hP hD hS => kk H1 locs1 (x_to (σ := σ) (τ := xa σ (c0 + 1) i.toNatClampNeg (vp_nar .byte v)) (k := c0 + 1) (by rw [xc_bytes (show xv (xa σ (c0 + 1) i.toNatClampNeg (vp_nar .byte v)) c0 from h0), xa_1]) rfl (fun n hn => xc_xa hn) hP hD hS))
theorem x_aload_nq (hx : p.tables.exec = Jvm.exec) (hb : c.code = cc) {k : Fin 4} {i : Nat} {o : Option Nat} (hdg : decode cc pc = .ok (.aload_n k, 1)) (hi : (k : Nat) = i) (hl : ls[i]? = some (.val (va_rf o))) (kk : W p l e R s m args below meth c H locs cells slots Q (F0 m (pc + 1) ls (va_rf o :: rest))) : W p l e R s m args below meth c H locs cells slots Q (F0 m pc ls rest) := by
  cases o with
  | none => exact lv_aload_nN hx hb hdg hi hl kk
  | some a => exact lv_aload_n hx hb hdg hi hl kk
theorem x_aloadq (hx : p.tables.exec = Jvm.exec) (hb : c.code = cc) {i : Nat} {o : Option Nat} (hdg : decode cc pc = .ok (.aload i, 2)) (hl : ls[i]? = some (.val (va_rf o))) (kk : W p l e R s m args below meth c H locs cells slots Q (F0 m (pc + 2) ls (va_rf o :: rest))) : W p l e R s m args below meth c H locs cells slots Q (F0 m pc ls rest) := by
  cases o with
  | none => exact lv_aloadN hx hb hdg hl kk
  | some a => exact lv_aload hx hb hdg hl kk
theorem x_astore_nq (hx : p.tables.exec = Jvm.exec) (hb : c.code = cc) {k : Fin 4} {i nL : Nat} {o : Option Nat} {lv lv' : List (Nat × Value)} (hdg : decode cc pc = .ok (.astore_n k, 1)) (hi : (k : Nat) = i) (h : lv_has ls nL lv) (hn : i < nL) (hl : (i, va_rf o) :: lv.filter (fun q => !(q.1 == i) && !(q.1 + 1 == i && q.2.category == 2)) = lv') (kk : ∀ ls : Array Slot, lv_has ls nL lv' → W p l e R s m args below meth c H locs cells slots Q (F0 m (pc + 1) ls rest)) : W p l e R s m args below meth c H locs cells slots Q (F0 m pc ls (va_rf o :: rest)) := by
  cases o with
  | none => exact lv_astore_nN hx hb hdg hi h hn hl kk
  | some a => exact lv_astore_n hx hb hdg hi h hn hl kk
theorem x_astoreq (hx : p.tables.exec = Jvm.exec) (hb : c.code = cc) {i nL : Nat} {o : Option Nat} {lv lv' : List (Nat × Value)} (hdg : decode cc pc = .ok (.astore i, 2)) (h : lv_has ls nL lv) (hn : i < nL) (hl : (i, va_rf o) :: lv.filter (fun q => !(q.1 == i) && !(q.1 + 1 == i && q.2.category == 2)) = lv') (kk : ∀ ls : Array Slot, lv_has ls nL lv' → W p l e R s m args below meth c H locs cells slots Q (F0 m (pc + 2) ls rest)) : W p l e R s m args below meth c H locs cells slots Q (F0 m pc ls (va_rf o :: rest)) := by
  cases o with
  | none => exact lv_astoreN hx hb hdg h hn hl kk
  | some a => exact lv_astore hx hb hdg h hn hl kk
theorem va_rf_cat (o : Option Nat) : (va_rf o).category = 1 := by cases o <;> rfl
theorem x_ifnull (hx : p.tables.exec = Jvm.exec) (hb : c.code = cc) {o : Option Nat} {off : Int} {tgt : Nat} (hdg : decode cc pc = .ok (.ifnull off, 3)) (ht : (pc : Int) + off = (tgt : Int)) (k0 : o = none → W p l e R s m args below meth c H locs cells slots Q (F0 m tgt ls rest)) (k1 : ∀ a, o = some a → W p l e R s m args below meth c H locs cells slots Q (F0 m (pc + 3) ls rest)) : W p l e R s m args below meth c H locs cells slots Q (F0 m pc ls (va_rf (o.map ad) :: rest)) := by
  cases o with
  | none => exact lv_ifnullN hx hb hdg ht (k0 rfl)
  | some a => exact lv_ifnull hx hb hdg (k1 a rfl)
theorem x_ifnonnull (hx : p.tables.exec = Jvm.exec) (hb : c.code = cc) {o : Option Nat} {off : Int} {tgt : Nat} (hdg : decode cc pc = .ok (.ifnonnull off, 3)) (ht : (pc : Int) + off = (tgt : Int)) (k1 : ∀ a, o = some a → W p l e R s m args below meth c H locs cells slots Q (F0 m tgt ls rest)) (k0 : o = none → W p l e R s m args below meth c H locs cells slots Q (F0 m (pc + 3) ls rest)) : W p l e R s m args below meth c H locs cells slots Q (F0 m pc ls (va_rf (o.map ad) :: rest)) := by
  cases o with
  | none => exact lv_ifnonnullN hx hb hdg (k0 rfl)
  | some a => exact lv_ifnonnull hx hb hdg ht (k1 a rfl)
theorem x_iret {A1 : Nat → Prop} {v : Int32} {post : Int32 → XS → Prop} (X : xX p s m args c cc Ts dC dI kc own B) (G : xH dC dI kc ad σ A1 s.heap H locs) (hr : meth.sig.returnType = some .int) (hlocks : meth.locks = false) (hq : post v σ) (hdg : decode cc pc = .ok (.ireturn, 1)) : W p l e R s m args below meth c H locs cells slots (MQ below (va_Qi post (xAt dC dI kc ad A1) A1) args s cells slots A1) (F0 m pc ls [.int v]) := by
  obtain ⟨hx, hb, hts, hown, hK, hz⟩ := X
  exact W.iret hx hb hr (fun t ht hW => ⟨⟨v, σ, rfl, hq, by rw [ht]; exact G.1, va_K.moved hW.alike hK, G.2.1⟩, G.2.2.F ht⟩) G.2.2.2.2 hdg hlocks
theorem x_lret {A1 : Nat → Prop} {v : Int64} {post : Int64 → XS → Prop} (X : xX p s m args c cc Ts dC dI kc own B) (G : xH dC dI kc ad σ A1 s.heap H locs) (hr : meth.sig.returnType = some .long) (hlocks : meth.locks = false) (hq : post v σ) (hdg : decode cc pc = .ok (.lreturn, 1)) : W p l e R s m args below meth c H locs cells slots (MQ below (va_Ql post (xAt dC dI kc ad A1) A1) args s cells slots A1) (F0 m pc ls [.long v]) := by
  obtain ⟨hx, hb, hts, hown, hK, hz⟩ := X
  exact W.lret hx hb hr (fun t ht hW => ⟨⟨v, σ, rfl, hq, by rw [ht]; exact G.1, va_K.moved hW.alike hK, G.2.1⟩, G.2.2.F ht⟩) G.2.2.2.2 hdg hlocks
theorem x_zret {A1 : Nat → Prop} {v : Int32} {post : Int32 → XS → Prop} (X : xX p s m args c cc Ts dC dI kc own B) (G : xH dC dI kc ad σ A1 s.heap H locs) (hr : meth.sig.returnType = some .boolean) (hlocks : meth.locks = false) (hn : narrow .boolean (.int v) = .int v) (hq : post v σ) (hdg : decode cc pc = .ok (.ireturn, 1)) : W p l e R s m args below meth c H locs cells slots (MQ below (va_Qi post (xAt dC dI kc ad A1) A1) args s cells slots A1) (F0 m pc ls [.int v]) := by
  obtain ⟨hx, hb, hts, hown, hK, hz⟩ := X
  exact W.zret hx hb hr hn (fun t ht hW => ⟨⟨v, σ, rfl, hq, by rw [ht]; exact G.1, va_K.moved hW.alike hK, G.2.1⟩, G.2.2.F ht⟩) G.2.2.2.2 hdg hlocks
theorem x_vret {A1 : Nat → Prop} {post : XS → Prop} (X : xX p s m args c cc Ts dC dI kc own B) (G : xH dC dI kc ad σ A1 s.heap H locs) (hr : meth.sig.returnType = none) (hlocks : meth.locks = false) (hq : post σ) (hdg : decode cc pc = .ok (.return_, 1)) : W p l e R s m args below meth c H locs cells slots (MQ below (va_Qv post (xAt dC dI kc ad A1) A1) args s cells slots A1) (F0 m pc ls []) := by
  obtain ⟨hx, hb, hts, hown, hK, hz⟩ := X
  exact W.vret hx hb hr (fun t ht hW => ⟨⟨σ, rfl, hq, by rw [ht]; exact G.1, va_K.moved hW.alike hK, G.2.1⟩, G.2.2.F ht⟩) G.2.2.2.2 hdg hlocks
theorem x_qret {A1 : Nat → Prop} {o : Option Nat} {ct : String} {post : Option Nat → XS → Prop} (X : xX p s m args c cc Ts dC dI kc own B) (G : xH dC dI kc ad σ A1 s.heap H locs) (hr : meth.sig.returnType = some (.object ct)) (hlocks : meth.locks = false) (hq : post o σ) (hdg : decode cc pc = .ok (.areturn, 1)) : W p l e R s m args below meth c H locs cells slots (MQ below (va_Qq post (xAt dC dI kc ad A1) A1) args s cells slots A1) (F0 m pc ls [va_rf o]) := by
  obtain ⟨hx, hb, hts, hown, hK, hz⟩ := X
  exact W.aret (v := va_rf o) hx hb hr (Or.inl ⟨_, rfl⟩) (va_rf_or _) (fun t ht hW => ⟨⟨o, σ, rfl, hq, by rw [ht]; exact G.1, va_K.moved hW.alike hK, G.2.1⟩, G.2.2.F ht⟩) G.2.2.2.2 hdg hlocks
theorem x_calli {y : MethodName} {bytes : ByteArray} {maxL nL n : Nat} {ret : Option FieldType} {ws : List Cond} {rm : Room} {As : List Value} {post : Int32 → XS → Prop} (X : xX p s m args c cc Ts dC dI kc own A) (hml : c.maxLocals = nL) (G : xH dC dI kc ad σ A s.heap H locs) (hA : ∀ q : Nat, s.heap.size ≤ q → A q) {C : String} {T9 : u_T} {N9 ci n0 : Nat} {fs : List Value} (hrv : (xW kc ad σ)[n0]? = some (ad n0, .inr (ci, fs))) (hcl : vwCl[ci]? = some (C, T9, N9)) (hM : Met l y ws rm (va_Pc (.ref (ad n0) :: As) (xPre dC dI kc ad H.size σ)) (va_Qi post (xAt dC dI kc ad (xA kc ad σ H.size)) (xA kc ad σ H.size)) 0 0 (xA kc ad σ H.size)) (cw : CallW R s args own C index y bytes maxL ret ws rm 0 0 n) (hn : As.length = n) (hsize : ls.size = nL) (hst : st0 = As.reverse ++ .ref (ad n0) :: rest) (hW : (rest.map fun v => v.category).sum ≤ 8) (hdg : decode cc pc = .ok (.invokevirtual index, 3)) (hf : cells ≤ R.cells ∧ slots ≤ R.slots) (kk : ∀ (r : Int32) (u : XS) (H1 : Heap) (locs1 : List Loc), post r u → xH dC dI kc ad u A s.heap H1 locs1 → W p l e R s m args below meth c H1 locs1 cells slots Q (F0 m (pc + 3) ls (.int r :: rest))) : W p l e R s m args below meth c H locs cells slots Q (F0 m pc ls st0) := by
  obtain ⟨hx, hb, hts, hown, hK, hz⟩ := X
  obtain ⟨hP, hD, hS⟩ := G
  have hFc : ∀ q, xA kc ad σ H.size q → A q := fun q h => h.elim (fun ⟨k, e9, hk⟩ => hD.2 k (q, e9) hk) (fun h => hA q (Nat.le_trans hS.1 h))
  refine va_calli (va_runV (As := As) (rest := rest) ⟨hx, hb, hml, hown, hts⟩ hM cw ⟨fun a U g mk q => by obtain ⟨q0, q1, qP, qK, qD, qz⟩ := q; exact ⟨q0, q1, qP, va_K.moved (u := U) (U := U.calling g mk a) (Vm.Alike.refl U.vm) qK, qD, qz.blind⟩, va_recv hK hP (ci := ci) (q0 := n0) hcl hrv, fun U hU hW => ⟨rfl, by rw [hU], by rw [hU]; exact hP, va_K.moved hW.alike hK, hD.weaken (fun _ _ _ _ => trivial), zX.at hz hS hU hW hFc⟩⟩ rfl hn hsize hst (lv_room hW) hdg hf) hS (fun q _ h => hFc q h) hFc (fun r u t H1 locs ht hvm hw hB hz1 hk1 hS => ?_)
  obtain ⟨hP1, hK1, hD1⟩ := hB
  rw [ht] at hP1
  exact kk r u H1 locs hw ⟨hP1, hD1.weaken (fun _ q9 _ h => hFc q9.1 h), hS⟩
theorem y_calli {f : (String × XS) ⊕ (Int32 × XS)} {α0 : Type} {f0 : (String × XS) ⊕ α0} {Qc0 : Array Value → State → Outcome → State → Prop} {y : MethodName} {bytes : ByteArray} {maxL nL n : Nat} {ret : Option FieldType} {ws : List Cond} {rm : Room} {As : List Value} (X : xX p s m args c cc Ts dC dI kc own A) (hml : c.maxLocals = nL) (G : xH dC dI kc ad σ A s.heap H locs) (hA : ∀ q : Nat, s.heap.size ≤ q → A q) (hEx : ∀ x ∈ c.exceptionTable.toList, False) (hlocks : meth.locks = false) {C : String} {T9 : u_T} {N9 ci n0 : Nat} {fs : List Value} (hrv : (xW kc ad σ)[n0]? = some (ad n0, .inr (ci, fs))) (hcl : vwCl[ci]? = some (C, T9, N9)) (hM : xq_Met l y ws rm (va_Pc (.ref (ad n0) :: As) (xPre dC dI kc ad H.size σ)) (va_Qi (fun r u => f = .inr (r, u)) (xAt dC dI kc ad (xA kc ad σ H.size)) (xA kc ad σ H.size)) (xE f dC dI kc ad (xA kc ad σ H.size)) 0 0 1 6 (xA kc ad σ H.size)) (cw : CallW R s args own C index y bytes maxL ret ws rm 1 6 n) (hn : As.length = n) (hsize : ls.size = nL) (hst : st0 = As.reverse ++ .ref (ad n0) :: rest) (hW : (rest.map fun v => v.category).sum ≤ 8) (hdg : decode cc pc = .ok (.invokevirtual index, 3)) (hf : 1 ≤ R.cells ∧ 6 ≤ R.slots) (kx : ∀ (E : String) (u : XS), f = .inl (E, u) → f0 = .inl (E, u)) (kk : ∀ (r : Int32) (u : XS) (H1 : Heap) (locs1 : List Loc), f = .inr (r, u) → xH dC dI kc ad u A s.heap H1 locs1 → W p l e R s m args below meth c H1 locs1 0 0 (xq_MQ below Qc0 (xE f0 dC dI kc ad A) args s 0 0 1 6 A) (F0 m (pc + 3) ls (.int r :: rest))) : W p l e R s m args below meth c H locs 0 0 (xq_MQ below Qc0 (xE f0 dC dI kc ad A) args s 0 0 1 6 A) (F0 m pc ls st0) := by
  obtain ⟨hx, hb, hts, hown, hK, hz⟩ := X
  obtain ⟨hP, hD, hS⟩ := G
  have hFc : ∀ q, xA kc ad σ H.size q → A q := fun q h => h.elim (fun ⟨k, e9, hk⟩ => hD.2 k (q, e9) hk) (fun h => hA q (Nat.le_trans hS.1 h))
  refine xq_calli (mc := 0) (ms := 0) (mx := 1) (sx := 6) (xq_runV (As := As) (rest := rest) ⟨hx, hb, hml, hown, hts⟩ hM cw ⟨fun a U g mk q => by obtain ⟨q0, q1, qP, qK, qD, qz⟩ := q; exact ⟨q0, q1, qP, va_K.moved (u := U) (U := U.calling g mk a) (Vm.Alike.refl U.vm) qK, qD, qz.blind⟩, va_recv hK hP (ci := ci) (q0 := n0) hcl hrv, fun U hU hW => ⟨rfl, by rw [hU], by rw [hU]; exact hP, va_K.moved hW.alike hK, hD.weaken (fun _ _ _ _ => trivial), zX.at hz hS hU hW hFc⟩⟩ rfl hn hsize hst (lv_room hW) hdg ⟨by rw [Nat.zero_add]; exact hf.1, by rw [Nat.zero_add]; exact hf.2⟩) hS (fun q _ h => hFc q h) hFc (fun q _ h => hFc q h) (fun E ce q9 u t H1 locs1 ht hvm hpx hw hz1 hk1 hS hce hcv hcl => ?_) (fun r u t H1 locs ht hvm hw hB hz1 hk1 hS => ?_)
  · obtain ⟨hw, hP1, hK1, hD1⟩ := hw
    rw [ht] at hP1
    exact xq_thrW (vx_out (fun x hx => (hEx x hx).elim) hlocks hce hcv hcl (fun t ht ha => ⟨u, trivial, ⟨kx E u hw, by rw [ht]; exact hP1, va_K.moved ha hK, hD1.weaken (fun _ q9 _ h => hFc q9.1 h)⟩, hS.F ht⟩) hS.2.2 (by omega) (by omega))
  · obtain ⟨hP1, hK1, hD1⟩ := hB
    rw [ht] at hP1
    exact kk r u H1 locs hw ⟨hP1, hD1.weaken (fun _ q9 _ h => hFc q9.1 h), hS⟩
theorem x_callSi {y : MethodName} {bytes : ByteArray} {maxL nL n : Nat} {ret : Option FieldType} {ws : List Cond} {rm : Room} {As : List Value} {post : Int32 → XS → Prop} (X : xX p s m args c cc Ts dC dI kc own A) (hml : c.maxLocals = nL) (G : xH dC dI kc ad σ A s.heap H locs) (hA : ∀ q : Nat, s.heap.size ≤ q → A q) (hM : Met l y ws rm (va_Pc (As) (xPre dC dI kc ad H.size σ)) (va_Qi post (xAt dC dI kc ad (xA kc ad σ H.size)) (xA kc ad σ H.size)) 0 0 (xA kc ad σ H.size)) (cw : CallB R s args own index y bytes maxL ret ws rm 0 0 n ∧ (Cond.static y).before args s = true) (hn : As.length = n) (hsize : ls.size = nL) (hst : st0 = As.reverse ++ rest) (hW : (rest.map fun v => v.category).sum ≤ 8) (hdg : decode cc pc = .ok (.invokestatic index, 3)) (hf : cells ≤ R.cells ∧ slots ≤ R.slots) (kk : ∀ (r : Int32) (u : XS) (H1 : Heap) (locs1 : List Loc), post r u → xH dC dI kc ad u A s.heap H1 locs1 → W p l e R s m args below meth c H1 locs1 cells slots Q (F0 m (pc + 3) ls (.int r :: rest))) : W p l e R s m args below meth c H locs cells slots Q (F0 m pc ls st0) := by
  obtain ⟨hx, hb, hts, hown, hK, hz⟩ := X
  obtain ⟨hP, hD, hS⟩ := G
  have hFc : ∀ q, xA kc ad σ H.size q → A q := fun q h => h.elim (fun ⟨k, e9, hk⟩ => hD.2 k (q, e9) hk) (fun h => hA q (Nat.le_trans hS.1 h))
  refine va_calli (va_runS (As := As) (rest := rest) ⟨hx, hb, hml, hown, hts⟩ hM cw ⟨fun a U g mk q => by obtain ⟨q0, q1, qP, qK, qD, qz⟩ := q; exact ⟨q0, q1, qP, va_K.moved (u := U) (U := U.calling g mk a) (Vm.Alike.refl U.vm) qK, qD, qz.blind⟩, fun U hU hW => ⟨rfl, by rw [hU], by rw [hU]; exact hP, va_K.moved hW.alike hK, hD.weaken (fun _ _ _ _ => trivial), zX.at hz hS hU hW hFc⟩⟩ rfl hn hsize hst (lv_room hW) hdg hf) hS (fun q _ h => hFc q h) hFc (fun r u t H1 locs ht hvm hw hB hz1 hk1 hS => ?_)
  obtain ⟨hP1, hK1, hD1⟩ := hB
  rw [ht] at hP1
  exact kk r u H1 locs hw ⟨hP1, hD1.weaken (fun _ q9 _ h => hFc q9.1 h), hS⟩
theorem y_callSi {f : (String × XS) ⊕ (Int32 × XS)} {α0 : Type} {f0 : (String × XS) ⊕ α0} {Qc0 : Array Value → State → Outcome → State → Prop} {y : MethodName} {bytes : ByteArray} {maxL nL n : Nat} {ret : Option FieldType} {ws : List Cond} {rm : Room} {As : List Value} (X : xX p s m args c cc Ts dC dI kc own A) (hml : c.maxLocals = nL) (G : xH dC dI kc ad σ A s.heap H locs) (hA : ∀ q : Nat, s.heap.size ≤ q → A q) (hEx : ∀ x ∈ c.exceptionTable.toList, False) (hlocks : meth.locks = false) (hM : xq_Met l y ws rm (va_Pc (As) (xPre dC dI kc ad H.size σ)) (va_Qi (fun r u => f = .inr (r, u)) (xAt dC dI kc ad (xA kc ad σ H.size)) (xA kc ad σ H.size)) (xE f dC dI kc ad (xA kc ad σ H.size)) 0 0 1 6 (xA kc ad σ H.size)) (cw : CallB R s args own index y bytes maxL ret ws rm 1 6 n ∧ (Cond.static y).before args s = true) (hn : As.length = n) (hsize : ls.size = nL) (hst : st0 = As.reverse ++ rest) (hW : (rest.map fun v => v.category).sum ≤ 8) (hdg : decode cc pc = .ok (.invokestatic index, 3)) (hf : 1 ≤ R.cells ∧ 6 ≤ R.slots) (kx : ∀ (E : String) (u : XS), f = .inl (E, u) → f0 = .inl (E, u)) (kk : ∀ (r : Int32) (u : XS) (H1 : Heap) (locs1 : List Loc), f = .inr (r, u) → xH dC dI kc ad u A s.heap H1 locs1 → W p l e R s m args below meth c H1 locs1 0 0 (xq_MQ below Qc0 (xE f0 dC dI kc ad A) args s 0 0 1 6 A) (F0 m (pc + 3) ls (.int r :: rest))) : W p l e R s m args below meth c H locs 0 0 (xq_MQ below Qc0 (xE f0 dC dI kc ad A) args s 0 0 1 6 A) (F0 m pc ls st0) := by
  obtain ⟨hx, hb, hts, hown, hK, hz⟩ := X
  obtain ⟨hP, hD, hS⟩ := G
  have hFc : ∀ q, xA kc ad σ H.size q → A q := fun q h => h.elim (fun ⟨k, e9, hk⟩ => hD.2 k (q, e9) hk) (fun h => hA q (Nat.le_trans hS.1 h))
  refine xq_calli (mc := 0) (ms := 0) (mx := 1) (sx := 6) (xq_runS (As := As) (rest := rest) ⟨hx, hb, hml, hown, hts⟩ hM cw ⟨fun a U g mk q => by obtain ⟨q0, q1, qP, qK, qD, qz⟩ := q; exact ⟨q0, q1, qP, va_K.moved (u := U) (U := U.calling g mk a) (Vm.Alike.refl U.vm) qK, qD, qz.blind⟩, fun U hU hW => ⟨rfl, by rw [hU], by rw [hU]; exact hP, va_K.moved hW.alike hK, hD.weaken (fun _ _ _ _ => trivial), zX.at hz hS hU hW hFc⟩⟩ rfl hn hsize hst (lv_room hW) hdg ⟨by rw [Nat.zero_add]; exact hf.1, by rw [Nat.zero_add]; exact hf.2⟩) hS (fun q _ h => hFc q h) hFc (fun q _ h => hFc q h) (fun E ce q9 u t H1 locs1 ht hvm hpx hw hz1 hk1 hS hce hcv hcl => ?_) (fun r u t H1 locs ht hvm hw hB hz1 hk1 hS => ?_)
  · obtain ⟨hw, hP1, hK1, hD1⟩ := hw
    rw [ht] at hP1
    exact xq_thrW (vx_out (fun x hx => (hEx x hx).elim) hlocks hce hcv hcl (fun t ht ha => ⟨u, trivial, ⟨kx E u hw, by rw [ht]; exact hP1, va_K.moved ha hK, hD1.weaken (fun _ q9 _ h => hFc q9.1 h)⟩, hS.F ht⟩) hS.2.2 (by omega) (by omega))
  · obtain ⟨hP1, hK1, hD1⟩ := hB
    rw [ht] at hP1
    exact kk r u H1 locs hw ⟨hP1, hD1.weaken (fun _ q9 _ h => hFc q9.1 h), hS⟩
theorem x_calll {y : MethodName} {bytes : ByteArray} {maxL nL n : Nat} {ret : Option FieldType} {ws : List Cond} {rm : Room} {As : List Value} {post : Int64 → XS → Prop} (X : xX p s m args c cc Ts dC dI kc own A) (hml : c.maxLocals = nL) (G : xH dC dI kc ad σ A s.heap H locs) (hA : ∀ q : Nat, s.heap.size ≤ q → A q) {C : String} {T9 : u_T} {N9 ci n0 : Nat} {fs : List Value} (hrv : (xW kc ad σ)[n0]? = some (ad n0, .inr (ci, fs))) (hcl : vwCl[ci]? = some (C, T9, N9)) (hM : Met l y ws rm (va_Pc (.ref (ad n0) :: As) (xPre dC dI kc ad H.size σ)) (va_Ql post (xAt dC dI kc ad (xA kc ad σ H.size)) (xA kc ad σ H.size)) 0 0 (xA kc ad σ H.size)) (cw : CallW R s args own C index y bytes maxL ret ws rm 0 0 n) (hn : As.length = n) (hsize : ls.size = nL) (hst : st0 = As.reverse ++ .ref (ad n0) :: rest) (hW : (rest.map fun v => v.category).sum ≤ 8) (hdg : decode cc pc = .ok (.invokevirtual index, 3)) (hf : cells ≤ R.cells ∧ slots ≤ R.slots) (kk : ∀ (r : Int64) (u : XS) (H1 : Heap) (locs1 : List Loc), post r u → xH dC dI kc ad u A s.heap H1 locs1 → W p l e R s m args below meth c H1 locs1 cells slots Q (F0 m (pc + 3) ls (.long r :: rest))) : W p l e R s m args below meth c H locs cells slots Q (F0 m pc ls st0) := by
  obtain ⟨hx, hb, hts, hown, hK, hz⟩ := X
  obtain ⟨hP, hD, hS⟩ := G
  have hFc : ∀ q, xA kc ad σ H.size q → A q := fun q h => h.elim (fun ⟨k, e9, hk⟩ => hD.2 k (q, e9) hk) (fun h => hA q (Nat.le_trans hS.1 h))
  refine va_calll (va_runV (As := As) (rest := rest) ⟨hx, hb, hml, hown, hts⟩ hM cw ⟨fun a U g mk q => by obtain ⟨q0, q1, qP, qK, qD, qz⟩ := q; exact ⟨q0, q1, qP, va_K.moved (u := U) (U := U.calling g mk a) (Vm.Alike.refl U.vm) qK, qD, qz.blind⟩, va_recv hK hP (ci := ci) (q0 := n0) hcl hrv, fun U hU hW => ⟨rfl, by rw [hU], by rw [hU]; exact hP, va_K.moved hW.alike hK, hD.weaken (fun _ _ _ _ => trivial), zX.at hz hS hU hW hFc⟩⟩ rfl hn hsize hst (lv_room hW) hdg hf) hS (fun q _ h => hFc q h) hFc (fun r u t H1 locs ht hvm hw hB hz1 hk1 hS => ?_)
  obtain ⟨hP1, hK1, hD1⟩ := hB
  rw [ht] at hP1
  exact kk r u H1 locs hw ⟨hP1, hD1.weaken (fun _ q9 _ h => hFc q9.1 h), hS⟩
theorem y_calll {f : (String × XS) ⊕ (Int64 × XS)} {α0 : Type} {f0 : (String × XS) ⊕ α0} {Qc0 : Array Value → State → Outcome → State → Prop} {y : MethodName} {bytes : ByteArray} {maxL nL n : Nat} {ret : Option FieldType} {ws : List Cond} {rm : Room} {As : List Value} (X : xX p s m args c cc Ts dC dI kc own A) (hml : c.maxLocals = nL) (G : xH dC dI kc ad σ A s.heap H locs) (hA : ∀ q : Nat, s.heap.size ≤ q → A q) (hEx : ∀ x ∈ c.exceptionTable.toList, False) (hlocks : meth.locks = false) {C : String} {T9 : u_T} {N9 ci n0 : Nat} {fs : List Value} (hrv : (xW kc ad σ)[n0]? = some (ad n0, .inr (ci, fs))) (hcl : vwCl[ci]? = some (C, T9, N9)) (hM : xq_Met l y ws rm (va_Pc (.ref (ad n0) :: As) (xPre dC dI kc ad H.size σ)) (va_Ql (fun r u => f = .inr (r, u)) (xAt dC dI kc ad (xA kc ad σ H.size)) (xA kc ad σ H.size)) (xE f dC dI kc ad (xA kc ad σ H.size)) 0 0 1 6 (xA kc ad σ H.size)) (cw : CallW R s args own C index y bytes maxL ret ws rm 1 6 n) (hn : As.length = n) (hsize : ls.size = nL) (hst : st0 = As.reverse ++ .ref (ad n0) :: rest) (hW : (rest.map fun v => v.category).sum ≤ 8) (hdg : decode cc pc = .ok (.invokevirtual index, 3)) (hf : 1 ≤ R.cells ∧ 6 ≤ R.slots) (kx : ∀ (E : String) (u : XS), f = .inl (E, u) → f0 = .inl (E, u)) (kk : ∀ (r : Int64) (u : XS) (H1 : Heap) (locs1 : List Loc), f = .inr (r, u) → xH dC dI kc ad u A s.heap H1 locs1 → W p l e R s m args below meth c H1 locs1 0 0 (xq_MQ below Qc0 (xE f0 dC dI kc ad A) args s 0 0 1 6 A) (F0 m (pc + 3) ls (.long r :: rest))) : W p l e R s m args below meth c H locs 0 0 (xq_MQ below Qc0 (xE f0 dC dI kc ad A) args s 0 0 1 6 A) (F0 m pc ls st0) := by
  obtain ⟨hx, hb, hts, hown, hK, hz⟩ := X
  obtain ⟨hP, hD, hS⟩ := G
  have hFc : ∀ q, xA kc ad σ H.size q → A q := fun q h => h.elim (fun ⟨k, e9, hk⟩ => hD.2 k (q, e9) hk) (fun h => hA q (Nat.le_trans hS.1 h))
  refine xq_calll (mc := 0) (ms := 0) (mx := 1) (sx := 6) (xq_runV (As := As) (rest := rest) ⟨hx, hb, hml, hown, hts⟩ hM cw ⟨fun a U g mk q => by obtain ⟨q0, q1, qP, qK, qD, qz⟩ := q; exact ⟨q0, q1, qP, va_K.moved (u := U) (U := U.calling g mk a) (Vm.Alike.refl U.vm) qK, qD, qz.blind⟩, va_recv hK hP (ci := ci) (q0 := n0) hcl hrv, fun U hU hW => ⟨rfl, by rw [hU], by rw [hU]; exact hP, va_K.moved hW.alike hK, hD.weaken (fun _ _ _ _ => trivial), zX.at hz hS hU hW hFc⟩⟩ rfl hn hsize hst (lv_room hW) hdg ⟨by rw [Nat.zero_add]; exact hf.1, by rw [Nat.zero_add]; exact hf.2⟩) hS (fun q _ h => hFc q h) hFc (fun q _ h => hFc q h) (fun E ce q9 u t H1 locs1 ht hvm hpx hw hz1 hk1 hS hce hcv hcl => ?_) (fun r u t H1 locs ht hvm hw hB hz1 hk1 hS => ?_)
  · obtain ⟨hw, hP1, hK1, hD1⟩ := hw
    rw [ht] at hP1
    exact xq_thrW (vx_out (fun x hx => (hEx x hx).elim) hlocks hce hcv hcl (fun t ht ha => ⟨u, trivial, ⟨kx E u hw, by rw [ht]; exact hP1, va_K.moved ha hK, hD1.weaken (fun _ q9 _ h => hFc q9.1 h)⟩, hS.F ht⟩) hS.2.2 (by omega) (by omega))
  · obtain ⟨hP1, hK1, hD1⟩ := hB
    rw [ht] at hP1
    exact kk r u H1 locs hw ⟨hP1, hD1.weaken (fun _ q9 _ h => hFc q9.1 h), hS⟩
theorem x_callSl {y : MethodName} {bytes : ByteArray} {maxL nL n : Nat} {ret : Option FieldType} {ws : List Cond} {rm : Room} {As : List Value} {post : Int64 → XS → Prop} (X : xX p s m args c cc Ts dC dI kc own A) (hml : c.maxLocals = nL) (G : xH dC dI kc ad σ A s.heap H locs) (hA : ∀ q : Nat, s.heap.size ≤ q → A q) (hM : Met l y ws rm (va_Pc (As) (xPre dC dI kc ad H.size σ)) (va_Ql post (xAt dC dI kc ad (xA kc ad σ H.size)) (xA kc ad σ H.size)) 0 0 (xA kc ad σ H.size)) (cw : CallB R s args own index y bytes maxL ret ws rm 0 0 n ∧ (Cond.static y).before args s = true) (hn : As.length = n) (hsize : ls.size = nL) (hst : st0 = As.reverse ++ rest) (hW : (rest.map fun v => v.category).sum ≤ 8) (hdg : decode cc pc = .ok (.invokestatic index, 3)) (hf : cells ≤ R.cells ∧ slots ≤ R.slots) (kk : ∀ (r : Int64) (u : XS) (H1 : Heap) (locs1 : List Loc), post r u → xH dC dI kc ad u A s.heap H1 locs1 → W p l e R s m args below meth c H1 locs1 cells slots Q (F0 m (pc + 3) ls (.long r :: rest))) : W p l e R s m args below meth c H locs cells slots Q (F0 m pc ls st0) := by
  obtain ⟨hx, hb, hts, hown, hK, hz⟩ := X
  obtain ⟨hP, hD, hS⟩ := G
  have hFc : ∀ q, xA kc ad σ H.size q → A q := fun q h => h.elim (fun ⟨k, e9, hk⟩ => hD.2 k (q, e9) hk) (fun h => hA q (Nat.le_trans hS.1 h))
  refine va_calll (va_runS (As := As) (rest := rest) ⟨hx, hb, hml, hown, hts⟩ hM cw ⟨fun a U g mk q => by obtain ⟨q0, q1, qP, qK, qD, qz⟩ := q; exact ⟨q0, q1, qP, va_K.moved (u := U) (U := U.calling g mk a) (Vm.Alike.refl U.vm) qK, qD, qz.blind⟩, fun U hU hW => ⟨rfl, by rw [hU], by rw [hU]; exact hP, va_K.moved hW.alike hK, hD.weaken (fun _ _ _ _ => trivial), zX.at hz hS hU hW hFc⟩⟩ rfl hn hsize hst (lv_room hW) hdg hf) hS (fun q _ h => hFc q h) hFc (fun r u t H1 locs ht hvm hw hB hz1 hk1 hS => ?_)
  obtain ⟨hP1, hK1, hD1⟩ := hB
  rw [ht] at hP1
  exact kk r u H1 locs hw ⟨hP1, hD1.weaken (fun _ q9 _ h => hFc q9.1 h), hS⟩
theorem y_callSl {f : (String × XS) ⊕ (Int64 × XS)} {α0 : Type} {f0 : (String × XS) ⊕ α0} {Qc0 : Array Value → State → Outcome → State → Prop} {y : MethodName} {bytes : ByteArray} {maxL nL n : Nat} {ret : Option FieldType} {ws : List Cond} {rm : Room} {As : List Value} (X : xX p s m args c cc Ts dC dI kc own A) (hml : c.maxLocals = nL) (G : xH dC dI kc ad σ A s.heap H locs) (hA : ∀ q : Nat, s.heap.size ≤ q → A q) (hEx : ∀ x ∈ c.exceptionTable.toList, False) (hlocks : meth.locks = false) (hM : xq_Met l y ws rm (va_Pc (As) (xPre dC dI kc ad H.size σ)) (va_Ql (fun r u => f = .inr (r, u)) (xAt dC dI kc ad (xA kc ad σ H.size)) (xA kc ad σ H.size)) (xE f dC dI kc ad (xA kc ad σ H.size)) 0 0 1 6 (xA kc ad σ H.size)) (cw : CallB R s args own index y bytes maxL ret ws rm 1 6 n ∧ (Cond.static y).before args s = true) (hn : As.length = n) (hsize : ls.size = nL) (hst : st0 = As.reverse ++ rest) (hW : (rest.map fun v => v.category).sum ≤ 8) (hdg : decode cc pc = .ok (.invokestatic index, 3)) (hf : 1 ≤ R.cells ∧ 6 ≤ R.slots) (kx : ∀ (E : String) (u : XS), f = .inl (E, u) → f0 = .inl (E, u)) (kk : ∀ (r : Int64) (u : XS) (H1 : Heap) (locs1 : List Loc), f = .inr (r, u) → xH dC dI kc ad u A s.heap H1 locs1 → W p l e R s m args below meth c H1 locs1 0 0 (xq_MQ below Qc0 (xE f0 dC dI kc ad A) args s 0 0 1 6 A) (F0 m (pc + 3) ls (.long r :: rest))) : W p l e R s m args below meth c H locs 0 0 (xq_MQ below Qc0 (xE f0 dC dI kc ad A) args s 0 0 1 6 A) (F0 m pc ls st0) := by
  obtain ⟨hx, hb, hts, hown, hK, hz⟩ := X
  obtain ⟨hP, hD, hS⟩ := G
  have hFc : ∀ q, xA kc ad σ H.size q → A q := fun q h => h.elim (fun ⟨k, e9, hk⟩ => hD.2 k (q, e9) hk) (fun h => hA q (Nat.le_trans hS.1 h))
  refine xq_calll (mc := 0) (ms := 0) (mx := 1) (sx := 6) (xq_runS (As := As) (rest := rest) ⟨hx, hb, hml, hown, hts⟩ hM cw ⟨fun a U g mk q => by obtain ⟨q0, q1, qP, qK, qD, qz⟩ := q; exact ⟨q0, q1, qP, va_K.moved (u := U) (U := U.calling g mk a) (Vm.Alike.refl U.vm) qK, qD, qz.blind⟩, fun U hU hW => ⟨rfl, by rw [hU], by rw [hU]; exact hP, va_K.moved hW.alike hK, hD.weaken (fun _ _ _ _ => trivial), zX.at hz hS hU hW hFc⟩⟩ rfl hn hsize hst (lv_room hW) hdg ⟨by rw [Nat.zero_add]; exact hf.1, by rw [Nat.zero_add]; exact hf.2⟩) hS (fun q _ h => hFc q h) hFc (fun q _ h => hFc q h) (fun E ce q9 u t H1 locs1 ht hvm hpx hw hz1 hk1 hS hce hcv hcl => ?_) (fun r u t H1 locs ht hvm hw hB hz1 hk1 hS => ?_)
  · obtain ⟨hw, hP1, hK1, hD1⟩ := hw
    rw [ht] at hP1
    exact xq_thrW (vx_out (fun x hx => (hEx x hx).elim) hlocks hce hcv hcl (fun t ht ha => ⟨u, trivial, ⟨kx E u hw, by rw [ht]; exact hP1, va_K.moved ha hK, hD1.weaken (fun _ q9 _ h => hFc q9.1 h)⟩, hS.F ht⟩) hS.2.2 (by omega) (by omega))
  · obtain ⟨hP1, hK1, hD1⟩ := hB
    rw [ht] at hP1
    exact kk r u H1 locs hw ⟨hP1, hD1.weaken (fun _ q9 _ h => hFc q9.1 h), hS⟩
theorem x_callv {y : MethodName} {bytes : ByteArray} {maxL nL n : Nat} {ret : Option FieldType} {ws : List Cond} {rm : Room} {As : List Value} {post : XS → Prop} (X : xX p s m args c cc Ts dC dI kc own A) (hml : c.maxLocals = nL) (G : xH dC dI kc ad σ A s.heap H locs) (hA : ∀ q : Nat, s.heap.size ≤ q → A q) {C : String} {T9 : u_T} {N9 ci n0 : Nat} {fs : List Value} (hrv : (xW kc ad σ)[n0]? = some (ad n0, .inr (ci, fs))) (hcl : vwCl[ci]? = some (C, T9, N9)) (hM : Met l y ws rm (va_Pc (.ref (ad n0) :: As) (xPre dC dI kc ad H.size σ)) (va_Qv post (xAt dC dI kc ad (xA kc ad σ H.size)) (xA kc ad σ H.size)) 0 0 (xA kc ad σ H.size)) (cw : CallW R s args own C index y bytes maxL ret ws rm 0 0 n) (hn : As.length = n) (hsize : ls.size = nL) (hst : st0 = As.reverse ++ .ref (ad n0) :: rest) (hW : (rest.map fun v => v.category).sum ≤ 8) (hdg : decode cc pc = .ok (.invokevirtual index, 3)) (hf : cells ≤ R.cells ∧ slots ≤ R.slots) (kk : ∀ (u : XS) (H1 : Heap) (locs1 : List Loc), post u → xH dC dI kc ad u A s.heap H1 locs1 → W p l e R s m args below meth c H1 locs1 cells slots Q (F0 m (pc + 3) ls (rest))) : W p l e R s m args below meth c H locs cells slots Q (F0 m pc ls st0) := by
  obtain ⟨hx, hb, hts, hown, hK, hz⟩ := X
  obtain ⟨hP, hD, hS⟩ := G
  have hFc : ∀ q, xA kc ad σ H.size q → A q := fun q h => h.elim (fun ⟨k, e9, hk⟩ => hD.2 k (q, e9) hk) (fun h => hA q (Nat.le_trans hS.1 h))
  refine va_callv (va_runV (As := As) (rest := rest) ⟨hx, hb, hml, hown, hts⟩ hM cw ⟨fun a U g mk q => by obtain ⟨q0, q1, qP, qK, qD, qz⟩ := q; exact ⟨q0, q1, qP, va_K.moved (u := U) (U := U.calling g mk a) (Vm.Alike.refl U.vm) qK, qD, qz.blind⟩, va_recv hK hP (ci := ci) (q0 := n0) hcl hrv, fun U hU hW => ⟨rfl, by rw [hU], by rw [hU]; exact hP, va_K.moved hW.alike hK, hD.weaken (fun _ _ _ _ => trivial), zX.at hz hS hU hW hFc⟩⟩ rfl hn hsize hst (lv_room hW) hdg hf) hS (fun q _ h => hFc q h) hFc (fun u t H1 locs ht hvm hw hB hz1 hk1 hS => ?_)
  obtain ⟨hP1, hK1, hD1⟩ := hB
  rw [ht] at hP1
  exact kk u H1 locs hw ⟨hP1, hD1.weaken (fun _ q9 _ h => hFc q9.1 h), hS⟩
theorem y_callv {f : (String × XS) ⊕ XS} {α0 : Type} {f0 : (String × XS) ⊕ α0} {Qc0 : Array Value → State → Outcome → State → Prop} {y : MethodName} {bytes : ByteArray} {maxL nL n : Nat} {ret : Option FieldType} {ws : List Cond} {rm : Room} {As : List Value} (X : xX p s m args c cc Ts dC dI kc own A) (hml : c.maxLocals = nL) (G : xH dC dI kc ad σ A s.heap H locs) (hA : ∀ q : Nat, s.heap.size ≤ q → A q) (hEx : ∀ x ∈ c.exceptionTable.toList, False) (hlocks : meth.locks = false) {C : String} {T9 : u_T} {N9 ci n0 : Nat} {fs : List Value} (hrv : (xW kc ad σ)[n0]? = some (ad n0, .inr (ci, fs))) (hcl : vwCl[ci]? = some (C, T9, N9)) (hM : xq_Met l y ws rm (va_Pc (.ref (ad n0) :: As) (xPre dC dI kc ad H.size σ)) (va_Qv (fun u => f = .inr u) (xAt dC dI kc ad (xA kc ad σ H.size)) (xA kc ad σ H.size)) (xE f dC dI kc ad (xA kc ad σ H.size)) 0 0 1 6 (xA kc ad σ H.size)) (cw : CallW R s args own C index y bytes maxL ret ws rm 1 6 n) (hn : As.length = n) (hsize : ls.size = nL) (hst : st0 = As.reverse ++ .ref (ad n0) :: rest) (hW : (rest.map fun v => v.category).sum ≤ 8) (hdg : decode cc pc = .ok (.invokevirtual index, 3)) (hf : 1 ≤ R.cells ∧ 6 ≤ R.slots) (kx : ∀ (E : String) (u : XS), f = .inl (E, u) → f0 = .inl (E, u)) (kk : ∀ (u : XS) (H1 : Heap) (locs1 : List Loc), f = .inr u → xH dC dI kc ad u A s.heap H1 locs1 → W p l e R s m args below meth c H1 locs1 0 0 (xq_MQ below Qc0 (xE f0 dC dI kc ad A) args s 0 0 1 6 A) (F0 m (pc + 3) ls (rest))) : W p l e R s m args below meth c H locs 0 0 (xq_MQ below Qc0 (xE f0 dC dI kc ad A) args s 0 0 1 6 A) (F0 m pc ls st0) := by
  obtain ⟨hx, hb, hts, hown, hK, hz⟩ := X
  obtain ⟨hP, hD, hS⟩ := G
  have hFc : ∀ q, xA kc ad σ H.size q → A q := fun q h => h.elim (fun ⟨k, e9, hk⟩ => hD.2 k (q, e9) hk) (fun h => hA q (Nat.le_trans hS.1 h))
  refine xq_callv (mc := 0) (ms := 0) (mx := 1) (sx := 6) (xq_runV (As := As) (rest := rest) ⟨hx, hb, hml, hown, hts⟩ hM cw ⟨fun a U g mk q => by obtain ⟨q0, q1, qP, qK, qD, qz⟩ := q; exact ⟨q0, q1, qP, va_K.moved (u := U) (U := U.calling g mk a) (Vm.Alike.refl U.vm) qK, qD, qz.blind⟩, va_recv hK hP (ci := ci) (q0 := n0) hcl hrv, fun U hU hW => ⟨rfl, by rw [hU], by rw [hU]; exact hP, va_K.moved hW.alike hK, hD.weaken (fun _ _ _ _ => trivial), zX.at hz hS hU hW hFc⟩⟩ rfl hn hsize hst (lv_room hW) hdg ⟨by rw [Nat.zero_add]; exact hf.1, by rw [Nat.zero_add]; exact hf.2⟩) hS (fun q _ h => hFc q h) hFc (fun q _ h => hFc q h) (fun E ce q9 u t H1 locs1 ht hvm hpx hw hz1 hk1 hS hce hcv hcl => ?_) (fun u t H1 locs ht hvm hw hB hz1 hk1 hS => ?_)
  · obtain ⟨hw, hP1, hK1, hD1⟩ := hw
    rw [ht] at hP1
    exact xq_thrW (vx_out (fun x hx => (hEx x hx).elim) hlocks hce hcv hcl (fun t ht ha => ⟨u, trivial, ⟨kx E u hw, by rw [ht]; exact hP1, va_K.moved ha hK, hD1.weaken (fun _ q9 _ h => hFc q9.1 h)⟩, hS.F ht⟩) hS.2.2 (by omega) (by omega))
  · obtain ⟨hP1, hK1, hD1⟩ := hB
    rw [ht] at hP1
    exact kk u H1 locs hw ⟨hP1, hD1.weaken (fun _ q9 _ h => hFc q9.1 h), hS⟩
theorem x_callSv {y : MethodName} {bytes : ByteArray} {maxL nL n : Nat} {ret : Option FieldType} {ws : List Cond} {rm : Room} {As : List Value} {post : XS → Prop} (X : xX p s m args c cc Ts dC dI kc own A) (hml : c.maxLocals = nL) (G : xH dC dI kc ad σ A s.heap H locs) (hA : ∀ q : Nat, s.heap.size ≤ q → A q) (hM : Met l y ws rm (va_Pc (As) (xPre dC dI kc ad H.size σ)) (va_Qv post (xAt dC dI kc ad (xA kc ad σ H.size)) (xA kc ad σ H.size)) 0 0 (xA kc ad σ H.size)) (cw : CallB R s args own index y bytes maxL ret ws rm 0 0 n ∧ (Cond.static y).before args s = true) (hn : As.length = n) (hsize : ls.size = nL) (hst : st0 = As.reverse ++ rest) (hW : (rest.map fun v => v.category).sum ≤ 8) (hdg : decode cc pc = .ok (.invokestatic index, 3)) (hf : cells ≤ R.cells ∧ slots ≤ R.slots) (kk : ∀ (u : XS) (H1 : Heap) (locs1 : List Loc), post u → xH dC dI kc ad u A s.heap H1 locs1 → W p l e R s m args below meth c H1 locs1 cells slots Q (F0 m (pc + 3) ls (rest))) : W p l e R s m args below meth c H locs cells slots Q (F0 m pc ls st0) := by
  obtain ⟨hx, hb, hts, hown, hK, hz⟩ := X
  obtain ⟨hP, hD, hS⟩ := G
  have hFc : ∀ q, xA kc ad σ H.size q → A q := fun q h => h.elim (fun ⟨k, e9, hk⟩ => hD.2 k (q, e9) hk) (fun h => hA q (Nat.le_trans hS.1 h))
  refine va_callv (va_runS (As := As) (rest := rest) ⟨hx, hb, hml, hown, hts⟩ hM cw ⟨fun a U g mk q => by obtain ⟨q0, q1, qP, qK, qD, qz⟩ := q; exact ⟨q0, q1, qP, va_K.moved (u := U) (U := U.calling g mk a) (Vm.Alike.refl U.vm) qK, qD, qz.blind⟩, fun U hU hW => ⟨rfl, by rw [hU], by rw [hU]; exact hP, va_K.moved hW.alike hK, hD.weaken (fun _ _ _ _ => trivial), zX.at hz hS hU hW hFc⟩⟩ rfl hn hsize hst (lv_room hW) hdg hf) hS (fun q _ h => hFc q h) hFc (fun u t H1 locs ht hvm hw hB hz1 hk1 hS => ?_)
  obtain ⟨hP1, hK1, hD1⟩ := hB
  rw [ht] at hP1
  exact kk u H1 locs hw ⟨hP1, hD1.weaken (fun _ q9 _ h => hFc q9.1 h), hS⟩
theorem y_callSv {f : (String × XS) ⊕ XS} {α0 : Type} {f0 : (String × XS) ⊕ α0} {Qc0 : Array Value → State → Outcome → State → Prop} {y : MethodName} {bytes : ByteArray} {maxL nL n : Nat} {ret : Option FieldType} {ws : List Cond} {rm : Room} {As : List Value} (X : xX p s m args c cc Ts dC dI kc own A) (hml : c.maxLocals = nL) (G : xH dC dI kc ad σ A s.heap H locs) (hA : ∀ q : Nat, s.heap.size ≤ q → A q) (hEx : ∀ x ∈ c.exceptionTable.toList, False) (hlocks : meth.locks = false) (hM : xq_Met l y ws rm (va_Pc (As) (xPre dC dI kc ad H.size σ)) (va_Qv (fun u => f = .inr u) (xAt dC dI kc ad (xA kc ad σ H.size)) (xA kc ad σ H.size)) (xE f dC dI kc ad (xA kc ad σ H.size)) 0 0 1 6 (xA kc ad σ H.size)) (cw : CallB R s args own index y bytes maxL ret ws rm 1 6 n ∧ (Cond.static y).before args s = true) (hn : As.length = n) (hsize : ls.size = nL) (hst : st0 = As.reverse ++ rest) (hW : (rest.map fun v => v.category).sum ≤ 8) (hdg : decode cc pc = .ok (.invokestatic index, 3)) (hf : 1 ≤ R.cells ∧ 6 ≤ R.slots) (kx : ∀ (E : String) (u : XS), f = .inl (E, u) → f0 = .inl (E, u)) (kk : ∀ (u : XS) (H1 : Heap) (locs1 : List Loc), f = .inr u → xH dC dI kc ad u A s.heap H1 locs1 → W p l e R s m args below meth c H1 locs1 0 0 (xq_MQ below Qc0 (xE f0 dC dI kc ad A) args s 0 0 1 6 A) (F0 m (pc + 3) ls (rest))) : W p l e R s m args below meth c H locs 0 0 (xq_MQ below Qc0 (xE f0 dC dI kc ad A) args s 0 0 1 6 A) (F0 m pc ls st0) := by
  obtain ⟨hx, hb, hts, hown, hK, hz⟩ := X
  obtain ⟨hP, hD, hS⟩ := G
  have hFc : ∀ q, xA kc ad σ H.size q → A q := fun q h => h.elim (fun ⟨k, e9, hk⟩ => hD.2 k (q, e9) hk) (fun h => hA q (Nat.le_trans hS.1 h))
  refine xq_callv (mc := 0) (ms := 0) (mx := 1) (sx := 6) (xq_runS (As := As) (rest := rest) ⟨hx, hb, hml, hown, hts⟩ hM cw ⟨fun a U g mk q => by obtain ⟨q0, q1, qP, qK, qD, qz⟩ := q; exact ⟨q0, q1, qP, va_K.moved (u := U) (U := U.calling g mk a) (Vm.Alike.refl U.vm) qK, qD, qz.blind⟩, fun U hU hW => ⟨rfl, by rw [hU], by rw [hU]; exact hP, va_K.moved hW.alike hK, hD.weaken (fun _ _ _ _ => trivial), zX.at hz hS hU hW hFc⟩⟩ rfl hn hsize hst (lv_room hW) hdg ⟨by rw [Nat.zero_add]; exact hf.1, by rw [Nat.zero_add]; exact hf.2⟩) hS (fun q _ h => hFc q h) hFc (fun q _ h => hFc q h) (fun E ce q9 u t H1 locs1 ht hvm hpx hw hz1 hk1 hS hce hcv hcl => ?_) (fun u t H1 locs ht hvm hw hB hz1 hk1 hS => ?_)
  · obtain ⟨hw, hP1, hK1, hD1⟩ := hw
    rw [ht] at hP1
    exact xq_thrW (vx_out (fun x hx => (hEx x hx).elim) hlocks hce hcv hcl (fun t ht ha => ⟨u, trivial, ⟨kx E u hw, by rw [ht]; exact hP1, va_K.moved ha hK, hD1.weaken (fun _ q9 _ h => hFc q9.1 h)⟩, hS.F ht⟩) hS.2.2 (by omega) (by omega))
  · obtain ⟨hP1, hK1, hD1⟩ := hB
    rw [ht] at hP1
    exact kk u H1 locs hw ⟨hP1, hD1.weaken (fun _ q9 _ h => hFc q9.1 h), hS⟩
theorem x_callq {y : MethodName} {bytes : ByteArray} {maxL nL n : Nat} {ret : Option FieldType} {ws : List Cond} {rm : Room} {As : List Value} {post : Option Nat → XS → Prop} (X : xX p s m args c cc Ts dC dI kc own A) (hml : c.maxLocals = nL) (G : xH dC dI kc ad σ A s.heap H locs) (hA : ∀ q : Nat, s.heap.size ≤ q → A q) {C : String} {T9 : u_T} {N9 ci n0 : Nat} {fs : List Value} (hrv : (xW kc ad σ)[n0]? = some (ad n0, .inr (ci, fs))) (hcl : vwCl[ci]? = some (C, T9, N9)) (hM : Met l y ws rm (va_Pc (.ref (ad n0) :: As) (xPre dC dI kc ad H.size σ)) (va_Qq post (xAt dC dI kc ad (xA kc ad σ H.size)) (xA kc ad σ H.size)) 0 0 (xA kc ad σ H.size)) (cw : CallW R s args own C index y bytes maxL ret ws rm 0 0 n) (hn : As.length = n) (hsize : ls.size = nL) (hst : st0 = As.reverse ++ .ref (ad n0) :: rest) (hW : (rest.map fun v => v.category).sum ≤ 8) (hdg : decode cc pc = .ok (.invokevirtual index, 3)) (hf : cells ≤ R.cells ∧ slots ≤ R.slots) (kk : ∀ (r : Option Nat) (u : XS) (H1 : Heap) (locs1 : List Loc), post r u → xH dC dI kc ad u A s.heap H1 locs1 → W p l e R s m args below meth c H1 locs1 cells slots Q (F0 m (pc + 3) ls (va_rf r :: rest))) : W p l e R s m args below meth c H locs cells slots Q (F0 m pc ls st0) := by
  obtain ⟨hx, hb, hts, hown, hK, hz⟩ := X
  obtain ⟨hP, hD, hS⟩ := G
  have hFc : ∀ q, xA kc ad σ H.size q → A q := fun q h => h.elim (fun ⟨k, e9, hk⟩ => hD.2 k (q, e9) hk) (fun h => hA q (Nat.le_trans hS.1 h))
  refine va_callq (va_runV (As := As) (rest := rest) ⟨hx, hb, hml, hown, hts⟩ hM cw ⟨fun a U g mk q => by obtain ⟨q0, q1, qP, qK, qD, qz⟩ := q; exact ⟨q0, q1, qP, va_K.moved (u := U) (U := U.calling g mk a) (Vm.Alike.refl U.vm) qK, qD, qz.blind⟩, va_recv hK hP (ci := ci) (q0 := n0) hcl hrv, fun U hU hW => ⟨rfl, by rw [hU], by rw [hU]; exact hP, va_K.moved hW.alike hK, hD.weaken (fun _ _ _ _ => trivial), zX.at hz hS hU hW hFc⟩⟩ rfl hn hsize hst (lv_room hW) hdg hf) hS (fun q _ h => hFc q h) hFc (fun r u t H1 locs ht hvm hw hB hz1 hk1 hS => ?_)
  obtain ⟨hP1, hK1, hD1⟩ := hB
  rw [ht] at hP1
  exact kk r u H1 locs hw ⟨hP1, hD1.weaken (fun _ q9 _ h => hFc q9.1 h), hS⟩
theorem y_callq {f : (String × XS) ⊕ (Option Nat × XS)} {α0 : Type} {f0 : (String × XS) ⊕ α0} {Qc0 : Array Value → State → Outcome → State → Prop} {y : MethodName} {bytes : ByteArray} {maxL nL n : Nat} {ret : Option FieldType} {ws : List Cond} {rm : Room} {As : List Value} (X : xX p s m args c cc Ts dC dI kc own A) (hml : c.maxLocals = nL) (G : xH dC dI kc ad σ A s.heap H locs) (hA : ∀ q : Nat, s.heap.size ≤ q → A q) (hEx : ∀ x ∈ c.exceptionTable.toList, False) (hlocks : meth.locks = false) {C : String} {T9 : u_T} {N9 ci n0 : Nat} {fs : List Value} (hrv : (xW kc ad σ)[n0]? = some (ad n0, .inr (ci, fs))) (hcl : vwCl[ci]? = some (C, T9, N9)) (hM : xq_Met l y ws rm (va_Pc (.ref (ad n0) :: As) (xPre dC dI kc ad H.size σ)) (va_Qq (fun r u => ∃ o : Option Nat, r = o.map ad ∧ f = .inr (o, u)) (xAt dC dI kc ad (xA kc ad σ H.size)) (xA kc ad σ H.size)) (xE f dC dI kc ad (xA kc ad σ H.size)) 0 0 1 6 (xA kc ad σ H.size)) (cw : CallW R s args own C index y bytes maxL ret ws rm 1 6 n) (hn : As.length = n) (hsize : ls.size = nL) (hst : st0 = As.reverse ++ .ref (ad n0) :: rest) (hW : (rest.map fun v => v.category).sum ≤ 8) (hdg : decode cc pc = .ok (.invokevirtual index, 3)) (hf : 1 ≤ R.cells ∧ 6 ≤ R.slots) (kx : ∀ (E : String) (u : XS), f = .inl (E, u) → f0 = .inl (E, u)) (kk : ∀ (r : Option Nat) (u : XS) (H1 : Heap) (locs1 : List Loc), f = .inr (r, u) → xH dC dI kc ad u A s.heap H1 locs1 → W p l e R s m args below meth c H1 locs1 0 0 (xq_MQ below Qc0 (xE f0 dC dI kc ad A) args s 0 0 1 6 A) (F0 m (pc + 3) ls (va_rf (r.map ad) :: rest))) : W p l e R s m args below meth c H locs 0 0 (xq_MQ below Qc0 (xE f0 dC dI kc ad A) args s 0 0 1 6 A) (F0 m pc ls st0) := by
  obtain ⟨hx, hb, hts, hown, hK, hz⟩ := X
  obtain ⟨hP, hD, hS⟩ := G
  have hFc : ∀ q, xA kc ad σ H.size q → A q := fun q h => h.elim (fun ⟨k, e9, hk⟩ => hD.2 k (q, e9) hk) (fun h => hA q (Nat.le_trans hS.1 h))
  refine xq_callq (mc := 0) (ms := 0) (mx := 1) (sx := 6) (xq_runV (As := As) (rest := rest) ⟨hx, hb, hml, hown, hts⟩ hM cw ⟨fun a U g mk q => by obtain ⟨q0, q1, qP, qK, qD, qz⟩ := q; exact ⟨q0, q1, qP, va_K.moved (u := U) (U := U.calling g mk a) (Vm.Alike.refl U.vm) qK, qD, qz.blind⟩, va_recv hK hP (ci := ci) (q0 := n0) hcl hrv, fun U hU hW => ⟨rfl, by rw [hU], by rw [hU]; exact hP, va_K.moved hW.alike hK, hD.weaken (fun _ _ _ _ => trivial), zX.at hz hS hU hW hFc⟩⟩ rfl hn hsize hst (lv_room hW) hdg ⟨by rw [Nat.zero_add]; exact hf.1, by rw [Nat.zero_add]; exact hf.2⟩) hS (fun q _ h => hFc q h) hFc (fun q _ h => hFc q h) (fun E ce q9 u t H1 locs1 ht hvm hpx hw hz1 hk1 hS hce hcv hcl => ?_) (fun r u t H1 locs ht hvm hw hB hz1 hk1 hS => ?_)
  · obtain ⟨hw, hP1, hK1, hD1⟩ := hw
    rw [ht] at hP1
    exact xq_thrW (vx_out (fun x hx => (hEx x hx).elim) hlocks hce hcv hcl (fun t ht ha => ⟨u, trivial, ⟨kx E u hw, by rw [ht]; exact hP1, va_K.moved ha hK, hD1.weaken (fun _ q9 _ h => hFc q9.1 h)⟩, hS.F ht⟩) hS.2.2 (by omega) (by omega))
  · obtain ⟨hP1, hK1, hD1⟩ := hB
    rw [ht] at hP1
    obtain ⟨r, rfl, hw⟩ := hw
    exact kk r u H1 locs hw ⟨hP1, hD1.weaken (fun _ q9 _ h => hFc q9.1 h), hS⟩
theorem x_callSq {y : MethodName} {bytes : ByteArray} {maxL nL n : Nat} {ret : Option FieldType} {ws : List Cond} {rm : Room} {As : List Value} {post : Option Nat → XS → Prop} (X : xX p s m args c cc Ts dC dI kc own A) (hml : c.maxLocals = nL) (G : xH dC dI kc ad σ A s.heap H locs) (hA : ∀ q : Nat, s.heap.size ≤ q → A q) (hM : Met l y ws rm (va_Pc (As) (xPre dC dI kc ad H.size σ)) (va_Qq post (xAt dC dI kc ad (xA kc ad σ H.size)) (xA kc ad σ H.size)) 0 0 (xA kc ad σ H.size)) (cw : CallB R s args own index y bytes maxL ret ws rm 0 0 n ∧ (Cond.static y).before args s = true) (hn : As.length = n) (hsize : ls.size = nL) (hst : st0 = As.reverse ++ rest) (hW : (rest.map fun v => v.category).sum ≤ 8) (hdg : decode cc pc = .ok (.invokestatic index, 3)) (hf : cells ≤ R.cells ∧ slots ≤ R.slots) (kk : ∀ (r : Option Nat) (u : XS) (H1 : Heap) (locs1 : List Loc), post r u → xH dC dI kc ad u A s.heap H1 locs1 → W p l e R s m args below meth c H1 locs1 cells slots Q (F0 m (pc + 3) ls (va_rf r :: rest))) : W p l e R s m args below meth c H locs cells slots Q (F0 m pc ls st0) := by
  obtain ⟨hx, hb, hts, hown, hK, hz⟩ := X
  obtain ⟨hP, hD, hS⟩ := G
  have hFc : ∀ q, xA kc ad σ H.size q → A q := fun q h => h.elim (fun ⟨k, e9, hk⟩ => hD.2 k (q, e9) hk) (fun h => hA q (Nat.le_trans hS.1 h))
  refine va_callq (va_runS (As := As) (rest := rest) ⟨hx, hb, hml, hown, hts⟩ hM cw ⟨fun a U g mk q => by obtain ⟨q0, q1, qP, qK, qD, qz⟩ := q; exact ⟨q0, q1, qP, va_K.moved (u := U) (U := U.calling g mk a) (Vm.Alike.refl U.vm) qK, qD, qz.blind⟩, fun U hU hW => ⟨rfl, by rw [hU], by rw [hU]; exact hP, va_K.moved hW.alike hK, hD.weaken (fun _ _ _ _ => trivial), zX.at hz hS hU hW hFc⟩⟩ rfl hn hsize hst (lv_room hW) hdg hf) hS (fun q _ h => hFc q h) hFc (fun r u t H1 locs ht hvm hw hB hz1 hk1 hS => ?_)
  obtain ⟨hP1, hK1, hD1⟩ := hB
  rw [ht] at hP1
  exact kk r u H1 locs hw ⟨hP1, hD1.weaken (fun _ q9 _ h => hFc q9.1 h), hS⟩
theorem y_callSq {f : (String × XS) ⊕ (Option Nat × XS)} {α0 : Type} {f0 : (String × XS) ⊕ α0} {Qc0 : Array Value → State → Outcome → State → Prop} {y : MethodName} {bytes : ByteArray} {maxL nL n : Nat} {ret : Option FieldType} {ws : List Cond} {rm : Room} {As : List Value} (X : xX p s m args c cc Ts dC dI kc own A) (hml : c.maxLocals = nL) (G : xH dC dI kc ad σ A s.heap H locs) (hA : ∀ q : Nat, s.heap.size ≤ q → A q) (hEx : ∀ x ∈ c.exceptionTable.toList, False) (hlocks : meth.locks = false) (hM : xq_Met l y ws rm (va_Pc (As) (xPre dC dI kc ad H.size σ)) (va_Qq (fun r u => ∃ o : Option Nat, r = o.map ad ∧ f = .inr (o, u)) (xAt dC dI kc ad (xA kc ad σ H.size)) (xA kc ad σ H.size)) (xE f dC dI kc ad (xA kc ad σ H.size)) 0 0 1 6 (xA kc ad σ H.size)) (cw : CallB R s args own index y bytes maxL ret ws rm 1 6 n ∧ (Cond.static y).before args s = true) (hn : As.length = n) (hsize : ls.size = nL) (hst : st0 = As.reverse ++ rest) (hW : (rest.map fun v => v.category).sum ≤ 8) (hdg : decode cc pc = .ok (.invokestatic index, 3)) (hf : 1 ≤ R.cells ∧ 6 ≤ R.slots) (kx : ∀ (E : String) (u : XS), f = .inl (E, u) → f0 = .inl (E, u)) (kk : ∀ (r : Option Nat) (u : XS) (H1 : Heap) (locs1 : List Loc), f = .inr (r, u) → xH dC dI kc ad u A s.heap H1 locs1 → W p l e R s m args below meth c H1 locs1 0 0 (xq_MQ below Qc0 (xE f0 dC dI kc ad A) args s 0 0 1 6 A) (F0 m (pc + 3) ls (va_rf (r.map ad) :: rest))) : W p l e R s m args below meth c H locs 0 0 (xq_MQ below Qc0 (xE f0 dC dI kc ad A) args s 0 0 1 6 A) (F0 m pc ls st0) := by
  obtain ⟨hx, hb, hts, hown, hK, hz⟩ := X
  obtain ⟨hP, hD, hS⟩ := G
  have hFc : ∀ q, xA kc ad σ H.size q → A q := fun q h => h.elim (fun ⟨k, e9, hk⟩ => hD.2 k (q, e9) hk) (fun h => hA q (Nat.le_trans hS.1 h))
  refine xq_callq (mc := 0) (ms := 0) (mx := 1) (sx := 6) (xq_runS (As := As) (rest := rest) ⟨hx, hb, hml, hown, hts⟩ hM cw ⟨fun a U g mk q => by obtain ⟨q0, q1, qP, qK, qD, qz⟩ := q; exact ⟨q0, q1, qP, va_K.moved (u := U) (U := U.calling g mk a) (Vm.Alike.refl U.vm) qK, qD, qz.blind⟩, fun U hU hW => ⟨rfl, by rw [hU], by rw [hU]; exact hP, va_K.moved hW.alike hK, hD.weaken (fun _ _ _ _ => trivial), zX.at hz hS hU hW hFc⟩⟩ rfl hn hsize hst (lv_room hW) hdg ⟨by rw [Nat.zero_add]; exact hf.1, by rw [Nat.zero_add]; exact hf.2⟩) hS (fun q _ h => hFc q h) hFc (fun q _ h => hFc q h) (fun E ce q9 u t H1 locs1 ht hvm hpx hw hz1 hk1 hS hce hcv hcl => ?_) (fun r u t H1 locs ht hvm hw hB hz1 hk1 hS => ?_)
  · obtain ⟨hw, hP1, hK1, hD1⟩ := hw
    rw [ht] at hP1
    exact xq_thrW (vx_out (fun x hx => (hEx x hx).elim) hlocks hce hcv hcl (fun t ht ha => ⟨u, trivial, ⟨kx E u hw, by rw [ht]; exact hP1, va_K.moved ha hK, hD1.weaken (fun _ q9 _ h => hFc q9.1 h)⟩, hS.F ht⟩) hS.2.2 (by omega) (by omega))
  · obtain ⟨hP1, hK1, hD1⟩ := hB
    rw [ht] at hP1
    obtain ⟨r, rfl, hw⟩ := hw
    exact kk r u H1 locs hw ⟨hP1, hD1.weaken (fun _ q9 _ h => hFc q9.1 h), hS⟩
theorem y_callDi {f : String ⊕ Int32} {α0 : Type} {f0 : (String × XS) ⊕ α0} {Qc0 : Array Value → State → Outcome → State → Prop} {y : MethodName} {bytes : ByteArray} {maxL nL n : Nat} {ret : Option FieldType} {ws : List Cond} {rm : Room} {As : List Value} (X : xX p s m args c cc Ts dC dI kc own A) (hml : c.maxLocals = nL) (G : xH dC dI kc ad σ A s.heap H locs) (hA : ∀ q : Nat, s.heap.size ≤ q → A q) (hEx : ∀ x ∈ c.exceptionTable.toList, False) (hlocks : meth.locks = false) (hM : xq_Met l y ws rm (va_Pc As (dPre H.size)) (va_Qi (fun r (_ : Unit) => f = .inr r) (fun _ _ => True) (fun _ => False)) (dX f H.size) 0 0 1 6 (fun q => H.size ≤ q)) (cw : CallB R s args own index y bytes maxL ret ws rm 1 6 n ∧ (Cond.static y).before args s = true) (hn : As.length = n) (hsize : ls.size = nL) (hst : st0 = As.reverse ++ rest) (hW : (rest.map fun v => v.category).sum ≤ 8) (hdg : decode cc pc = .ok (.invokestatic index, 3)) (hf : 1 ≤ R.cells ∧ 6 ≤ R.slots) (kx : ∀ E : String, f = .inl E → f0 = .inl (E, σ)) (kk : ∀ (r : Int32) (H1 : Heap) (locs1 : List Loc), f = .inr r → xH dC dI kc ad σ A s.heap H1 locs1 → W p l e R s m args below meth c H1 locs1 0 0 (xq_MQ below Qc0 (xE f0 dC dI kc ad A) args s 0 0 1 6 A) (F0 m (pc + 3) ls (.int r :: rest))) : W p l e R s m args below meth c H locs 0 0 (xq_MQ below Qc0 (xE f0 dC dI kc ad A) args s 0 0 1 6 A) (F0 m pc ls st0) := by
  obtain ⟨hx, hb, hts, hown, hK, hz⟩ := X
  obtain ⟨hP, hD, hS⟩ := G
  have hFc : ∀ q, H.size ≤ q → A q := fun q h => hA q (Nat.le_trans hS.1 h)
  refine xq_calli (A0 := A) (A1 := fun _ => False) (free := fun q => H.size ≤ q) (AX := fun q => H.size ≤ q) (SX := Unit) (px := fun _ => True) (BX := fun E _ _ => f = .inl E) (S := Unit) (B := fun _ _ => True) (mx := 1) (sx := 6) (mc := 0) (ms := 0) (rest := rest) (xq_runS (As := As) ⟨hx, hb, hml, hown, hts⟩ hM cw ⟨fun a U g mk q => ⟨q.1, q.2.1, q.2.2.blind⟩, fun U hU hW => ⟨rfl, by rw [hU], zX.at hz hS hU hW hFc⟩⟩ rfl hn hsize hst (lv_room hW) hdg ⟨by rw [Nat.zero_add]; exact hf.1, by rw [Nat.zero_add]; exact hf.2⟩) hS (fun q _ h => h.elim) hFc (fun q h1 h2 => absurd h2 (Nat.not_le.mpr h1)) (fun E ce q9 u t H1 locs1 ht hvm hpx hw hz1 hk1 hS hce hcv hcl => ?_) (fun r u t H1 locs1 ht hvm hw hB hz1 hk1 hS => kk r H1 locs1 hw ⟨hP.kept (fun k q hq => hk1 _ (hP k q hq).lt (fun h => h)), hD, hS⟩)
  have hP1 : va_P (dC, dI) vwCl (xW kc ad σ) H1 := hP.kept (fun k q hq => hk1 _ (hP k q hq).lt (Nat.not_le.mpr (hP k q hq).lt))
  exact xq_thrW (vx_out (fun x hx => (hEx x hx).elim) hlocks hce hcv hcl (fun t ht ha => ⟨σ, trivial, ⟨kx E hw, by rw [ht]; exact hP1, va_K.moved ha hK, hD⟩, hS.F ht⟩) hS.2.2 (by omega) (by omega))
theorem y_callDl {f : String ⊕ Int64} {α0 : Type} {f0 : (String × XS) ⊕ α0} {Qc0 : Array Value → State → Outcome → State → Prop} {y : MethodName} {bytes : ByteArray} {maxL nL n : Nat} {ret : Option FieldType} {ws : List Cond} {rm : Room} {As : List Value} (X : xX p s m args c cc Ts dC dI kc own A) (hml : c.maxLocals = nL) (G : xH dC dI kc ad σ A s.heap H locs) (hA : ∀ q : Nat, s.heap.size ≤ q → A q) (hEx : ∀ x ∈ c.exceptionTable.toList, False) (hlocks : meth.locks = false) (hM : xq_Met l y ws rm (va_Pc As (dPre H.size)) (va_Ql (fun r (_ : Unit) => f = .inr r) (fun _ _ => True) (fun _ => False)) (dX f H.size) 0 0 1 6 (fun q => H.size ≤ q)) (cw : CallB R s args own index y bytes maxL ret ws rm 1 6 n ∧ (Cond.static y).before args s = true) (hn : As.length = n) (hsize : ls.size = nL) (hst : st0 = As.reverse ++ rest) (hW : (rest.map fun v => v.category).sum ≤ 8) (hdg : decode cc pc = .ok (.invokestatic index, 3)) (hf : 1 ≤ R.cells ∧ 6 ≤ R.slots) (kx : ∀ E : String, f = .inl E → f0 = .inl (E, σ)) (kk : ∀ (r : Int64) (H1 : Heap) (locs1 : List Loc), f = .inr r → xH dC dI kc ad σ A s.heap H1 locs1 → W p l e R s m args below meth c H1 locs1 0 0 (xq_MQ below Qc0 (xE f0 dC dI kc ad A) args s 0 0 1 6 A) (F0 m (pc + 3) ls (.long r :: rest))) : W p l e R s m args below meth c H locs 0 0 (xq_MQ below Qc0 (xE f0 dC dI kc ad A) args s 0 0 1 6 A) (F0 m pc ls st0) := by
  obtain ⟨hx, hb, hts, hown, hK, hz⟩ := X
  obtain ⟨hP, hD, hS⟩ := G
  have hFc : ∀ q, H.size ≤ q → A q := fun q h => hA q (Nat.le_trans hS.1 h)
  refine xq_calll (A0 := A) (A1 := fun _ => False) (free := fun q => H.size ≤ q) (AX := fun q => H.size ≤ q) (SX := Unit) (px := fun _ => True) (BX := fun E _ _ => f = .inl E) (S := Unit) (B := fun _ _ => True) (mx := 1) (sx := 6) (mc := 0) (ms := 0) (rest := rest) (xq_runS (As := As) ⟨hx, hb, hml, hown, hts⟩ hM cw ⟨fun a U g mk q => ⟨q.1, q.2.1, q.2.2.blind⟩, fun U hU hW => ⟨rfl, by rw [hU], zX.at hz hS hU hW hFc⟩⟩ rfl hn hsize hst (lv_room hW) hdg ⟨by rw [Nat.zero_add]; exact hf.1, by rw [Nat.zero_add]; exact hf.2⟩) hS (fun q _ h => h.elim) hFc (fun q h1 h2 => absurd h2 (Nat.not_le.mpr h1)) (fun E ce q9 u t H1 locs1 ht hvm hpx hw hz1 hk1 hS hce hcv hcl => ?_) (fun r u t H1 locs1 ht hvm hw hB hz1 hk1 hS => kk r H1 locs1 hw ⟨hP.kept (fun k q hq => hk1 _ (hP k q hq).lt (fun h => h)), hD, hS⟩)
  have hP1 : va_P (dC, dI) vwCl (xW kc ad σ) H1 := hP.kept (fun k q hq => hk1 _ (hP k q hq).lt (Nat.not_le.mpr (hP k q hq).lt))
  exact xq_thrW (vx_out (fun x hx => (hEx x hx).elim) hlocks hce hcv hcl (fun t ht ha => ⟨σ, trivial, ⟨kx E hw, by rw [ht]; exact hP1, va_K.moved ha hK, hD⟩, hS.F ht⟩) hS.2.2 (by omega) (by omega))
theorem y_kept (X : xX p s m args c cc Ts dC dI kc own B) (G : xH dC dI kc ad σ A s.heap H locs) {t : State} (ha : s.vm.Alike t.vm) (hsz : H.size ≤ t.heap.size) (hk : ∀ q : Nat, q < H.size → t.heap[q]? = H[q]?) : xAt dC dI kc ad A σ t ∧ va_F A s t :=
  ⟨⟨G.1.kept (fun k q hq => hk _ (G.1 k q hq).lt), va_K.moved ha X.2.2.2.2.1, G.2.1⟩, Nat.le_trans G.2.2.1 hsz, fun q h1 h2 => (hk q (Nat.lt_of_lt_of_le h1 G.2.2.1)).trans (G.2.2.2.1 q h1 h2)⟩
theorem x_ofW {y : MethodName} {ws ws' : List Cond} {rm : Room} {vs : List Value} {Qc : Array Value → State → Outcome → State → Prop} {mc ms maxL sz : Nat} {ret : Option FieldType} (hy : plainName y.cls = true) (hw : ws = Cond.code y cc maxL ret :: ws') (hcls : y.cls = own) (hvs : (lg_sl vs).length ≤ maxL)
    (body : ∀ (p : Program) (e : Env) (s : State) (m : MethodId) (below : List Frame) (meth : Method) (c : Code), xX p s m vs.toArray c cc ws dC dI kc own (xA kc ad σ sz) → xH dC dI kc ad σ (xA kc ad σ sz) s.heap s.heap [] → (∀ q : Nat, s.heap.size ≤ q → xA kc ad σ sz q) → meth.sig.returnType = ret → meth.locks = false → c.maxLocals = maxL → ∀ ls : Array Slot, lv_has ls maxL (lv_args 0 vs) → W p l e rm s m vs.toArray below meth c s.heap [] 0 0 (MQ below Qc vs.toArray s mc ms (xA kc ad σ sz)) (F0 m 0 ls [])) :
    Met l y ws rm (va_Pc vs (xPre dC dI kc ad sz σ)) Qc mc ms (xA kc ad σ sz) := by
  refine Met.ofW (cc := cc) (maxL := maxL) (ret := ret) hy hw ?_
  intro p e s m args below meth c s₁ B hml hv
  obtain ⟨rfl, hsz, hP, hK, hD0, hz⟩ := hv
  subst hsz
  have hown : s.vm.findClass y.cls = some m.cls := findClass_of_methodNamed B.named
  rw [hcls] at hown
  rw [lg_entry_eq]
  exact body p e s m below meth c ⟨B.exec, B.bytes, atoms_spec (ws := ws) B.pre, hown, hK, hz⟩ ⟨hP, hD0.self, va_S.rf⟩ (fun q h => Or.inr h) B.returns B.notSynchronized hml _ (lv_entry vs hvs)
theorem y_ofW {y : MethodName} {ws ws' : List Cond} {rm : Room} {vs : List Value} {Qc : Array Value → State → Outcome → State → Prop} {XC : String → State → State → Prop} {mx sx maxL sz : Nat} {ret : Option FieldType} (hy : plainName y.cls = true) (hw : ws = Cond.code y cc maxL ret :: ws') (hcls : y.cls = own) (hvs : (lg_sl vs).length ≤ maxL)
    (body : ∀ (p : Program) (e : Env) (s : State) (m : MethodId) (below : List Frame) (meth : Method) (c : Code), xX p s m vs.toArray c cc ws dC dI kc own (xA kc ad σ sz) → xH dC dI kc ad σ (xA kc ad σ sz) s.heap s.heap [] → (∀ q : Nat, s.heap.size ≤ q → xA kc ad σ sz q) → meth.sig.returnType = ret → meth.locks = false → c.maxLocals = maxL → (∀ x ∈ c.exceptionTable.toList, False) → ∀ ls : Array Slot, lv_has ls maxL (lv_args 0 vs) → W p l e rm s m vs.toArray below meth c s.heap [] 0 0 (xq_MQ below Qc XC vs.toArray s 0 0 mx sx (xA kc ad σ sz)) (F0 m 0 ls [])) :
    xq_Met l y ws rm (va_Pc vs (xPre dC dI kc ad sz σ)) Qc XC 0 0 mx sx (xA kc ad σ sz) := by
  refine xq_ofW (cc := cc) (maxL := maxL) (ret := ret) hy hw ?_
  intro p e s m args below meth c s₁ B hml hEx hv
  obtain ⟨rfl, hsz, hP, hK, hD0, hz⟩ := hv
  subst hsz
  have hown : s.vm.findClass y.cls = some m.cls := findClass_of_methodNamed B.named
  rw [hcls] at hown
  have hts := atoms_spec (ws := ws) B.pre
  rw [lg_entry_eq]
  exact body p e s m below meth c ⟨B.exec, B.bytes, hts, hown, hK, hz⟩ ⟨hP, hD0.self, va_S.rf⟩ (fun q h => Or.inr h) B.returns B.notSynchronized hml hEx _ (lv_entry vs hvs)
end XB1
