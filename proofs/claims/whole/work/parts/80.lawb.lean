section LawRows
variable {p : Program} {l : Launch} {e : Env} {R : Room} {s : State} {m : MethodId} {args : Array Value} {below : List Frame} {meth : Method} {c : Code} {H : Heap} {locs : List Loc} {cells slots : Nat} {Q : State → Prop} {pc : Nat} {ls : Array Slot} {rest : List Value}
/-- caught by the row x of this method's table; the rows ahead don't take it -/
theorem vx_catch {own name : String} {E : String} {ce : Cell} {q : Addr} (hown : s.vm.findClass own = some m.cls) (pre : List ExceptionTableEntry) (x : ExceptionTableEntry) (suf : List ExceptionTableEntry) (hsplit : c.exceptionTable.toList = pre ++ x :: suf)
    (hpass : ∀ z ∈ pre, covers z pc = false ∨ (z.catchType ≠ 0 ∧ ∃ nm : String, (Cond.classLink own z.catchType nm).before args s = true ∧ va_Nc E nm s)) (hx : covers x pc = true) (h0 : x.catchType ≠ 0)
    (hlink : (Cond.classLink own x.catchType name).before args s = true) (hcast : (Cond.castable E name).before args s = true) (hcell : H[q]? = some ce) (hv : ce.vm = .none) (hcl : s.vm.findClass E = some ce.cls)
    (kk : W p l e R s m args below meth c H locs cells slots Q (F0 m x.handlerPc ls [.ref q])) : vx_W p l e R s m args below meth c H locs cells slots Q (F0 m pc ls rest) q := by
  intro T hT X
  have hpl : e.platform.magicAccessors = ({} : Platform).magicAccessors := by rw [X.admits.platform]
  obtain ⟨c3, c4, hc3, hc4, hasg⟩ := Cond.castable_spec hcast
  cases Option.some.inj (hc3.symm.trans hcl)
  obtain ⟨c5, hc5, hcl5⟩ := Cond.classLink_spec hown hlink e.platform hpl
  cases Option.some.inj (hc4.symm.trans hc5)
  obtain ⟨vm', X', st⟩ := X.thenCaughtThrough q (g := F0 m pc ls rest) rfl (Steps.refl _) (by rw [hT]; exact hcell) (by rw [hv]; rfl) (by obtain ⟨k9, h9, -⟩ := Vm.findClass_spec hcl; exact ⟨k9, h9⟩) pre x suf hsplit
    (fun z hz => by
      rcases hpass z hz with h | ⟨hz0, nm, hl1, hn1⟩
      · exact Or.inl h
      · obtain ⟨c6, hc6, hcl6⟩ := Cond.classLink_spec hown hl1 e.platform hpl
        obtain ⟨a8, b8, h1, h2, h3⟩ := hn1
        cases Option.some.inj (h1.symm.trans hcl)
        cases Option.some.inj (h2.symm.trans hc6)
        exact Or.inr ⟨hz0, _, hcl6, h3⟩) hx (Or.inr ⟨h0, c4, hcl5, hasg⟩)
  obtain ⟨t, a1, b1⟩ := kk (T.setVm vm') hT X'
  exact ⟨t, st.trans a1, b1⟩
end LawRows
/-! worlds side by side -/
def ap (a b : va_W) : Prop := ∀ (i j : Nat) (p q : Nat × va_E), a[i]? = some p → b[j]? = some q → p.1 ≠ q.1
theorem ap.sym {a b : va_W} (h : ap a b) : ap b a := fun i j p q hp hq e => h j i q p hq hp e.symm
theorem ap_out {D : va_G} {cl : List vw_C} {a b : va_W} {H : Heap} (hab : ap a b) (hPb : va_P D cl b H) (k : Nat) (q : Nat × va_E) (hq : b[k]? = some q) : q.1 < H.size ∧ ¬ va_A a H.size q.1 := by
  have hl := (hPb k q hq).lt
  refine ⟨hl, fun h => ?_⟩
  rcases h with ⟨k2, e, h⟩ | h
  · exact hab k2 k (q.1, e) q h hq rfl
  · omega
theorem ap_call {D : va_G} {cl : List vw_C} {a a' b : va_W} {H : Heap} (hab : ap a b) (hPb : va_P D cl b H) (hD1 : va_D (va_A a H.size) a') : ap a' b := fun i j p q hp hq e => (ap_out hab hPb j q hq).2 (by rw [← e]; exact hD1.2 i p hp)
theorem P_call {D : va_G} {cl : List vw_C} {a b : va_W} {H H1 : Heap} (hab : ap a b) (hPb : va_P D cl b H) (hk : ∀ q : Nat, q < H.size → ¬ va_A a H.size q → H1[q]? = H[q]?) : va_P D cl b H1 := fun k q hq => (hPb k q hq).kept (hk q.1 (ap_out hab hPb k q hq).1 (ap_out hab hPb k q hq).2)
theorem dF_of {A : Nat → Prop} {a : va_W} {H0 H : Heap} {locs : List Loc} (hD : va_D A a) (hS : va_S A H0 H locs) (hA : ∀ q, H0.size ≤ q → A q) : ∀ q, va_A a H.size q → A q := fun q h => h.elim (fun ⟨k, e9, hk⟩ => hD.2 k (q, e9) hk) (fun h => hA q (Nat.le_trans hS.1 h))
theorem pL {D : va_G} {cl : List vw_C} {a b : va_W} {H : Heap} (h : va_P D cl (a ++ b) H) : va_P D cl a H := fun k q hk => h k q (by rw [List.getElem?_append_left (List.getElem?_eq_some_iff.mp hk).1]; exact hk)
theorem pR {D : va_G} {cl : List vw_C} {a b : va_W} {H : Heap} (h : va_P D cl (a ++ b) H) : va_P D cl b H := fun k q hk => h (a.length + k) q (by rw [List.getElem?_append_right (by omega), Nat.add_sub_cancel_left]; exact hk)
theorem gL {a b : va_W} {k : Nat} {q : Nat × va_E} (hk : a[k]? = some q) : (a ++ b)[k]? = some q := by rw [List.getElem?_append_left (List.getElem?_eq_some_iff.mp hk).1]; exact hk
theorem gR {a b : va_W} {k : Nat} {q : Nat × va_E} (hk : b[k]? = some q) : (a ++ b)[a.length + k]? = some q := by rw [List.getElem?_append_right (by omega), Nat.add_sub_cancel_left]; exact hk
theorem dL {A : Nat → Prop} {a b : va_W} (h : va_D A (a ++ b)) : va_D A a := ⟨fun i j p q hp hq e => h.1 i j p q (gL hp) (gL hq) e, fun k q hk => h.2 k q (gL hk)⟩
theorem dR {A : Nat → Prop} {a b : va_W} (h : va_D A (a ++ b)) : va_D A b := ⟨fun i j p q hp hq e => by have := h.1 (a.length + i) (a.length + j) p q (gR hp) (gR hq) e; omega, fun k q hk => h.2 (a.length + k) q (gR hk)⟩
theorem dA {A : Nat → Prop} {a b : va_W} (h : va_D A (a ++ b)) : ap a b := fun i j p q hp hq e => by
  have := h.1 i (a.length + j) p q (gL hp) (gR hq) e
  have := (List.getElem?_eq_some_iff.mp hp).1
  omega
theorem dJ {A : Nat → Prop} {a b : va_W} (ha : va_D A a) (hb : va_D A b) (h : ap a b) : va_D A (a ++ b) := va_D.app ha hb h
theorem vA_L {a b : va_W} {sz q : Nat} (h : va_A a sz q) : va_A (a ++ b) sz q := h.elim (fun ⟨k, e, hk⟩ => Or.inl ⟨k, e, gL hk⟩) Or.inr
theorem vA_R {a b : va_W} {sz q : Nat} (h : va_A b sz q) : va_A (a ++ b) sz q := h.elim (fun ⟨k, e, hk⟩ => Or.inl ⟨a.length + k, e, gR hk⟩) Or.inr
/-- the law's array of one long -/
def oW (qo : Nat) (cO : ClassId) (f : Nat → Int64) : va_W := [(qo, .inl (cO, 1, .inr (.inl f)))]
/-- none of the five is another -/
def zC (U : State) : Prop := ∀ E ∈ zE, ∀ E' ∈ zE, E ≠ E' → va_Nc E E' U
theorem zC.moved {u U : State} (hvm : u.vm.Alike U.vm) (h : zC u) : zC U := fun E hE E' hE' hne => (h E hE E' hE' hne).moved hvm
