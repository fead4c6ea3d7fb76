theorem E_put {e : String × XS} {σ : XS} {c : Nat} {b : Int64} {p : Int32} {r : Option Nat} {s : Int32} (h : Xsh_put σ c b p r s = .inl e) : e.1 ∈ zE := by
  unfold Xsh_put at h
  repeat' (first | split at h | (dsimp only at h; split at h))
  all_goals (try dsimp only at h)
  all_goals cases h
  all_goals (first | simp [zE]; done)
theorem E_putNumber {e : String × XS} {σ : XS} {c : Nat} {b : Int64} {p : Int32} (h : Xsh_putNumber σ c b p = .inl e) : e.1 ∈ zE := by
  unfold Xsh_putNumber at h
  repeat' (first | split at h | (dsimp only at h; split at h))
  all_goals (try dsimp only at h)
  all_goals cases h
  all_goals (first | simp [zE]; done | (with_reducible exact E_put (by assumption)))
theorem E_putText {e : String × XS} {σ : XS} {c : Nat} {r : Option Nat} {s n : Int32} (h : Xsh_putText σ c r s n = .inl e) : e.1 ∈ zE := by
  unfold Xsh_putText at h
  repeat' (first | split at h | (dsimp only at h; split at h))
  all_goals (try dsimp only at h)
  all_goals cases h
  all_goals (first | simp [zE]; done | (with_reducible exact E_put (by assumption)))
theorem E_putTopOf {e : String × XS} {σ : XS} {c d : Nat} (h : Xsh_putTopOf σ c d = .inl e) : e.1 ∈ zE := by
  unfold Xsh_putTopOf at h
  repeat' (first | split at h | (dsimp only at h; split at h))
  all_goals (try dsimp only at h)
  all_goals cases h
  all_goals (first | simp [zE]; done | (with_reducible exact E_put (by assumption)))
theorem E_enter {e : String × XS} {σ : XS} {r : Option Nat} {s n : Int32} (h : Xnest_enter σ r s n = .inl e) : e.1 ∈ zE := by
  unfold Xnest_enter at h
  repeat' (first | split at h | (dsimp only at h; split at h))
  all_goals (try dsimp only at h)
  all_goals cases h
  all_goals (first | simp [zE]; done)
theorem E_enterMacro {e : String × XS} {σ : XS} {r : Option Nat} {s n : Int32} (h : Xnest_enterMacro σ r s n = .inl e) : e.1 ∈ zE := by
  unfold Xnest_enterMacro at h
  dsimp only at h
  generalize Xnest_skipBlanks σ = q at h
  split at h
  · split at h
    · cases h; exact E_enter (by assumption)
    · cases h
  · split at h
    · cases h; exact E_enter (by assumption)
    · cases h
theorem E_needItems {e : String × XS} {σ : XS} {n : Int32} (h : Xdesk_needItems σ n = .inl e) : e.1 ∈ zE := by
  unfold Xdesk_needItems at h
  repeat' (first | split at h | (dsimp only at h; split at h))
  all_goals (try dsimp only at h)
  all_goals cases h
  all_goals (first | simp [zE]; done)
theorem E_needHeld {e : String × XS} {σ : XS} {d : Nat} (h : Xdesk_needHeld σ d = .inl e) : e.1 ∈ zE := by
  unfold Xdesk_needHeld at h
  repeat' (first | split at h | (dsimp only at h; split at h))
  all_goals (try dsimp only at h)
  all_goals cases h
  all_goals (first | simp [zE]; done)
theorem E_nnL {n0 : Int32} : ∀ (f : Nat) (k : Int32) (τ : XS) (e : String × XS), Xdesk_needNumbers_L7 n0 f k τ = .inl e → e.1 ∈ zE := by
  intro f
  induction f with
  | zero => intro k τ e h; rw [Xdesk_needNumbers_L7] at h; cases h
  | succ f ih =>
    intro k τ e h
    rw [Xdesk_needNumbers_L7] at h
    repeat' (first | split at h | (dsimp only at h; split at h))
    all_goals first | (exact ih _ _ _ h) | (cases h <;> simp [zE])
theorem E_needNumbers {e : String × XS} {σ : XS} {n : Int32} (h : Xdesk_needNumbers σ n = .inl e) : e.1 ∈ zE := by
  unfold Xdesk_needNumbers at h
  split at h
  · cases h; exact E_needItems (by assumption)
  · exact E_nnL _ _ _ _ h
theorem E_regOf {e : String × XS} {σ : XS} (h : Xdesk_registerOfLetter σ = .inl e) : e.1 ∈ zE := by
  unfold Xdesk_registerOfLetter at h
  repeat' (first | split at h | (dsimp only at h; split at h))
  all_goals (try dsimp only at h)
  all_goals cases h
  all_goals (first | simp [zE]; done)
theorem S_div {e : String} {a b : Int64} (h : D_divide a b = .inl e) : e ∈ zE := by
  unfold D_divide at h
  repeat' (first | split at h | (dsimp only at h; split at h))
  all_goals (try dsimp only at h)
  all_goals cases h
  all_goals (first | simp [zE]; done)
theorem S_pow {e : String} {k : Int32} (h : D_powerOfTen k = .inl e) : e ∈ zE := by
  unfold D_powerOfTen at h
  repeat' (first | split at h | (dsimp only at h; split at h))
  all_goals (try dsimp only at h)
  all_goals cases h
  all_goals (first | simp [zE]; done)
theorem S_times {e : String} {a b : Int64} (h : D_times a b = .inl e) : e ∈ zE := by
  unfold D_times at h
  repeat' (first | split at h | (dsimp only at h; split at h))
  all_goals (try dsimp only at h)
  all_goals cases h
  all_goals (first | simp [zE]; done)
theorem S_raise {e : String} {a : Int64} {k : Int32} (h : D_raise a k = .inl e) : e ∈ zE := by
  unfold D_raise at h
  repeat' (first | split at h | (dsimp only at h; split at h))
  all_goals (try dsimp only at h)
  all_goals cases h
  all_goals (first | simp [zE]; done | (with_reducible exact S_pow (by assumption)) | (with_reducible exact S_times (by assumption)))
theorem S_fitting {e : String} {a : Int64} (h : D_fitting a = .inl e) : e ∈ zE := by
  unfold D_fitting at h
  repeat' (first | split at h | (dsimp only at h; split at h))
  all_goals (try dsimp only at h)
  all_goals cases h
  all_goals (first | simp [zE]; done)
theorem S_sum {e : String} {a b : Int64} {i j : Int32} (h : D_sum a i b j = .inl e) : e ∈ zE := by
  unfold D_sum at h
  repeat' (first | split at h | (dsimp only at h; split at h))
  all_goals (try dsimp only at h)
  all_goals cases h
  all_goals (first | simp [zE]; done | (with_reducible exact S_raise (by assumption)) | (with_reducible exact S_fitting (by assumption)))
theorem S_cut {e : String} {a : Int64} {k : Int32} (h : D_cutOff a k = .inl e) : e ∈ zE := by
  unfold D_cutOff at h
  repeat' (first | split at h | (dsimp only at h; split at h))
  all_goals (try dsimp only at h)
  all_goals cases h
  all_goals (first | simp [zE]; done | (with_reducible exact S_pow (by assumption)) | (with_reducible exact S_div (by assumption)))
theorem S_quo {e : String} {a b : Int64} {i j k : Int32} (h : D_quotient a i b j k = .inl e) : e ∈ zE := by
  unfold D_quotient at h
  repeat' (first | split at h | (dsimp only at h; split at h))
  all_goals (try dsimp only at h)
  all_goals cases h
  all_goals (first | simp [zE]; done | (with_reducible exact S_raise (by assumption)) | (with_reducible exact S_div (by assumption)))
theorem S_rem {e : String} {a b : Int64} {i j k : Int32} (h : D_remainder a i b j k = .inl e) : e ∈ zE := by
  unfold D_remainder at h
  repeat' (first | split at h | (dsimp only at h; split at h))
  all_goals (try dsimp only at h)
  all_goals cases h
  all_goals (first | simp [zE]; done | (with_reducible exact S_quo (by assumption)) | (with_reducible exact S_times (by assumption)) | (with_reducible exact S_raise (by assumption)) | (with_reducible exact S_fitting (by assumption)))
theorem S_as {e : String} {a : Int64} {i : Int32} (h : D_asPlaces a i = .inl e) : e ∈ zE := by
  unfold D_asPlaces at h
  repeat' (first | split at h | (dsimp only at h; split at h))
  all_goals (try dsimp only at h)
  all_goals cases h
  all_goals (first | simp [zE]; done | (with_reducible exact S_cut (by assumption)) | (with_reducible exact S_raise (by assumption)))
theorem S_ord {e : String} {a b : Int64} {i j : Int32} (h : D_order a i b j = .inl e) : e ∈ zE := by
  unfold D_order at h
  repeat' (first | split at h | (dsimp only at h; split at h))
  all_goals (try dsimp only at h)
  all_goals cases h
  all_goals (first | simp [zE]; done | (with_reducible exact S_raise (by assumption)))
theorem S_rootL {a0 : Int64} {i0 j0 : Int32} : ∀ (f : Nat) (y l h : Int64) (k : Int32) (e : String), D_root_L38 a0 i0 j0 f y l h k = .inl e → e ∈ zE := by
  intro f
  induction f with
  | zero => intro y l hh k e h; rw [D_root_L38] at h; cases h
  | succ f ih =>
    intro y l hh k e h
    rw [D_root_L38] at h
    repeat' (first | split at h | (dsimp only at h; split at h))
    all_goals first | (exact ih _ _ _ _ _ h) | (cases h)
theorem S_root {e : String} {a : Int64} {i j : Int32} (h : D_root a i j = .inl e) : e ∈ zE := by
  unfold D_root at h
  split at h
  · split at h
    · cases h; exact S_raise (by assumption)
    · exact S_rootL _ _ _ _ _ _ h
  · cases h; simp [zE]
theorem E_move {e : String × XS} {σ : XS} {k : Int32} (h : Xdesk_moveToOrFromRegister σ k = .inl e) : e.1 ∈ zE := by
  unfold Xdesk_moveToOrFromRegister at h
  repeat' (first | split at h | (dsimp only at h; split at h))
  all_goals (try dsimp only at h)
  all_goals cases h
  all_goals (first | simp [zE]; done | (with_reducible exact E_putNumber (by assumption)) | (with_reducible exact E_putTopOf (by assumption)) | (with_reducible exact E_needItems (by assumption)) | (with_reducible exact E_needHeld (by assumption)) | (with_reducible exact E_needNumbers (by assumption)) | (with_reducible exact E_regOf (by assumption)) | (with_reducible exact E_enterMacro (by assumption)) | (with_reducible exact S_times (by assumption)) | (with_reducible exact S_cut (by assumption)) | (with_reducible exact S_quo (by assumption)) | (with_reducible exact S_rem (by assumption)) | (with_reducible exact S_sum (by assumption)) | (with_reducible exact S_as (by assumption)) | (with_reducible exact S_root (by assumption)) | (with_reducible exact S_ord (by assumption)))
theorem E_runTop {e : String × XS} {σ : XS} (h : Xdesk_runTop σ = .inl e) : e.1 ∈ zE := by
  unfold Xdesk_runTop at h
  repeat' (first | split at h | (dsimp only at h; split at h))
  all_goals (try dsimp only at h)
  all_goals cases h
  all_goals (first | simp [zE]; done | (with_reducible exact E_putNumber (by assumption)) | (with_reducible exact E_putTopOf (by assumption)) | (with_reducible exact E_needItems (by assumption)) | (with_reducible exact E_needHeld (by assumption)) | (with_reducible exact E_needNumbers (by assumption)) | (with_reducible exact E_regOf (by assumption)) | (with_reducible exact E_enterMacro (by assumption)) | (with_reducible exact S_times (by assumption)) | (with_reducible exact S_cut (by assumption)) | (with_reducible exact S_quo (by assumption)) | (with_reducible exact S_rem (by assumption)) | (with_reducible exact S_sum (by assumption)) | (with_reducible exact S_as (by assumption)) | (with_reducible exact S_root (by assumption)) | (with_reducible exact S_ord (by assumption)))
theorem E_runIf {e : String × XS} {σ : XS} {k : Int32} (h : Xdesk_runIfOrdered σ k = .inl e) : e.1 ∈ zE := by
  unfold Xdesk_runIfOrdered at h
  repeat' (first | split at h | (dsimp only at h; split at h))
  all_goals (try dsimp only at h)
  all_goals cases h
  all_goals (first | simp [zE]; done | (with_reducible exact E_putNumber (by assumption)) | (with_reducible exact E_putTopOf (by assumption)) | (with_reducible exact E_needItems (by assumption)) | (with_reducible exact E_needHeld (by assumption)) | (with_reducible exact E_needNumbers (by assumption)) | (with_reducible exact E_regOf (by assumption)) | (with_reducible exact E_enterMacro (by assumption)) | (with_reducible exact S_times (by assumption)) | (with_reducible exact S_cut (by assumption)) | (with_reducible exact S_quo (by assumption)) | (with_reducible exact S_rem (by assumption)) | (with_reducible exact S_sum (by assumption)) | (with_reducible exact S_as (by assumption)) | (with_reducible exact S_root (by assumption)) | (with_reducible exact S_ord (by assumption)))
theorem E_calc {e : String × XS} {σ : XS} {k : Int32} (h : Xdesk_calculate σ k = .inl e) : e.1 ∈ zE := by
  unfold Xdesk_calculate at h
  repeat' (first | split at h | (dsimp only at h; split at h))
  all_goals (try dsimp only at h)
  all_goals cases h
  all_goals (first | simp [zE]; done | (with_reducible exact E_putNumber (by assumption)) | (with_reducible exact E_putTopOf (by assumption)) | (with_reducible exact E_needItems (by assumption)) | (with_reducible exact E_needHeld (by assumption)) | (with_reducible exact E_needNumbers (by assumption)) | (with_reducible exact E_regOf (by assumption)) | (with_reducible exact E_enterMacro (by assumption)) | (with_reducible exact S_times (by assumption)) | (with_reducible exact S_cut (by assumption)) | (with_reducible exact S_quo (by assumption)) | (with_reducible exact S_rem (by assumption)) | (with_reducible exact S_sum (by assumption)) | (with_reducible exact S_as (by assumption)) | (with_reducible exact S_root (by assumption)) | (with_reducible exact S_ord (by assumption)))
theorem E_change {e : String × XS} {σ : XS} {k : Int32} (h : Xdesk_changeNumber σ k = .inl e) : e.1 ∈ zE := by
  unfold Xdesk_changeNumber at h
  repeat' (first | split at h | (dsimp only at h; split at h))
  all_goals (try dsimp only at h)
  all_goals cases h
  all_goals (first | simp [zE]; done | (with_reducible exact E_putNumber (by assumption)) | (with_reducible exact E_putTopOf (by assumption)) | (with_reducible exact E_needItems (by assumption)) | (with_reducible exact E_needHeld (by assumption)) | (with_reducible exact E_needNumbers (by assumption)) | (with_reducible exact E_regOf (by assumption)) | (with_reducible exact E_enterMacro (by assumption)) | (with_reducible exact S_times (by assumption)) | (with_reducible exact S_cut (by assumption)) | (with_reducible exact S_quo (by assumption)) | (with_reducible exact S_rem (by assumption)) | (with_reducible exact S_sum (by assumption)) | (with_reducible exact S_as (by assumption)) | (with_reducible exact S_root (by assumption)) | (with_reducible exact S_ord (by assumption)))
theorem E_arr {e : String × XS} {σ : XS} {k : Int32} (h : Xdesk_arrangeStack σ k = .inl e) : e.1 ∈ zE := by
  unfold Xdesk_arrangeStack at h
  repeat' (first | split at h | (dsimp only at h; split at h))
  all_goals (try dsimp only at h)
  all_goals cases h
  all_goals (first | simp [zE]; done | (with_reducible exact E_putNumber (by assumption)) | (with_reducible exact E_putTopOf (by assumption)) | (with_reducible exact E_needItems (by assumption)) | (with_reducible exact E_needHeld (by assumption)) | (with_reducible exact E_needNumbers (by assumption)) | (with_reducible exact E_regOf (by assumption)) | (with_reducible exact E_enterMacro (by assumption)) | (with_reducible exact S_times (by assumption)) | (with_reducible exact S_cut (by assumption)) | (with_reducible exact S_quo (by assumption)) | (with_reducible exact S_rem (by assumption)) | (with_reducible exact S_sum (by assumption)) | (with_reducible exact S_as (by assumption)) | (with_reducible exact S_root (by assumption)) | (with_reducible exact S_ord (by assumption)))
theorem E_pwnL : ∀ (f : Nat) (g : Int32) (b : Int64) (d p q i : Int32) (τ : XS) (e : String × XS), Xdesk_putWrittenNumber_L43 f g b d p q i τ = .inl e → e.1 ∈ zE := by
  intro f
  induction f with
  | zero => intro g b d p q i τ e h; rw [Xdesk_putWrittenNumber_L43] at h; cases h
  | succ f ih =>
    intro g b d p q i τ e h
    rw [Xdesk_putWrittenNumber_L43] at h
    repeat' (first | split at h | (dsimp only at h; split at h))
    all_goals first | (exact ih _ _ _ _ _ _ _ _ h) | (cases h <;> first | (simp [zE]; done) | (with_reducible exact E_putNumber (by assumption)))
theorem E_pwn {e : String × XS} {σ : XS} (h : Xdesk_putWrittenNumber σ = .inl e) : e.1 ∈ zE := by
  unfold Xdesk_putWrittenNumber at h
  split at h <;> exact E_pwnL _ _ _ _ _ _ _ _ _ h
theorem E_pwtL : ∀ (f : Nat) (r : Option Nat) (s o i : Int32) (τ : XS) (e : String × XS), Xdesk_putWrittenText_L21 f r s o i τ = .inl e → e.1 ∈ zE := by
  intro f
  induction f with
  | zero => intro r s o i τ e h; rw [Xdesk_putWrittenText_L21] at h; cases h
  | succ f ih =>
    intro r s o i τ e h
    unfold Xdesk_putWrittenText_L21 at h
    repeat' (first | split at h | (dsimp only at h; split at h))
    all_goals first | (exact ih _ _ _ _ _ _ h) | (cases h <;> first | (simp [zE]; done) | (with_reducible exact E_putText (by assumption)))
theorem E_pwt {e : String × XS} {σ : XS} (h : Xdesk_putWrittenText σ = .inl e) : e.1 ∈ zE := by
  unfold Xdesk_putWrittenText at h
  exact E_pwtL _ _ _ _ _ _ _ h
theorem E_doCommand {e : String × XS} {σ : XS} (h : Xdesk_doCommand σ = .inl e) : e.1 ∈ zE := by
  by_cases hb : Xd_beginsNumber (Xnest_look σ) = 0
  · have key : Xnest_look σ ∈ ([37, 42, 43, 45, 47, 60, 61, 62, 76, 83, 88, 91, 107, 108, 113, 115, 118, 120, 126] : List Int32) ∨ ¬ Xnest_look σ ∈ ([37, 42, 43, 45, 47, 60, 61, 62, 76, 83, 88, 91, 107, 108, 113, 115, 118, 120, 126] : List Int32) := Classical.em _
    rcases key with hk | hk
    · simp only [List.mem_cons, List.not_mem_nil, or_false] at hk
      rcases hk with c | c | c | c | c | c | c | c | c | c | c | c | c | c | c | c | c | c | c
      · rw [do_37 c] at h; exact E_calc h
      · rw [do_42 c] at h; exact E_calc h
      · rw [do_43 c] at h; exact E_calc h
      · rw [do_45 c] at h; exact E_calc h
      · rw [do_47 c] at h; exact E_calc h
      · rw [do_60 c] at h; exact E_runIf h
      · rw [do_61 c] at h; exact E_runIf h
      · rw [do_62 c] at h; exact E_runIf h
      · rw [do_76 c] at h; exact E_move h
      · rw [do_83 c] at h; exact E_move h
      · rw [do_88 c] at h; exact E_change h
      · rw [do_91 c] at h; exact E_pwt h
      · rw [do_107 c] at h; exact E_change h
      · rw [do_108 c] at h; exact E_move h
      · rw [do_113 c] at h; cases h
      · rw [do_115 c] at h; exact E_move h
      · rw [do_118 c] at h; exact E_change h
      · rw [do_120 c] at h; exact E_runTop h
      · rw [do_126 c] at h; exact E_change h
    · rw [do_arr hb (fun k hk' e' => hk (e' ▸ hk'))] at h
      exact E_arr h
  · rw [do_num hb] at h; exact E_pwn h
theorem E_runL {n : Int32} : ∀ (f : Nat) (i : Int32) (τ : XS) (e : String × XS), 0 ≤ i.toInt → i.toInt ≤ 1000000 → 1000001 ≤ i.toInt + f → Xdesk_run_L61 n f i τ = .inl e → e.1 ∈ zE := by
  intro f
  induction f with
  | zero => intro i τ e h0 h1 h2; omega
  | succ f ih =>
    intro i τ e h0 h1 h2 h
    have z2 : (1000000 : Int32).toInt = 1000000 := by decide
    rw [Xdesk_run_L61] at h
    unfold Xdesk_run_S61 at h
    dsimp only at h
    by_cases c1 : 1000000 ≤ i
    · rw [if_pos c1] at h; cases h
    · rw [if_neg c1] at h
      rw [Int32.le_iff_toInt_le] at c1
      have ei : (i + 1).toInt = i.toInt + 1 := i_addE rfl (show (1 : Int32).toInt = 1 from rfl) (by omega) (by omega)
      split at h
      · cases h
      · split at h
        · exact ih _ _ _ (by omega) (by omega) (by omega) h
        · split at h
          · split at h
            · cases h; exact E_doCommand (by assumption)
            · exact ih _ _ _ (by omega) (by omega) (by omega) h
          · cases h; simp [zE]
/-- what run throws is one of the five -/
theorem E_run {e : String × XS} {σ : XS} {n : Int32} (h : Xdesk_run σ n = .inl e) : e.1 ∈ zE := by
  unfold Xdesk_run at h
  dsimp only at h
  split at h
  · cases h; simp [zE]
  · split at h
    · split at h
      · cases h; exact E_enter (by assumption)
      · exact E_runL _ _ _ _ (by decide) (by decide) (by decide) h
    · cases h; simp [zE]
