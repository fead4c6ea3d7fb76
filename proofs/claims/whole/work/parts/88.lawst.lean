/-! what the start gives -/
theorem st_C {args : Array Value} {s : State} (hs : ∀ c ∈ flatC (Jvm.Cond.and given_1 narrow_1), c.before args s = true) : zC s := by
  intro E hE E' hE' hne
  simp only [zE, List.mem_cons, List.not_mem_nil, or_false] at hE hE'
  rcases hE with rfl | rfl | rfl | rfl | rfl
  · rcases hE' with rfl | rfl | rfl | rfl | rfl
    · exact absurd rfl hne
    · exact va_Nc.of (hs (.not (.castable "java/lang/IllegalArgumentException" "java/lang/IllegalStateException")) (by decide +kernel))
    · exact va_Nc.of (hs (.not (.castable "java/lang/IllegalArgumentException" "java/lang/IndexOutOfBoundsException")) (by decide +kernel))
    · exact va_Nc.of (hs (.not (.castable "java/lang/IllegalArgumentException" "java/lang/ArithmeticException")) (by decide +kernel))
    · exact va_Nc.of (hs (.not (.castable "java/lang/IllegalArgumentException" "java/lang/UnsupportedOperationException")) (by decide +kernel))
  · rcases hE' with rfl | rfl | rfl | rfl | rfl
    · exact va_Nc.of (hs (.not (.castable "java/lang/IllegalStateException" "java/lang/IllegalArgumentException")) (by decide +kernel))
    · exact absurd rfl hne
    · exact va_Nc.of (hs (.not (.castable "java/lang/IllegalStateException" "java/lang/IndexOutOfBoundsException")) (by decide +kernel))
    · exact va_Nc.of (hs (.not (.castable "java/lang/IllegalStateException" "java/lang/ArithmeticException")) (by decide +kernel))
    · exact va_Nc.of (hs (.not (.castable "java/lang/IllegalStateException" "java/lang/UnsupportedOperationException")) (by decide +kernel))
  · rcases hE' with rfl | rfl | rfl | rfl | rfl
    · exact va_Nc.of (hs (.not (.castable "java/lang/IndexOutOfBoundsException" "java/lang/IllegalArgumentException")) (by decide +kernel))
    · exact va_Nc.of (hs (.not (.castable "java/lang/IndexOutOfBoundsException" "java/lang/IllegalStateException")) (by decide +kernel))
    · exact absurd rfl hne
    · exact va_Nc.of (hs (.not (.castable "java/lang/IndexOutOfBoundsException" "java/lang/ArithmeticException")) (by decide +kernel))
    · exact va_Nc.of (hs (.not (.castable "java/lang/IndexOutOfBoundsException" "java/lang/UnsupportedOperationException")) (by decide +kernel))
  · rcases hE' with rfl | rfl | rfl | rfl | rfl
    · exact va_Nc.of (hs (.not (.castable "java/lang/ArithmeticException" "java/lang/IllegalArgumentException")) (by decide +kernel))
    · exact va_Nc.of (hs (.not (.castable "java/lang/ArithmeticException" "java/lang/IllegalStateException")) (by decide +kernel))
    · exact va_Nc.of (hs (.not (.castable "java/lang/ArithmeticException" "java/lang/IndexOutOfBoundsException")) (by decide +kernel))
    · exact absurd rfl hne
    · exact va_Nc.of (hs (.not (.castable "java/lang/ArithmeticException" "java/lang/UnsupportedOperationException")) (by decide +kernel))
  · rcases hE' with rfl | rfl | rfl | rfl | rfl
    · exact va_Nc.of (hs (.not (.castable "java/lang/UnsupportedOperationException" "java/lang/IllegalArgumentException")) (by decide +kernel))
    · exact va_Nc.of (hs (.not (.castable "java/lang/UnsupportedOperationException" "java/lang/IllegalStateException")) (by decide +kernel))
    · exact va_Nc.of (hs (.not (.castable "java/lang/UnsupportedOperationException" "java/lang/IndexOutOfBoundsException")) (by decide +kernel))
    · exact va_Nc.of (hs (.not (.castable "java/lang/UnsupportedOperationException" "java/lang/ArithmeticException")) (by decide +kernel))
    · exact absurd rfl hne
theorem st_str {args : Array Value} {s : State} {own tx : String} {k : Nat} (h1 : (Cond.stringRef own k tx).before args s = true) (h2 : (Cond.exactly (.string own k) "java/lang/String").before args s = true) : ∃ sa, vk_R own k tx sa s := by
  obtain ⟨a, c, cA, kA, q1, -⟩ := Cond.exactly_spec (args := args) (first := s) (o := none) (s := s) (idx := []) (t := .string own k) (cls := "java/lang/String") h2
  exact ⟨a, vk_R.of h1 q1⟩
theorem st_N {args : Array Value} {s : State} (hts : ∀ w ∈ lw_tbl, w.before args s = true) (hs : ∀ c ∈ flatC (Jvm.Cond.and given_1 narrow_1), c.before args s = true) : zN s := by
  refine ⟨fun E hE => ?_, fun Y hY => ?_, fun q hq => ?_⟩
  · simp only [zE, List.mem_cons, List.not_mem_nil, or_false] at hE
    rcases hE with rfl | rfl | rfl | rfl | rfl
    · exact va_Nw.of rfl (hts (.castable "java/lang/IllegalArgumentException" "java/lang/IllegalArgumentException") (by decide +kernel))
    · exact va_Nw.of rfl (hts (.castable "java/lang/IllegalStateException" "java/lang/IllegalStateException") (by decide +kernel))
    · exact va_Nw.of rfl (hts (.castable "java/lang/IndexOutOfBoundsException" "java/lang/IndexOutOfBoundsException") (by decide +kernel))
    · exact va_Nw.of rfl (hts (.castable "java/lang/ArithmeticException" "java/lang/ArithmeticException") (by decide +kernel))
    · exact va_Nw.of rfl (hts (.castable "java/lang/UnsupportedOperationException" "java/lang/UnsupportedOperationException") (by decide +kernel))
  · simp only [zY, List.mem_cons, List.not_mem_nil, or_false] at hY
    rcases hY with rfl | rfl | rfl
    · exact va_Nw.of rfl (hts (.declares ⟨"java/lang/RuntimeException", "<init>", "(Ljava/lang/String;)V"⟩) (by decide +kernel))
    · exact va_Nw.of rfl (hts (.declares ⟨"java/lang/Exception", "<init>", "(Ljava/lang/String;)V"⟩) (by decide +kernel))
    · exact va_Nw.of rfl (hts (.declares ⟨"java/lang/Throwable", "<init>", "(Ljava/lang/String;)V"⟩) (by decide +kernel))
  · simp only [zStr, List.mem_cons, List.not_mem_nil, or_false] at hq
    rcases hq with rfl | rfl | rfl | rfl | rfl | rfl | rfl | rfl | rfl | rfl | rfl | rfl | rfl | rfl | rfl | rfl | rfl
    · exact st_str (own := "DeskStack") (k := 147) (tx := "a number without a digit or with too many") (hts (.stringRef "DeskStack" 147 "a number without a digit or with too many") (by decide +kernel)) (hs (.exactly (.string "DeskStack" 147) "java/lang/String") (by decide +kernel))
    · exact st_str (own := "DeskStack") (k := 160) (tx := "a text in brackets does not end") (hts (.stringRef "DeskStack" 160 "a text in brackets does not end") (by decide +kernel)) (hs (.exactly (.string "DeskStack" 160) "java/lang/String") (by decide +kernel))
    · exact st_str (own := "DeskStack") (k := 167) (tx := "the stack has too few items") (hts (.stringRef "DeskStack" 167 "the stack has too few items") (by decide +kernel)) (hs (.exactly (.string "DeskStack" 167) "java/lang/String") (by decide +kernel))
    · exact st_str (own := "DeskStack") (k := 179) (tx := "a number is wanted and the item is a text") (hts (.stringRef "DeskStack" 179 "a number is wanted and the item is a text") (by decide +kernel)) (hs (.exactly (.string "DeskStack" 179) "java/lang/String") (by decide +kernel))
    · exact st_str (own := "DeskStack") (k := 236) (tx := "no command begins with this character") (hts (.stringRef "DeskStack" 236 "no command begins with this character") (by decide +kernel)) (hs (.exactly (.string "DeskStack" 236) "java/lang/String") (by decide +kernel))
    · exact st_str (own := "DeskStack") (k := 238) (tx := "a letter a to d is wanted and is not there") (hts (.stringRef "DeskStack" 238 "a letter a to d is wanted and is not there") (by decide +kernel)) (hs (.exactly (.string "DeskStack" 238) "java/lang/String") (by decide +kernel))
    · exact st_str (own := "DeskStack") (k := 240) (tx := "the register has no item") (hts (.stringRef "DeskStack" 240 "the register has no item") (by decide +kernel)) (hs (.exactly (.string "DeskStack" 240) "java/lang/String") (by decide +kernel))
    · exact st_str (own := "DeskStack") (k := 259) (tx := "a text is wanted and the item is a number") (hts (.stringRef "DeskStack" 259 "a text is wanted and the item is a number") (by decide +kernel)) (hs (.exactly (.string "DeskStack" 259) "java/lang/String") (by decide +kernel))
    · exact st_str (own := "DeskStack") (k := 58) (tx := "the fuel is not 0 .. 500") (hts (.stringRef "DeskStack" 58 "the fuel is not 0 .. 500") (by decide +kernel)) (hs (.exactly (.string "DeskStack" 58) "java/lang/String") (by decide +kernel))
    · exact st_str (own := "DeskStack") (k := 89) (tx := "the fuel is used up") (hts (.stringRef "DeskStack" 89 "the fuel is used up") (by decide +kernel)) (hs (.exactly (.string "DeskStack" 89) "java/lang/String") (by decide +kernel))
    · exact st_str (own := "DeskStack$Decimal") (k := 38) (tx := "more than 18 digits") (hts (.stringRef "DeskStack$Decimal" 38 "more than 18 digits") (by decide +kernel)) (hs (.exactly (.string "DeskStack$Decimal" 38) "java/lang/String") (by decide +kernel))
    · exact st_str (own := "DeskStack$Decimal") (k := 45) (tx := "y is 0") (hts (.stringRef "DeskStack$Decimal" 45 "y is 0") (by decide +kernel)) (hs (.exactly (.string "DeskStack$Decimal" 45) "java/lang/String") (by decide +kernel))
    · exact st_str (own := "DeskStack$Decimal") (k := 56) (tx := "more than 9 places") (hts (.stringRef "DeskStack$Decimal" 56 "more than 9 places") (by decide +kernel)) (hs (.exactly (.string "DeskStack$Decimal" 56) "java/lang/String") (by decide +kernel))
    · exact st_str (own := "DeskStack$Decimal") (k := 61) (tx := "y is below 0") (hts (.stringRef "DeskStack$Decimal" 61 "y is below 0") (by decide +kernel)) (hs (.exactly (.string "DeskStack$Decimal" 61) "java/lang/String") (by decide +kernel))
    · exact st_str (own := "DeskStack$Decimal") (k := 72) (tx := "y is no whole number 0 .. 9") (hts (.stringRef "DeskStack$Decimal" 72 "y is no whole number 0 .. 9") (by decide +kernel)) (hs (.exactly (.string "DeskStack$Decimal" 72) "java/lang/String") (by decide +kernel))
    · exact st_str (own := "DeskStack$Nest") (k := 30) (tx := "too many texts under way") (hts (.stringRef "DeskStack$Nest" 30 "too many texts under way") (by decide +kernel)) (hs (.exactly (.string "DeskStack$Nest" 30) "java/lang/String") (by decide +kernel))
    · exact st_str (own := "DeskStack$Shelf") (k := 64) (tx := "too many items") (hts (.stringRef "DeskStack$Shelf" 64 "too many items") (by decide +kernel)) (hs (.exactly (.string "DeskStack$Shelf" 64) "java/lang/String") (by decide +kernel))
theorem st_pw {args : Array Value} {s : State} (hs : ∀ c ∈ flatC (Jvm.Cond.and given_1 narrow_1), c.before args s = true) : ∀ j : Nat, j < 19 → (Term.elem (.static "DeskStack$Decimal" "POWERS" "[J") (.int (Int32.ofNat j))).eval args s none [] s = some (pw j) := by
  intro j hj
  rcases (show j = 0 ∨ j = 1 ∨ j = 2 ∨ j = 3 ∨ j = 4 ∨ j = 5 ∨ j = 6 ∨ j = 7 ∨ j = 8 ∨ j = 9 ∨ j = 10 ∨ j = 11 ∨ j = 12 ∨ j = 13 ∨ j = 14 ∨ j = 15 ∨ j = 16 ∨ j = 17 ∨ j = 18 by omega) with rfl | rfl | rfl | rfl | rfl | rfl | rfl | rfl | rfl | rfl | rfl | rfl | rfl | rfl | rfl | rfl | rfl | rfl | rfl
  · exact va_eqtl (hs (.eq (.elem (.static "DeskStack$Decimal" "POWERS" "[J") (.int 0)) (.long 1)) (by decide +kernel))
  · exact va_eqtl (hs (.eq (.elem (.static "DeskStack$Decimal" "POWERS" "[J") (.int 1)) (.long 10)) (by decide +kernel))
  · exact va_eqtl (hs (.eq (.elem (.static "DeskStack$Decimal" "POWERS" "[J") (.int 2)) (.long 100)) (by decide +kernel))
  · exact va_eqtl (hs (.eq (.elem (.static "DeskStack$Decimal" "POWERS" "[J") (.int 3)) (.long 1000)) (by decide +kernel))
  · exact va_eqtl (hs (.eq (.elem (.static "DeskStack$Decimal" "POWERS" "[J") (.int 4)) (.long 10000)) (by decide +kernel))
  · exact va_eqtl (hs (.eq (.elem (.static "DeskStack$Decimal" "POWERS" "[J") (.int 5)) (.long 100000)) (by decide +kernel))
  · exact va_eqtl (hs (.eq (.elem (.static "DeskStack$Decimal" "POWERS" "[J") (.int 6)) (.long 1000000)) (by decide +kernel))
  · exact va_eqtl (hs (.eq (.elem (.static "DeskStack$Decimal" "POWERS" "[J") (.int 7)) (.long 10000000)) (by decide +kernel))
  · exact va_eqtl (hs (.eq (.elem (.static "DeskStack$Decimal" "POWERS" "[J") (.int 8)) (.long 100000000)) (by decide +kernel))
  · exact va_eqtl (hs (.eq (.elem (.static "DeskStack$Decimal" "POWERS" "[J") (.int 9)) (.long 1000000000)) (by decide +kernel))
  · exact va_eqtl (hs (.eq (.elem (.static "DeskStack$Decimal" "POWERS" "[J") (.int 10)) (.long 10000000000)) (by decide +kernel))
  · exact va_eqtl (hs (.eq (.elem (.static "DeskStack$Decimal" "POWERS" "[J") (.int 11)) (.long 100000000000)) (by decide +kernel))
  · exact va_eqtl (hs (.eq (.elem (.static "DeskStack$Decimal" "POWERS" "[J") (.int 12)) (.long 1000000000000)) (by decide +kernel))
  · exact va_eqtl (hs (.eq (.elem (.static "DeskStack$Decimal" "POWERS" "[J") (.int 13)) (.long 10000000000000)) (by decide +kernel))
  · exact va_eqtl (hs (.eq (.elem (.static "DeskStack$Decimal" "POWERS" "[J") (.int 14)) (.long 100000000000000)) (by decide +kernel))
  · exact va_eqtl (hs (.eq (.elem (.static "DeskStack$Decimal" "POWERS" "[J") (.int 15)) (.long 1000000000000000)) (by decide +kernel))
  · exact va_eqtl (hs (.eq (.elem (.static "DeskStack$Decimal" "POWERS" "[J") (.int 16)) (.long 10000000000000000)) (by decide +kernel))
  · exact va_eqtl (hs (.eq (.elem (.static "DeskStack$Decimal" "POWERS" "[J") (.int 17)) (.long 100000000000000000)) (by decide +kernel))
  · exact va_eqtl (hs (.eq (.elem (.static "DeskStack$Decimal" "POWERS" "[J") (.int 18)) (.long 1000000000000000000)) (by decide +kernel))
theorem st_X {args : Array Value} {s : State} (hts : ∀ w ∈ lw_tbl, w.before args s = true) (hs : ∀ c ∈ flatC (Jvm.Cond.and given_1 narrow_1), c.before args s = true) : zX (fun q : Nat => s.heap.size ≤ q) s := by
  have hA : ∀ a : Nat, a < s.heap.size → ¬ (fun q : Nat => s.heap.size ≤ q) a := fun a h => Nat.not_le.mpr h
  refine ⟨st_N hts hs, ?_, ?_, ?_⟩
  · exact vx_Zqof (hts (.laysStatic "java/lang/Throwable" "UNASSIGNED_STACK" "[Ljava/lang/StackTraceElement;") (by decide +kernel)) (hts (.initialized "java/lang/Throwable") (by decide +kernel)) (hs (.isRef (.static "java/lang/Throwable" "UNASSIGNED_STACK" "[Ljava/lang/StackTraceElement;")) (by decide +kernel)) hA
  · exact vx_Zqof (hts (.laysStatic "java/lang/Throwable" "SUPPRESSED_SENTINEL" "Ljava/util/List;") (by decide +kernel)) (hts (.initialized "java/lang/Throwable") (by decide +kernel)) (hs (.isRef (.static "java/lang/Throwable" "SUPPRESSED_SENTINEL" "Ljava/util/List;")) (by decide +kernel)) hA
  · obtain ⟨t, ht, hT⟩ := va_Tof (ty := .long) (N := 19) (f := pw) (A := (fun q : Nat => s.heap.size ≤ q)) (by decide) (hs (.arrayOf (.static "DeskStack$Decimal" "POWERS" "[J") .long) (by decide +kernel)) (va_eqt (hs (.eq (.length (.static "DeskStack$Decimal" "POWERS" "[J")) (.int 19)) (by decide +kernel))) (st_pw hs) hA
    exact ⟨t, va_Zof (hts (.laysStatic "DeskStack$Decimal" "POWERS" "[J") (by decide +kernel)) (hts (.initialized "DeskStack$Decimal") (by decide +kernel)) ht hA, hT⟩
theorem PS0 : PS X0 M0 := by
  have z0 : (0 : Int32).toInt = 0 := rfl
  refine ⟨⟨fun c i n h => absurd h (by simp [X0]), ⟨by decide, by decide, by decide⟩⟩, fun n hn => ⟨by show 0 ≤ (0 : Int32).toInt; decide, by show (0 : Int32).toInt ≤ 160; decide, fun j hj => ?_⟩, ⟨⟨rfl, by decide, by decide, fun i hi => ?_⟩, fun r h4 => ⟨rfl, by show 0 ≤ (0 : Int32).toInt; decide, by rw [reglen h4]; show (0 : Int32).toInt ≤ 10; decide, fun i hi => ?_⟩, ⟨rfl, by decide, by decide, fun i hi => ?_⟩, rfl, ⟨by decide, by decide⟩⟩, ⟨rfl, fun j hj => ?_⟩, rfl⟩
  · have hj : (j : Int) < (0 : Int32).toInt := hj
    rw [z0] at hj; omega
  · have hi : (i : Int) < (0 : Int32).toInt := hi
    rw [z0] at hi; omega
  · have hi : (i : Int) < (0 : Int32).toInt := hi
    rw [z0] at hi; omega
  · have hi : (i : Int) < (0 : Int32).toInt := hi
    rw [z0] at hi; omega
  · have hj : (j : Int) < (0 : Int32).toInt := hj
    rw [z0] at hj; omega
theorem RI0 : RI M0 := by
  refine ⟨⟨by decide, by decide⟩, ⟨by decide, by decide⟩, fun j hj hp => absurd hp (by show ¬ (0 : Int32) < 0; decide), fun j hj => ⟨by show 0 ≤ (0 : Int32).toInt; decide, by show (0 : Int32).toInt ≤ 10; decide⟩, ⟨by decide, by decide⟩, fun j hj => ⟨by show 0 ≤ (0 : Int32).toInt; decide, by show (0 : Int32).toInt ≤ 160; decide⟩, fun j hj => by show 0 ≤ (0 : Int32).toInt; decide, fun j hj => ⟨by show -1 ≤ (0 : Int32).toInt; decide, by show (0 : Int32).toInt ≤ 9; decide⟩, ⟨by decide, by decide⟩, ⟨by decide, by decide⟩⟩
