section
-- ===== PART A: goes FIRST, ahead of the names: the tables' words, and 'selects' of the private methods out of them =====
/-- a private method of a class that the tables say can be made, by its rows of tables_1 -/
def lw_okq (q : MethodName × Nat) : Prop := (q.1.cls ≠ "java/lang/invoke/MethodHandle" ∧ q.1.cls ≠ "java/lang/invoke/VarHandle") ∧ Cond.instantiable q.1.cls q.2 ∈ tables_1 ∧ Cond.privateMethod q.1 ∈ tables_1 ∧ Cond.instanceMethod q.1 ∈ tables_1
theorem lw_p0 : lw_okq (⟨"DeskStack", "registerNumbered", "(I)LDeskStack$Shelf;"⟩, 7) := ⟨⟨by decide +kernel, by decide +kernel⟩, List.mem_of_getElem? (i := 18) (by decide +kernel), List.mem_of_getElem? (i := 175) (by decide +kernel), List.mem_of_getElem? (i := 176) (by decide +kernel)⟩
theorem lw_p1 : lw_okq (⟨"java/lang/Throwable", "fillInStackTrace", "(I)Ljava/lang/Throwable;"⟩, 6) := ⟨⟨by decide +kernel, by decide +kernel⟩, List.mem_of_getElem? (i := 243) (by decide +kernel), List.mem_of_getElem? (i := 241) (by decide +kernel), List.mem_of_getElem? (i := 242) (by decide +kernel)⟩
theorem lw_p2 : lw_okq (⟨"DeskStack$Nest", "isUnderWay", "()Z"⟩, 4) := ⟨⟨by decide +kernel, by decide +kernel⟩, List.mem_of_getElem? (i := 54) (by decide +kernel), List.mem_of_getElem? (i := 305) (by decide +kernel), List.mem_of_getElem? (i := 306) (by decide +kernel)⟩
theorem lw_p3 : lw_okq (⟨"DeskStack", "doCommand", "()V"⟩, 7) := ⟨⟨by decide +kernel, by decide +kernel⟩, List.mem_of_getElem? (i := 18) (by decide +kernel), List.mem_of_getElem? (i := 328) (by decide +kernel), List.mem_of_getElem? (i := 329) (by decide +kernel)⟩
theorem lw_p4 : lw_okq (⟨"DeskStack", "putWrittenNumber", "()V"⟩, 7) := ⟨⟨by decide +kernel, by decide +kernel⟩, List.mem_of_getElem? (i := 18) (by decide +kernel), List.mem_of_getElem? (i := 338) (by decide +kernel), List.mem_of_getElem? (i := 339) (by decide +kernel)⟩
theorem lw_p5 : lw_okq (⟨"DeskStack$Shelf", "put", "(JILDeskStack$Row;I)V"⟩, 5) := ⟨⟨by decide +kernel, by decide +kernel⟩, List.mem_of_getElem? (i := 26) (by decide +kernel), List.mem_of_getElem? (i := 349) (by decide +kernel), List.mem_of_getElem? (i := 350) (by decide +kernel)⟩
theorem lw_p6 : lw_okq (⟨"DeskStack$Shelf", "set", "(IJILDeskStack$Row;I)V"⟩, 5) := ⟨⟨by decide +kernel, by decide +kernel⟩, List.mem_of_getElem? (i := 26) (by decide +kernel), List.mem_of_getElem? (i := 360) (by decide +kernel), List.mem_of_getElem? (i := 361) (by decide +kernel)⟩
theorem lw_p7 : lw_okq (⟨"DeskStack", "putWrittenText", "()V"⟩, 7) := ⟨⟨by decide +kernel, by decide +kernel⟩, List.mem_of_getElem? (i := 18) (by decide +kernel), List.mem_of_getElem? (i := 364) (by decide +kernel), List.mem_of_getElem? (i := 365) (by decide +kernel)⟩
theorem lw_p8 : lw_okq (⟨"DeskStack", "calculate", "(I)V"⟩, 7) := ⟨⟨by decide +kernel, by decide +kernel⟩, List.mem_of_getElem? (i := 18) (by decide +kernel), List.mem_of_getElem? (i := 381) (by decide +kernel), List.mem_of_getElem? (i := 382) (by decide +kernel)⟩
theorem lw_p9 : lw_okq (⟨"DeskStack", "needNumbers", "(I)V"⟩, 7) := ⟨⟨by decide +kernel, by decide +kernel⟩, List.mem_of_getElem? (i := 18) (by decide +kernel), List.mem_of_getElem? (i := 385) (by decide +kernel), List.mem_of_getElem? (i := 386) (by decide +kernel)⟩
theorem lw_p10 : lw_okq (⟨"DeskStack", "needItems", "(I)V"⟩, 7) := ⟨⟨by decide +kernel, by decide +kernel⟩, List.mem_of_getElem? (i := 18) (by decide +kernel), List.mem_of_getElem? (i := 389) (by decide +kernel), List.mem_of_getElem? (i := 390) (by decide +kernel)⟩
theorem lw_p11 : lw_okq (⟨"DeskStack", "changeNumber", "(I)V"⟩, 7) := ⟨⟨by decide +kernel, by decide +kernel⟩, List.mem_of_getElem? (i := 18) (by decide +kernel), List.mem_of_getElem? (i := 495) (by decide +kernel), List.mem_of_getElem? (i := 496) (by decide +kernel)⟩
theorem lw_p12 : lw_okq (⟨"DeskStack", "moveToOrFromRegister", "(I)V"⟩, 7) := ⟨⟨by decide +kernel, by decide +kernel⟩, List.mem_of_getElem? (i := 18) (by decide +kernel), List.mem_of_getElem? (i := 511) (by decide +kernel), List.mem_of_getElem? (i := 512) (by decide +kernel)⟩
theorem lw_p13 : lw_okq (⟨"DeskStack", "registerOfLetter", "()LDeskStack$Shelf;"⟩, 7) := ⟨⟨by decide +kernel, by decide +kernel⟩, List.mem_of_getElem? (i := 18) (by decide +kernel), List.mem_of_getElem? (i := 515) (by decide +kernel), List.mem_of_getElem? (i := 516) (by decide +kernel)⟩
theorem lw_p14 : lw_okq (⟨"DeskStack", "runIfOrdered", "(I)V"⟩, 7) := ⟨⟨by decide +kernel, by decide +kernel⟩, List.mem_of_getElem? (i := 18) (by decide +kernel), List.mem_of_getElem? (i := 536) (by decide +kernel), List.mem_of_getElem? (i := 537) (by decide +kernel)⟩
theorem lw_p15 : lw_okq (⟨"DeskStack", "runTop", "()V"⟩, 7) := ⟨⟨by decide +kernel, by decide +kernel⟩, List.mem_of_getElem? (i := 18) (by decide +kernel), List.mem_of_getElem? (i := 555) (by decide +kernel), List.mem_of_getElem? (i := 556) (by decide +kernel)⟩
def lw_privs_1 : List (MethodName × Nat) := [(⟨"DeskStack", "registerNumbered", "(I)LDeskStack$Shelf;"⟩, 7), (⟨"java/lang/Throwable", "fillInStackTrace", "(I)Ljava/lang/Throwable;"⟩, 6), (⟨"DeskStack$Nest", "isUnderWay", "()Z"⟩, 4), (⟨"DeskStack", "doCommand", "()V"⟩, 7), (⟨"DeskStack", "putWrittenNumber", "()V"⟩, 7), (⟨"DeskStack$Shelf", "put", "(JILDeskStack$Row;I)V"⟩, 5), (⟨"DeskStack$Shelf", "set", "(IJILDeskStack$Row;I)V"⟩, 5), (⟨"DeskStack", "putWrittenText", "()V"⟩, 7), (⟨"DeskStack", "calculate", "(I)V"⟩, 7), (⟨"DeskStack", "needNumbers", "(I)V"⟩, 7), (⟨"DeskStack", "needItems", "(I)V"⟩, 7), (⟨"DeskStack", "changeNumber", "(I)V"⟩, 7), (⟨"DeskStack", "moveToOrFromRegister", "(I)V"⟩, 7), (⟨"DeskStack", "registerOfLetter", "()LDeskStack$Shelf;"⟩, 7), (⟨"DeskStack", "runIfOrdered", "(I)V"⟩, 7), (⟨"DeskStack", "runTop", "()V"⟩, 7)]
theorem lw_r1 : ∀ q ∈ lw_privs_1, lw_okq q := List.forall_mem_cons.mpr ⟨lw_p0, List.forall_mem_cons.mpr ⟨lw_p1, List.forall_mem_cons.mpr ⟨lw_p2, List.forall_mem_cons.mpr ⟨lw_p3, List.forall_mem_cons.mpr ⟨lw_p4, List.forall_mem_cons.mpr ⟨lw_p5, List.forall_mem_cons.mpr ⟨lw_p6, List.forall_mem_cons.mpr ⟨lw_p7, List.forall_mem_cons.mpr ⟨lw_p8, List.forall_mem_cons.mpr ⟨lw_p9, List.forall_mem_cons.mpr ⟨lw_p10, List.forall_mem_cons.mpr ⟨lw_p11, List.forall_mem_cons.mpr ⟨lw_p12, List.forall_mem_cons.mpr ⟨lw_p13, List.forall_mem_cons.mpr ⟨lw_p14, List.forall_mem_cons.mpr ⟨lw_p15, fun _ h => absurd h List.not_mem_nil⟩⟩⟩⟩⟩⟩⟩⟩⟩⟩⟩⟩⟩⟩⟩⟩
theorem lw_p16 : lw_okq (⟨"DeskStack", "arrangeStack", "(I)V"⟩, 7) := ⟨⟨by decide +kernel, by decide +kernel⟩, List.mem_of_getElem? (i := 18) (by decide +kernel), List.mem_of_getElem? (i := 559) (by decide +kernel), List.mem_of_getElem? (i := 560) (by decide +kernel)⟩
theorem lw_p17 : lw_okq (⟨"DeskStackModel", "isNothing", "(I)Z"⟩, 21) := ⟨⟨by decide +kernel, by decide +kernel⟩, List.mem_of_getElem? (i := 569) (by decide +kernel), List.mem_of_getElem? (i := 660) (by decide +kernel), List.mem_of_getElem? (i := 661) (by decide +kernel)⟩
theorem lw_p18 : lw_okq (⟨"DeskStackModel", "command", "(I)Z"⟩, 21) := ⟨⟨by decide +kernel, by decide +kernel⟩, List.mem_of_getElem? (i := 569) (by decide +kernel), List.mem_of_getElem? (i := 664) (by decide +kernel), List.mem_of_getElem? (i := 665) (by decide +kernel)⟩
theorem lw_p19 : lw_okq (⟨"DeskStackModel", "charAt", "(II)I"⟩, 21) := ⟨⟨by decide +kernel, by decide +kernel⟩, List.mem_of_getElem? (i := 569) (by decide +kernel), List.mem_of_getElem? (i := 668) (by decide +kernel), List.mem_of_getElem? (i := 669) (by decide +kernel)⟩
theorem lw_p20 : lw_okq (⟨"DeskStackModel", "digits", "(I)Z"⟩, 21) := ⟨⟨by decide +kernel, by decide +kernel⟩, List.mem_of_getElem? (i := 569) (by decide +kernel), List.mem_of_getElem? (i := 674) (by decide +kernel), List.mem_of_getElem? (i := 675) (by decide +kernel)⟩
theorem lw_p21 : lw_okq (⟨"DeskStackModel", "fail", "(I)Z"⟩, 21) := ⟨⟨by decide +kernel, by decide +kernel⟩, List.mem_of_getElem? (i := 569) (by decide +kernel), List.mem_of_getElem? (i := 679) (by decide +kernel), List.mem_of_getElem? (i := 680) (by decide +kernel)⟩
theorem lw_p22 : lw_okq (⟨"DeskStackModel", "room", "()Z"⟩, 21) := ⟨⟨by decide +kernel, by decide +kernel⟩, List.mem_of_getElem? (i := 569) (by decide +kernel), List.mem_of_getElem? (i := 683) (by decide +kernel), List.mem_of_getElem? (i := 684) (by decide +kernel)⟩
theorem lw_p23 : lw_okq (⟨"DeskStackModel", "put", "(IJI)V"⟩, 21) := ⟨⟨by decide +kernel, by decide +kernel⟩, List.mem_of_getElem? (i := 569) (by decide +kernel), List.mem_of_getElem? (i := 687) (by decide +kernel), List.mem_of_getElem? (i := 688) (by decide +kernel)⟩
theorem lw_p24 : lw_okq (⟨"DeskStackModel", "brackets", "(I)Z"⟩, 21) := ⟨⟨by decide +kernel, by decide +kernel⟩, List.mem_of_getElem? (i := 569) (by decide +kernel), List.mem_of_getElem? (i := 691) (by decide +kernel), List.mem_of_getElem? (i := 692) (by decide +kernel)⟩
theorem lw_p25 : lw_okq (⟨"DeskStackModel", "stores", "(II)Z"⟩, 21) := ⟨⟨by decide +kernel, by decide +kernel⟩, List.mem_of_getElem? (i := 569) (by decide +kernel), List.mem_of_getElem? (i := 703) (by decide +kernel), List.mem_of_getElem? (i := 704) (by decide +kernel)⟩
theorem lw_p26 : lw_okq (⟨"DeskStackModel", "have", "(I)Z"⟩, 21) := ⟨⟨by decide +kernel, by decide +kernel⟩, List.mem_of_getElem? (i := 569) (by decide +kernel), List.mem_of_getElem? (i := 707) (by decide +kernel), List.mem_of_getElem? (i := 708) (by decide +kernel)⟩
theorem lw_p27 : lw_okq (⟨"DeskStackModel", "topOf", "(I)I"⟩, 21) := ⟨⟨by decide +kernel, by decide +kernel⟩, List.mem_of_getElem? (i := 569) (by decide +kernel), List.mem_of_getElem? (i := 711) (by decide +kernel), List.mem_of_getElem? (i := 712) (by decide +kernel)⟩
theorem lw_p28 : lw_okq (⟨"DeskStackModel", "copy", "(II)V"⟩, 21) := ⟨⟨by decide +kernel, by decide +kernel⟩, List.mem_of_getElem? (i := 569) (by decide +kernel), List.mem_of_getElem? (i := 715) (by decide +kernel), List.mem_of_getElem? (i := 716) (by decide +kernel)⟩
theorem lw_p29 : lw_okq (⟨"DeskStackModel", "tests", "(III)Z"⟩, 21) := ⟨⟨by decide +kernel, by decide +kernel⟩, List.mem_of_getElem? (i := 569) (by decide +kernel), List.mem_of_getElem? (i := 719) (by decide +kernel), List.mem_of_getElem? (i := 720) (by decide +kernel)⟩
theorem lw_p30 : lw_okq (⟨"DeskStackModel", "numbers", "(I)Z"⟩, 21) := ⟨⟨by decide +kernel, by decide +kernel⟩, List.mem_of_getElem? (i := 569) (by decide +kernel), List.mem_of_getElem? (i := 723) (by decide +kernel), List.mem_of_getElem? (i := 724) (by decide +kernel)⟩
theorem lw_p31 : lw_okq (⟨"DeskStackModel", "compared", "()Z"⟩, 21) := ⟨⟨by decide +kernel, by decide +kernel⟩, List.mem_of_getElem? (i := 569) (by decide +kernel), List.mem_of_getElem? (i := 727) (by decide +kernel), List.mem_of_getElem? (i := 728) (by decide +kernel)⟩
def lw_privs_2 : List (MethodName × Nat) := [(⟨"DeskStack", "arrangeStack", "(I)V"⟩, 7), (⟨"DeskStackModel", "isNothing", "(I)Z"⟩, 21), (⟨"DeskStackModel", "command", "(I)Z"⟩, 21), (⟨"DeskStackModel", "charAt", "(II)I"⟩, 21), (⟨"DeskStackModel", "digits", "(I)Z"⟩, 21), (⟨"DeskStackModel", "fail", "(I)Z"⟩, 21), (⟨"DeskStackModel", "room", "()Z"⟩, 21), (⟨"DeskStackModel", "put", "(IJI)V"⟩, 21), (⟨"DeskStackModel", "brackets", "(I)Z"⟩, 21), (⟨"DeskStackModel", "stores", "(II)Z"⟩, 21), (⟨"DeskStackModel", "have", "(I)Z"⟩, 21), (⟨"DeskStackModel", "topOf", "(I)I"⟩, 21), (⟨"DeskStackModel", "copy", "(II)V"⟩, 21), (⟨"DeskStackModel", "tests", "(III)Z"⟩, 21), (⟨"DeskStackModel", "numbers", "(I)Z"⟩, 21), (⟨"DeskStackModel", "compared", "()Z"⟩, 21)]
theorem lw_r2 : ∀ q ∈ lw_privs_2, lw_okq q := List.forall_mem_cons.mpr ⟨lw_p16, List.forall_mem_cons.mpr ⟨lw_p17, List.forall_mem_cons.mpr ⟨lw_p18, List.forall_mem_cons.mpr ⟨lw_p19, List.forall_mem_cons.mpr ⟨lw_p20, List.forall_mem_cons.mpr ⟨lw_p21, List.forall_mem_cons.mpr ⟨lw_p22, List.forall_mem_cons.mpr ⟨lw_p23, List.forall_mem_cons.mpr ⟨lw_p24, List.forall_mem_cons.mpr ⟨lw_p25, List.forall_mem_cons.mpr ⟨lw_p26, List.forall_mem_cons.mpr ⟨lw_p27, List.forall_mem_cons.mpr ⟨lw_p28, List.forall_mem_cons.mpr ⟨lw_p29, List.forall_mem_cons.mpr ⟨lw_p30, List.forall_mem_cons.mpr ⟨lw_p31, fun _ h => absurd h List.not_mem_nil⟩⟩⟩⟩⟩⟩⟩⟩⟩⟩⟩⟩⟩⟩⟩⟩
theorem lw_p32 : lw_okq (⟨"DeskStackModel", "raised", "(JI)J"⟩, 21) := ⟨⟨by decide +kernel, by decide +kernel⟩, List.mem_of_getElem? (i := 569) (by decide +kernel), List.mem_of_getElem? (i := 734) (by decide +kernel), List.mem_of_getElem? (i := 735) (by decide +kernel)⟩
theorem lw_p33 : lw_okq (⟨"DeskStackModel", "mayRun", "(I)Z"⟩, 21) := ⟨⟨by decide +kernel, by decide +kernel⟩, List.mem_of_getElem? (i := 569) (by decide +kernel), List.mem_of_getElem? (i := 741) (by decide +kernel), List.mem_of_getElem? (i := 742) (by decide +kernel)⟩
theorem lw_p34 : lw_okq (⟨"DeskStackModel", "isDone", "(I)Z"⟩, 21) := ⟨⟨by decide +kernel, by decide +kernel⟩, List.mem_of_getElem? (i := 569) (by decide +kernel), List.mem_of_getElem? (i := 745) (by decide +kernel), List.mem_of_getElem? (i := 746) (by decide +kernel)⟩
theorem lw_p35 : lw_okq (⟨"DeskStackModel", "begin", "(II)V"⟩, 21) := ⟨⟨by decide +kernel, by decide +kernel⟩, List.mem_of_getElem? (i := 569) (by decide +kernel), List.mem_of_getElem? (i := 749) (by decide +kernel), List.mem_of_getElem? (i := 750) (by decide +kernel)⟩
theorem lw_p36 : lw_okq (⟨"DeskStackModel", "runs", "(I)Z"⟩, 21) := ⟨⟨by decide +kernel, by decide +kernel⟩, List.mem_of_getElem? (i := 569) (by decide +kernel), List.mem_of_getElem? (i := 753) (by decide +kernel), List.mem_of_getElem? (i := 754) (by decide +kernel)⟩
theorem lw_p37 : lw_okq (⟨"DeskStackModel", "calculates", "(I)Z"⟩, 21) := ⟨⟨by decide +kernel, by decide +kernel⟩, List.mem_of_getElem? (i := 569) (by decide +kernel), List.mem_of_getElem? (i := 757) (by decide +kernel), List.mem_of_getElem? (i := 758) (by decide +kernel)⟩
theorem lw_p38 : lw_okq (⟨"DeskStackModel", "sum", "(Z)Z"⟩, 21) := ⟨⟨by decide +kernel, by decide +kernel⟩, List.mem_of_getElem? (i := 569) (by decide +kernel), List.mem_of_getElem? (i := 761) (by decide +kernel), List.mem_of_getElem? (i := 762) (by decide +kernel)⟩
theorem lw_p39 : lw_okq (⟨"DeskStackModel", "times", "()Z"⟩, 21) := ⟨⟨by decide +kernel, by decide +kernel⟩, List.mem_of_getElem? (i := 569) (by decide +kernel), List.mem_of_getElem? (i := 770) (by decide +kernel), List.mem_of_getElem? (i := 771) (by decide +kernel)⟩
theorem lw_p40 : lw_okq (⟨"DeskStackModel", "product", "(JJ)J"⟩, 21) := ⟨⟨by decide +kernel, by decide +kernel⟩, List.mem_of_getElem? (i := 569) (by decide +kernel), List.mem_of_getElem? (i := 774) (by decide +kernel), List.mem_of_getElem? (i := 775) (by decide +kernel)⟩
theorem lw_p41 : lw_okq (⟨"DeskStackModel", "quotient", "()Z"⟩, 21) := ⟨⟨by decide +kernel, by decide +kernel⟩, List.mem_of_getElem? (i := 569) (by decide +kernel), List.mem_of_getElem? (i := 781) (by decide +kernel), List.mem_of_getElem? (i := 782) (by decide +kernel)⟩
theorem lw_p42 : lw_okq (⟨"DeskStackModel", "rest", "()Z"⟩, 21) := ⟨⟨by decide +kernel, by decide +kernel⟩, List.mem_of_getElem? (i := 569) (by decide +kernel), List.mem_of_getElem? (i := 785) (by decide +kernel), List.mem_of_getElem? (i := 786) (by decide +kernel)⟩
theorem lw_p43 : lw_okq (⟨"DeskStackModel", "root", "()Z"⟩, 21) := ⟨⟨by decide +kernel, by decide +kernel⟩, List.mem_of_getElem? (i := 569) (by decide +kernel), List.mem_of_getElem? (i := 789) (by decide +kernel), List.mem_of_getElem? (i := 790) (by decide +kernel)⟩
theorem lw_p44 : lw_okq (⟨"DeskStackModel", "moves", "(I)Z"⟩, 21) := ⟨⟨by decide +kernel, by decide +kernel⟩, List.mem_of_getElem? (i := 569) (by decide +kernel), List.mem_of_getElem? (i := 796) (by decide +kernel), List.mem_of_getElem? (i := 797) (by decide +kernel)⟩
def lw_privs_3 : List (MethodName × Nat) := [(⟨"DeskStackModel", "raised", "(JI)J"⟩, 21), (⟨"DeskStackModel", "mayRun", "(I)Z"⟩, 21), (⟨"DeskStackModel", "isDone", "(I)Z"⟩, 21), (⟨"DeskStackModel", "begin", "(II)V"⟩, 21), (⟨"DeskStackModel", "runs", "(I)Z"⟩, 21), (⟨"DeskStackModel", "calculates", "(I)Z"⟩, 21), (⟨"DeskStackModel", "sum", "(Z)Z"⟩, 21), (⟨"DeskStackModel", "times", "()Z"⟩, 21), (⟨"DeskStackModel", "product", "(JJ)J"⟩, 21), (⟨"DeskStackModel", "quotient", "()Z"⟩, 21), (⟨"DeskStackModel", "rest", "()Z"⟩, 21), (⟨"DeskStackModel", "root", "()Z"⟩, 21), (⟨"DeskStackModel", "moves", "(I)Z"⟩, 21)]
theorem lw_r3 : ∀ q ∈ lw_privs_3, lw_okq q := List.forall_mem_cons.mpr ⟨lw_p32, List.forall_mem_cons.mpr ⟨lw_p33, List.forall_mem_cons.mpr ⟨lw_p34, List.forall_mem_cons.mpr ⟨lw_p35, List.forall_mem_cons.mpr ⟨lw_p36, List.forall_mem_cons.mpr ⟨lw_p37, List.forall_mem_cons.mpr ⟨lw_p38, List.forall_mem_cons.mpr ⟨lw_p39, List.forall_mem_cons.mpr ⟨lw_p40, List.forall_mem_cons.mpr ⟨lw_p41, List.forall_mem_cons.mpr ⟨lw_p42, List.forall_mem_cons.mpr ⟨lw_p43, List.forall_mem_cons.mpr ⟨lw_p44, fun _ h => absurd h List.not_mem_nil⟩⟩⟩⟩⟩⟩⟩⟩⟩⟩⟩⟩⟩
def lw_privs : List (MethodName × Nat) := lw_privs_1 ++ (lw_privs_2 ++ (lw_privs_3))
def lw_tbl : List Cond := k2_sels lw_privs ++ tables_1
theorem lw_privs_ok : ∀ q ∈ lw_privs, lw_okq q := by
  show ∀ q ∈ lw_privs_1 ++ (lw_privs_2 ++ (lw_privs_3)), lw_okq q
  exact List.forall_mem_append.mpr ⟨lw_r1, List.forall_mem_append.mpr ⟨lw_r2, lw_r3⟩⟩
end
section
/-! ===== BEGIN words of one list among another's, by their places ===== -/
theorem goodIn_r {big : List Cond} (ws : List Cond) (ps : List Nat) (hp : ws = ps.filterMap (fun i => big[i]?)) (h : ws.all goodWord = true) : GoodIn big ws := by
  intro w hw
  have h1 := List.all_eq_true.mp h w hw
  rw [hp] at hw
  obtain ⟨i, -, hi⟩ := List.mem_filterMap.mp hw
  have hm : w ∈ big := by first | exact List.mem_of_getElem? hi | exact List.getElem?_mem hi
  exact ⟨hm, good_of_word h1⟩
theorem goodIn_app {big a b : List Cond} (ha : GoodIn big a) (hb : GoodIn big b) : GoodIn big (a ++ b) := fun w h => (List.mem_append.mp h).elim (ha w) (hb w)
theorem goodIn_ca {big a b : List Cond} {c : Cond} (ha : GoodIn big (c :: a)) (hb : GoodIn big b) : GoodIn big (c :: (a ++ b)) := fun w h => (List.mem_cons.mp h).elim (fun e => ha w (List.mem_cons.mpr (Or.inl e))) (fun h => (List.mem_append.mp h).elim (fun h => ha w (List.mem_cons.mpr (Or.inr h))) (hb w))
theorem goodIn_sub {big ws : List Cond} (hm : ∀ w ∈ ws, w ∈ big) (h : ws.all goodWord = true) : GoodIn big ws := fun w hw => ⟨hm w hw, good_of_word (List.all_eq_true.mp h w hw)⟩
/-! ===== END ===== -/

/-! ===== BEGIN exceptions that leave a method, and their catching by the caller (launches without stack traces) ===== -/
section VXA
/-! The laws vx_back, vx_callV, vx_callS, vx_callSW, vx_throw0, vx_throwS follow proofs of the library, with one case more: JvmDerived/Free/Laws.lean (Back.of_free), Shelf42/LK1.lean (callV, callS), Shelf/KitTraced.lean (throwNew0V, throwNewS). -/

/-- where a method has thrown q: the class by its name, the cell, what was written, the world -/
def vx_T (XC : String → State → State → Prop) (st : State) (q : Addr) (t : State) (mc ms : Nat) (free : Addr → Prop) : Prop :=
  ∃ (E : String) (ce : Cell) (L : List Loc), XC E st t ∧ t.heap[q]? = some ce ∧ ce.vm = .none ∧ st.vm.findClass E = some ce.cls ∧ st.WarmedH t.vm ∧ st.sameButNew ({ t with vm := st.vm } : State) L mc ms ∧ ∀ z ∈ L, free z.base
def vx_Q (Qc : Array Value → State → Outcome → State → Prop) (XC : String → State → State → Prop) (mc ms : Nat) (free : Addr → Prop) : Array Value → State → Outcome → State → Prop := fun a st o t =>
  (Qc a st o t ∧ ∃ L, FrameEnd st o t L mc ms ∧ ∀ q ∈ L, free q.base) ∨ ∃ q, o = .threw q ∧ vx_T XC st q t mc ms free
/-- a callee that returns or throws -/
def vx_Met (l : Launch) (y : MethodName) (ws : List Cond) (rm : Room) (Pc : Array Value → State → Prop) (Qc : Array Value → State → Outcome → State → Prop) (XC : String → State → State → Prop) (mc ms : Nat) (free : Addr → Prop) : Prop :=
  MetFree l y (headSpec ws rm) Pc (fun _ _ _ _ _ => True) (vx_Q Qc XC mc ms free)
def vx_Post (XC : String → State → State → Prop) (mc ms : Nat) (free : Addr → Prop) : Pt → Array Value → Addr → Pt → Prop := fun A a q B =>
  ∃ (g : JFrame) (mk : MethodId) (t : State) (L : List Loc) (E : String) (ce : Cell), B.U.heap = t.heap ∧ B.U.vm = t.vm ∧ XC E (A.U.calling g mk a) t ∧ t.heap[q]? = some ce ∧ ce.vm = .none ∧ A.U.vm.findClass E = some ce.cls ∧ B.locs = A.locs ++ L ∧ (∀ z ∈ L, free z.base) ∧ B.cells = A.cells + mc ∧ B.slots = A.slots + ms
def vx_Back (l : Launch) (R : Room) (p : Program) (e : Env) (below : List Frame) (s : State) (sargs : Array Value) (y : MethodName) (len W9 : Nat)
    (Pre : Pt → Array Value → Prop) (Post : Pt → Array Value → Option Value → Pt → Prop) (PostX : Pt → Array Value → Addr → Pt → Prop) : Prop :=
  ∀ (m : MethodId) (meth : Method) (c : Code) (A : Pt) (g : JFrame) (ig : Instr) (mk : MethodId) (a : Array Value),
    Stand p l e R s m sargs below meth c A.U A.locs A.cells A.slots → g.method = m → g.locals.size = c.maxLocals → decode c.code g.pc = .ok (ig, len) →
    2 * g.monitorRoom + (g.stack.map fun v => v.category).sum ≤ W9 → A.U.methodNamed? y = some mk → Pre A a →
    (∃ (v : Option Value) (B : Pt), Stand p l e R s m sargs below meth c B.U B.locs B.cells B.slots ∧ Post A a v B ∧
      Steps p.tables e below (doInvoke e (A.U.setTop g) [] mk a).1 (B.U.setTop { g with pc := g.pc + len, stack := v.toList ++ g.stack })) ∨
    (∃ (q : Addr) (B : Pt), Stand p l e R s m sargs below meth c B.U B.locs B.cells B.slots ∧ PostX A a q B ∧
      Steps p.tables e below (doInvoke e (A.U.setTop g) [] mk a).1 ((B.U.setTop g).pushFrame (.throwing q)))
section Payer
variable {l : Launch} {R : Room} {p : Program} {e : Env} {below : List Frame} {s : State} {sargs : Array Value} {y : MethodName} {len W9 : Nat}
theorem vx_back {ws : List Cond} {rm : Room} {Pc : Array Value → State → Prop} {Qc : Array Value → State → Outcome → State → Prop} {XC : String → State → State → Prop} {mc ms : Nat} {free : Addr → Prop} {bytes : ByteArray} {maxL : Nat} {ret : Option FieldType}
    (hM : vx_Met l y ws rm Pc Qc XC mc ms free) (hblind : FrameBlind Pc) (hrc : rm.cells = mc) (hrs : rm.slots = ms)
    (hframes : rm.frames + 1 ≤ R.frames) (hlocals : W9 + (maxL + 11) + rm.locals ≤ R.locals)
    (hws : ∀ w ∈ ws, ∀ a' U, s.WarmedH U.vm → w.before a' U = true) (hcode : Cond.code y bytes maxL ret ∈ ws) (hinit : ∀ a' U, s.WarmedH U.vm → (Cond.initialized y.cls).before a' U = true) :
    vx_Back l R p e below s sargs y len W9 (PreOf R mc ms Pc) (PostOf Qc mc ms free) (vx_Post XC mc ms free) := by
  intro m meth c A g ig mk a X hg hsize hdg hW hn hp
  have h1 : (headSpec ws rm).pre.before a A.U = true := atoms_intro fun w hw => hws w hw _ _ X.warmed
  have h2 : (Cond.code y bytes maxL ret).before a A.U = true := hws _ hcode _ _ X.warmed
  have h3 : (Cond.initialized y.cls).before a A.U = true := hinit _ _ X.warmed
  have h4 : A.cells + (headSpec ws rm).room.cells ≤ R.cells := by rw [show (headSpec ws rm).room.cells = mc from hrc]; exact hp.1
  have h5 : A.slots + (headSpec ws rm).room.slots ≤ R.slots := by rw [show (headSpec ws rm).room.slots = ms from hrs]; exact hp.2.1
  have hPc : Pc a (A.U.calling g mk a) := hblind _ _ _ _ hp.2.2
  obtain ⟨U, Ls, c0, s0⟩ := A
  dsimp only [Pt.U, Pt.locs, Pt.cells, Pt.slots] at h1 h2 h3 h4 h5 X hn hPc ⊢
  obtain ⟨methY, cY, hmY, hcY, -, hlY, -, -, -, -⟩ := Cond.code_spec hn h2
  obtain ⟨kY, hkY, -⟩ := className_of_methodNamed hn
  have hinitY : kY.init = .initialized := Cond.initialized_spec (findClass_of_methodNamed hn) hkY h3
  have h : At U g.method c below := by rw [hg]; exact X.here
  have hlocals9 : W9 + (maxL + 11) + (headSpec ws rm).room.locals ≤ R.locals := hlocals
  have happ : (headSpec ws rm).appliesLoose y e.platform (U.calling g mk a) = true :=
    Spec.appliesLoose_calling (g := g) h hdg hn hkY hinitY
      (X.room_calling (g := g) (R' := (headSpec ws rm).room) hsize hmY hcY hframes (by rw [hlY]; omega) h4 h5) h1
  obtain ⟨mid, hmid⟩ := h.above
  have hfr : (U.setTop g).frames = (.java g :: mid) ++ below := by rw [State.frames_setTop' g h.top, hmid]; rfl
  obtain ⟨o, s₂, hsteps, -, hend, hq⟩ := Steps.callFree hM p X.admits X.cas X.clock (acts := []) hfr happ hPc trivial
  have hq' : vx_Q Qc XC mc ms free a (U.calling g mk a) o s₂ := hq
  rw [State.frames_setTop' g h.top] at hend
  obtain ⟨g₀, hg0⟩ := Option.isSome_iff_exists.mp h.top
  obtain ⟨r, hr⟩ := State.topJava?_eq_some.mp hg0
  have hr' : (({ U with heap := s₂.heap, slotsUsed := s₂.slotsUsed } : State).setVm s₂.vm).frames = .java g₀ :: r := hr
  rcases hq' with ⟨hqc, L, hfe, hL⟩ | ⟨q, rfl, E, ce, L, hx, hce, hcv, hcl, hW₂, hsm, hL⟩
  · obtain ⟨⟨v, rfl⟩, hW₂, e2, q2, q3, q4, q5, q6⟩ := id hfe
    have e3 : s₂ = ({ (U.calling g mk a).setFrames s₂.frames with heap := s₂.heap, slotsUsed := s₂.slotsUsed } : State).setVm s₂.vm := by
      have : s₂ = ({ s₂ with vm := (U.calling g mk a).vm } : State).setVm s₂.vm := rfl
      rw [e2] at this
      exact this
    obtain ⟨c₂, i₂, len₂, hc₂, hd₂, hf₂⟩ := hend
    have hW' : U.WarmedH s₂.vm := hW₂
    have hcc : c₂ = c := by
      have h1 : s₂.code? g.method = U.code? g.method := by
        rw [State.code?_eq, State.code?_eq, hW'.alike.method?]
      exact Option.some.inj (hc₂.symm.trans (h1.trans h.code))
    subst hcc
    have hlen : len₂ = len := by rw [hdg] at hd₂; cases hd₂; rfl
    subst hlen
    have hs₂ : s₂ = (({ U with heap := s₂.heap, slotsUsed := s₂.slotsUsed } : State).setVm s₂.vm).setTop { g with pc := g.pc + len₂, stack := v.toList ++ g.stack } := by
      refine e3.trans ?_
      rw [hf₂, State.calling_eq h.top, State.setFrames_setFrames, State.setTop_of_frames _ hr', hr]
      rfl
    have hsame : U.sameButNew ({ U with heap := s₂.heap, slotsUsed := s₂.slotsUsed } : State) L mc ms := by
      refine ⟨?_, q2, q3, q4, q5, q6⟩
      obtain ⟨t, ht, -⟩ := State.frames_cons hr
      show ({ U with heap := s₂.heap, slotsUsed := s₂.slotsUsed } : State) = { U.setFrames U.frames with heap := s₂.heap, slotsUsed := s₂.slotsUsed }
      rw [State.setFrames_self ht]
    subst hg
    refine Or.inl ⟨v, ⟨(({ U with heap := s₂.heap, slotsUsed := s₂.slotsUsed } : State).setVm s₂.vm), Ls ++ L, c0 + mc, s0 + ms⟩,
      ⟨X.admits, X.cas, X.clock, X.frames, X.room, X.hears, X.method, X.code, (X.here.setHeapUsed s₂.heap s₂.slotsUsed).setVm hW'.alike, X.tail, State.WarmedH.trans X.warmed hW', X.limits, X.bytes, X.same.trans (hsame.setVm s.vm)⟩,
      ⟨g, mk, s₂, L, rfl, rfl, hqc, rfl, hL, rfl, rfl⟩, ?_⟩
    show Steps p.tables e below _ ((({ U with heap := s₂.heap, slotsUsed := s₂.slotsUsed } : State).setVm s₂.vm).setTop { g with pc := g.pc + len₂, stack := v.toList ++ g.stack })
    rw [← hs₂]
    exact hsteps
  · obtain ⟨e2, q2, q3, q4, q5, q6⟩ := id hsm
    have e3 : s₂ = ({ (U.calling g mk a).setFrames s₂.frames with heap := s₂.heap, slotsUsed := s₂.slotsUsed } : State).setVm s₂.vm := by
      have : s₂ = ({ s₂ with vm := (U.calling g mk a).vm } : State).setVm s₂.vm := rfl
      rw [e2] at this
      exact this
    have hf₂ : s₂.frames = .throwing q :: .java g :: U.frames.tail := hend
    have hW' : U.WarmedH s₂.vm := hW₂
    have hs₂ : s₂ = ((({ U with heap := s₂.heap, slotsUsed := s₂.slotsUsed } : State).setVm s₂.vm).setTop g).pushFrame (.throwing q) := by
      refine e3.trans ?_
      rw [hf₂, State.calling_eq h.top, State.setFrames_setFrames, State.pushFrame, State.frames_setTop _ hr', State.setTop_of_frames _ hr', State.setFrames_setFrames, hr]
      rfl
    have hsame : U.sameButNew ({ U with heap := s₂.heap, slotsUsed := s₂.slotsUsed } : State) L mc ms := by
      refine ⟨?_, q2, q3, q4, q5, q6⟩
      obtain ⟨t, ht, -⟩ := State.frames_cons hr
      show ({ U with heap := s₂.heap, slotsUsed := s₂.slotsUsed } : State) = { U.setFrames U.frames with heap := s₂.heap, slotsUsed := s₂.slotsUsed }
      rw [State.setFrames_self ht]
    subst hg
    refine Or.inr ⟨q, ⟨(({ U with heap := s₂.heap, slotsUsed := s₂.slotsUsed } : State).setVm s₂.vm), Ls ++ L, c0 + mc, s0 + ms⟩,
      ⟨X.admits, X.cas, X.clock, X.frames, X.room, X.hears, X.method, X.code, (X.here.setHeapUsed s₂.heap s₂.slotsUsed).setVm hW'.alike, X.tail, State.WarmedH.trans X.warmed hW', X.limits, X.bytes, X.same.trans (hsame.setVm s.vm)⟩,
      ⟨g, mk, s₂, L, E, ce, rfl, rfl, hx, hce, hcv, hcl, rfl, hL, rfl, rfl⟩, ?_⟩
    show Steps p.tables e below _ (((({ U with heap := s₂.heap, slotsUsed := s₂.slotsUsed } : State).setVm s₂.vm).setTop g).pushFrame (.throwing q))
    rw [← hs₂]
    exact hsteps
end Payer
section Calls
variable {p : Program} {l : Launch} {e : Env} {R : Room} {s : State} {m : MethodId} {args : Array Value} {below : List Frame} {meth : Method} {c : Code} {T : State} {locs : List Loc} {cells slots : Nat}
theorem vx_callV (X : Stand p l e R s m args below meth c T locs cells slots) (hexec : p.tables.exec = Jvm.exec) {own C : String} {index : Nat} {y : MethodName} {bytes : ByteArray} {maxL : Nat} {ret : Option FieldType}
    (hown : s.vm.findClass own = some m.cls) (hlink : (Cond.methodLink own index y).before args s = true) (hinst : (Cond.instanceMethod y).before args s = true) (hsel : (Cond.selects C y y).before args s = true)
    (hcode : (Cond.code y bytes maxL ret).before args s = true) (hy : y.cls ≠ "java/lang/invoke/MethodHandle" ∧ y.cls ≠ "java/lang/invoke/VarHandle")
    {W9 : Nat} {Pre : Pt → Array Value → Prop} {Post : Pt → Array Value → Option Value → Pt → Prop} {PostX : Pt → Array Value → Addr → Pt → Prop} (hK : vx_Back l R p e below s args y 3 W9 Pre Post PostX)
    {b : Addr} {cellB : Cell} (hcell : T.heap[b]? = some cellB) (hobj : cellB.vm.isStatics = false) (hcls : s.vm.findClass C = some cellB.cls)
    {g : JFrame} (hg : g.method = m) (hsize : g.locals.size = c.maxLocals) {argsL rest : List Value} (hlen : ∀ sig, parseMethodDescriptor y.desc = some sig → argsL.length = sig.parameters.length)
    (hstack : g.stack = argsL.reverse ++ .ref b :: rest) (hW : 2 * g.monitorRoom + (rest.map fun v => v.category).sum ≤ W9) (hdg : decode c.code g.pc = .ok (.invokevirtual index, 3))
    (hpre : ∀ vm₁, s.WarmedH vm₁ → Pre ⟨T.setVm vm₁, locs, cells, slots⟩ (Value.ref b :: argsL).toArray) :
    (∃ (v : Option Value) (vm₁ : Vm) (B : Pt), s.WarmedH vm₁ ∧ Stand p l e R s m args below meth c B.U B.locs B.cells B.slots ∧ Post ⟨T.setVm vm₁, locs, cells, slots⟩ (Value.ref b :: argsL).toArray v B ∧
      ∀ target, Steps p.tables e below (B.U.setTop { g with pc := g.pc + 3, stack := v.toList ++ rest }) target → Steps p.tables e below (T.setTop g) target) ∨
    (∃ (q : Addr) (vm₁ : Vm) (B : Pt), s.WarmedH vm₁ ∧ Stand p l e R s m args below meth c B.U B.locs B.cells B.slots ∧ PostX ⟨T.setVm vm₁, locs, cells, slots⟩ (Value.ref b :: argsL).toArray q B ∧
      Steps p.tables e below (T.setTop g) ((B.U.setTop { g with stack := rest }).pushFrame (.throwing q))) := by
  obtain ⟨mk, methM, hnamed, hmethM, hstM, habM⟩ := Cond.instanceMethod_spec hinst
  obtain ⟨methM', cM, hmethM', -, -, -, -, -, -, hsigM⟩ := Cond.code_spec hnamed hcode
  cases hmethM.symm.trans hmethM'
  obtain ⟨c2, r2, m2, q1, q2, q3, q4, kP, hkP, hkPi⟩ := Cond.selects_spec hsel
  cases hcls.symm.trans q1
  cases (State.methodFound?_of_named hnamed hy).symm.trans q2
  cases hnamed.symm.trans q3
  have hselP : selectMethod e.platform s.vm cellB.cls mk = .method mk := by rw [Launch.admits_selectMethod X.admits]; exact q4
  obtain ⟨vm₁, X₁, hstep₁⟩ := X.invokevirtual hexec hown hlink hnamed hmethM hstM hkP hkPi hy (a := b) (cell := cellB) hcell
    (fun z h => by rw [h] at hobj; cases hobj) hselP hmethM habM hkP hkPi (g := g) hg (argsL := argsL) (rest := rest) (hlen _ hsigM) hstack hdg
  rcases hK m meth c ⟨T.setVm vm₁, locs, cells, slots⟩ { g with stack := rest } (.invokevirtual index) mk (Value.ref b :: argsL).toArray X₁ hg hsize hdg hW (X₁.named hnamed) (hpre vm₁ X₁.warmed) with ⟨v, B, X', hpost, hsteps⟩ | ⟨q, B, X', hpost, hsteps⟩
  · exact Or.inl ⟨v, vm₁, B, X₁.warmed, X', hpost, fun target h => hstep₁ _ fun acts => by rw [doInvoke_state]; exact hsteps.trans h⟩
  · exact Or.inr ⟨q, vm₁, B, X₁.warmed, X', hpost, hstep₁ _ fun acts => by rw [doInvoke_state]; exact hsteps⟩
theorem vx_callS (X : Stand p l e R s m args below meth c T locs cells slots) (hexec : p.tables.exec = Jvm.exec) {own : String} {index : Nat} {y : MethodName} {bytes : ByteArray} {maxL : Nat} {ret : Option FieldType}
    (hown : s.vm.findClass own = some m.cls) (hlink : (Cond.methodLink own index y).before args s = true) (hstat : (Cond.static y).before args s = true) (hinit : (Cond.initialized y.cls).before args s = true)
    (hcode : (Cond.code y bytes maxL ret).before args s = true) (hy : y.cls ≠ "java/lang/invoke/MethodHandle" ∧ y.cls ≠ "java/lang/invoke/VarHandle")
    {W9 : Nat} {Pre : Pt → Array Value → Prop} {Post : Pt → Array Value → Option Value → Pt → Prop} {PostX : Pt → Array Value → Addr → Pt → Prop} (hK : vx_Back l R p e below s args y 3 W9 Pre Post PostX)
    {g : JFrame} (hg : g.method = m) (hsize : g.locals.size = c.maxLocals) {argsL rest : List Value} (hlen : ∀ sig, parseMethodDescriptor y.desc = some sig → argsL.length = sig.parameters.length)
    (hstack : g.stack = argsL.reverse ++ rest) (hW : 2 * g.monitorRoom + (rest.map fun v => v.category).sum ≤ W9) (hdg : decode c.code g.pc = .ok (.invokestatic index, 3))
    (hpre : ∀ vm₁, s.WarmedH vm₁ → Pre ⟨T.setVm vm₁, locs, cells, slots⟩ argsL.toArray) :
    (∃ (v : Option Value) (vm₁ : Vm) (B : Pt), s.WarmedH vm₁ ∧ Stand p l e R s m args below meth c B.U B.locs B.cells B.slots ∧ Post ⟨T.setVm vm₁, locs, cells, slots⟩ argsL.toArray v B ∧
      ∀ target, Steps p.tables e below (B.U.setTop { g with pc := g.pc + 3, stack := v.toList ++ rest }) target → Steps p.tables e below (T.setTop g) target) ∨
    (∃ (q : Addr) (vm₁ : Vm) (B : Pt), s.WarmedH vm₁ ∧ Stand p l e R s m args below meth c B.U B.locs B.cells B.slots ∧ PostX ⟨T.setVm vm₁, locs, cells, slots⟩ argsL.toArray q B ∧
      Steps p.tables e below (T.setTop g) ((B.U.setTop { g with stack := rest }).pushFrame (.throwing q))) := by
  obtain ⟨mk, hnamed⟩ := Cond.code_named hcode
  obtain ⟨methM, cM, hmethM, -, -, -, -, -, -, hsigM⟩ := Cond.code_spec hnamed hcode
  have hstatic : methM.isStatic = true := Cond.static_spec hnamed hmethM hstat
  obtain ⟨kP, hkP, -⟩ := className_of_methodNamed hnamed
  have hinitP : kP.init = .initialized := Cond.initialized_spec (findClass_of_methodNamed hnamed) hkP hinit
  obtain ⟨vm₁, X₁, hstep₁⟩ := X.invokestatic hexec hown hlink hnamed hmethM hstatic hkP hinitP hy (g := g) hg (argsL := argsL) (rest := rest) (hlen _ hsigM) hstack hdg
  rcases hK m meth c ⟨T.setVm vm₁, locs, cells, slots⟩ { g with stack := rest } (.invokestatic index) mk argsL.toArray X₁ hg hsize hdg hW (X₁.named hnamed) (hpre vm₁ X₁.warmed) with ⟨v, B, X', hpost, hsteps⟩ | ⟨q, B, X', hpost, hsteps⟩
  · exact Or.inl ⟨v, vm₁, B, X₁.warmed, X', hpost, fun target h => hstep₁ _ fun acts => by rw [doInvoke_state]; exact hsteps.trans h⟩
  · exact Or.inr ⟨q, vm₁, B, X₁.warmed, X', hpost, hstep₁ _ fun acts => by rw [doInvoke_state]; exact hsteps⟩
end Calls
theorem vx_cls {s : State} {T : State} {vm₁ : Vm} {E : String} {k : ClassId} (hW : s.WarmedH vm₁) (h : (T.setVm vm₁).vm.findClass E = some k) : s.vm.findClass E = some k := by
  have h1 : vm₁.findClass E = some k := h
  rw [hW.alike.findClass] at h1
  exact h1
/-- the method's frame g, with q thrown over it -/
def vx_W (p : Program) (l : Launch) (e : Env) (R : Room) (s : State) (m : MethodId) (args : Array Value) (below : List Frame) (meth : Method) (c : Code) (H : Heap) (locs : List Loc) (cells slots : Nat) (Q : State → Prop) (g : JFrame) (q : Addr) : Prop :=
  ∀ T : State, T.heap = H → Stand p l e R s m args below meth c T locs cells slots → ∃ t, Steps p.tables e below ((T.setTop g).pushFrame (.throwing q)) t ∧ Q t
def vx_Run (p : Program) (l : Launch) (e : Env) (R : Room) (s : State) (m : MethodId) (args : Array Value) (below : List Frame) (meth : Method) (c : Code) (H : Heap) (locs : List Loc) (cells slots mc ms : Nat) (g : JFrame) (rest : List Value) (Qa : State → Outcome → State → Prop) (XC : String → State → State → Prop) (free : Addr → Prop) : Prop :=
  ∀ T : State, T.heap = H → Stand p l e R s m args below meth c T locs cells slots →
    (∃ (v : Option Value) (st₀ t T' : State) (L : List Loc), st₀.heap = H ∧ Stand p l e R s m args below meth c T' (locs ++ L) (cells + mc) (slots + ms) ∧ (∀ q ∈ L, free q.base) ∧ T'.heap = t.heap ∧ T'.vm = t.vm ∧ Qa st₀ (.returned v) t ∧
      Goes p e below T g T' { g with pc := g.pc + 3, stack := v.toList ++ rest }) ∨
    (∃ (q : Addr) (st₀ t T' : State) (L : List Loc) (E : String) (ce : Cell), st₀.heap = H ∧ Stand p l e R s m args below meth c T' (locs ++ L) (cells + mc) (slots + ms) ∧ (∀ z ∈ L, free z.base) ∧ T'.heap = t.heap ∧ T'.vm = t.vm ∧ XC E st₀ t ∧ t.heap[q]? = some ce ∧ ce.vm = .none ∧ s.vm.findClass E = some ce.cls ∧
      Steps p.tables e below (T.setTop g) ((T'.setTop { g with stack := rest }).pushFrame (.throwing q)))
def vx_X {S : Type} (px : S → Prop) (B : String → S → State → Prop) (A : Nat → Prop) : String → State → State → Prop := fun E st t => ∃ u : S, px u ∧ B E u t ∧ va_F A st t
section Runs
variable {p : Program} {l : Launch} {e : Env} {R : Room} {s : State} {m : MethodId} {args : Array Value} {below : List Frame} {meth : Method} {c : Code} {H : Heap} {locs : List Loc} {cells slots : Nat}
variable {y : MethodName} {bytes cc : ByteArray} {maxL nL mc ms n index : Nat} {ret : Option FieldType} {ws : List Cond} {rm : Room} {Pc : Array Value → State → Prop} {Qc : Array Value → State → Outcome → State → Prop} {XC : String → State → State → Prop} {free : Addr → Prop} {Ts : List Cond} {own C : String} {b : Addr} {As rest : List Value} {g : JFrame}
theorem vx_callBack (cb : CallB R s args own index y bytes maxL ret ws rm mc ms n) (hM : vx_Met l y ws rm Pc Qc XC mc ms free) (hbl : FrameBlind Pc) : vx_Back l R p e below s args y 3 8 (PreOf R mc ms Pc) (PostOf Qc mc ms free) (vx_Post XC mc ms free) := by
  obtain ⟨hrc, hrs, hfr, hlo, hws, hcw, -, hini, -⟩ := cb
  exact vx_back (bytes := bytes) (maxL := maxL) (ret := ret) hM hbl hrc hrs hfr hlo hws hcw (fun a' U hW => word_at hW (Or.inl (by first | rfl | simp [Cond.onTables, Cond.keeps, Cond.steady])) hini)
theorem vx_runV (S : CallFix p m c cc nL s args Ts own) (hM : vx_Met l y ws rm Pc Qc XC mc ms free) (cw : CallW R s args own C index y bytes maxL ret ws rm mc ms n) (hp : PreV s H C b Pc As)
    (hg : g.method = m) (hn : As.length = n) (hsize : g.locals.size = nL) (hstack : g.stack = As.reverse ++ .ref b :: rest) (hW : 2 * g.monitorRoom + (rest.map fun v => v.category).sum ≤ 8) (hdg : decode cc g.pc = .ok (.invokevirtual index, 3)) (hf : cells + mc ≤ R.cells ∧ slots + ms ≤ R.slots) :
    vx_Run p l e R s m args below meth c H locs cells slots mc ms g rest (Qc (Value.ref b :: As).toArray) XC free := by
  have hK : vx_Back l R p e below s args y 3 8 (PreOf R mc ms Pc) (PostOf Qc mc ms free) (vx_Post XC mc ms free) := vx_callBack cw.1 hM hp.1
  obtain ⟨⟨-, -, -, -, -, -, hcode, -, hy, hlen, hl⟩, hin, hse⟩ := cw
  obtain ⟨hx, hb, hml, ho, -⟩ := S
  obtain ⟨-, ⟨cellB, hcB, hoB, hclB⟩, hPc⟩ := hp
  intro T hT X
  rcases vx_callV X hx (C := C) (bytes := bytes) (maxL := maxL) (ret := ret) ho hl hin hse hcode hy hK (by rw [hT]; exact hcB) hoB hclB hg (hsize.trans hml.symm) (argsL := As) (rest := rest) (fun sig h => hn.trans (hlen sig h)) hstack hW (by rw [hb]; exact hdg)
    (fun vm₁ hW₁ => ⟨hf.1, hf.2, hPc (T.setVm vm₁) hT hW₁⟩) with ⟨v, vm₁, ⟨U', l2, c2, s2⟩, hW₁, X', ⟨g', mk, t, L, e1, e2, hq, h1, hL, h2, h3⟩, st⟩ | ⟨q, vm₁, ⟨U', l2, c2, s2⟩, hW₁, X', ⟨g', mk, t, L, E, ce, e1, e2, hq, hce, hcv, hcl, h1, hL, h2, h3⟩, st⟩
  · dsimp only [Pt.U, Pt.locs, Pt.cells, Pt.slots] at X' e1 e2 h1 h2 h3 st
    subst h1; subst h2; subst h3
    exact Or.inl ⟨v, (T.setVm vm₁).calling g' mk (Value.ref b :: As).toArray, t, U', L, hT, X', hL, e1, e2, hq, st⟩
  · dsimp only [Pt.U, Pt.locs, Pt.cells, Pt.slots] at X' e1 e2 h1 h2 h3 st hcl
    subst h1; subst h2; subst h3
    exact Or.inr ⟨q, (T.setVm vm₁).calling g' mk (Value.ref b :: As).toArray, t, U', L, E, ce, hT, X', hL, e1, e2, hq, hce, hcv, vx_cls hW₁ hcl, st⟩
theorem vx_runS (S : CallFix p m c cc nL s args Ts own) (hM : vx_Met l y ws rm Pc Qc XC mc ms free) (cw : CallB R s args own index y bytes maxL ret ws rm mc ms n ∧ (Cond.static y).before args s = true) (hp : PreS s H Pc As)
    (hg : g.method = m) (hn : As.length = n) (hsize : g.locals.size = nL) (hstack : g.stack = As.reverse ++ rest) (hW : 2 * g.monitorRoom + (rest.map fun v => v.category).sum ≤ 8) (hdg : decode cc g.pc = .ok (.invokestatic index, 3)) (hf : cells + mc ≤ R.cells ∧ slots + ms ≤ R.slots) :
    vx_Run p l e R s m args below meth c H locs cells slots mc ms g rest (Qc As.toArray) XC free := by
  have hK : vx_Back l R p e below s args y 3 8 (PreOf R mc ms Pc) (PostOf Qc mc ms free) (vx_Post XC mc ms free) := vx_callBack cw.1 hM hp.1
  obtain ⟨⟨-, -, -, -, -, -, hcode, hini, hy, hlen, hl⟩, hstt⟩ := cw
  obtain ⟨hx, hb, hml, ho, -⟩ := S
  intro T hT X
  rcases vx_callS X hx (bytes := bytes) (maxL := maxL) (ret := ret) ho hl hstt hini hcode hy hK hg (hsize.trans hml.symm) (argsL := As) (rest := rest) (fun sig h => hn.trans (hlen sig h)) hstack hW (by rw [hb]; exact hdg)
    (fun vm₁ hW₁ => ⟨hf.1, hf.2, hp.2 (T.setVm vm₁) hT hW₁⟩) with ⟨v, vm₁, ⟨U', l2, c2, s2⟩, hW₁, X', ⟨g', mk, t, L, e1, e2, hq, h1, hL, h2, h3⟩, st⟩ | ⟨q, vm₁, ⟨U', l2, c2, s2⟩, hW₁, X', ⟨g', mk, t, L, E, ce, e1, e2, hq, hce, hcv, hcl, h1, hL, h2, h3⟩, st⟩
  · dsimp only [Pt.U, Pt.locs, Pt.cells, Pt.slots] at X' e1 e2 h1 h2 h3 st
    subst h1; subst h2; subst h3
    exact Or.inl ⟨v, (T.setVm vm₁).calling g' mk As.toArray, t, U', L, hT, X', hL, e1, e2, hq, st⟩
  · dsimp only [Pt.U, Pt.locs, Pt.cells, Pt.slots] at X' e1 e2 h1 h2 h3 st hcl
    subst h1; subst h2; subst h3
    exact Or.inr ⟨q, (T.setVm vm₁).calling g' mk As.toArray, t, U', L, E, ce, hT, X', hL, e1, e2, hq, hce, hcv, vx_cls hW₁ hcl, st⟩
end Runs
section Rows
variable {p : Program} {l : Launch} {e : Env} {R : Room} {s : State} {m : MethodId} {args : Array Value} {below : List Frame} {meth : Method} {c : Code} {H : Heap} {locs : List Loc} {cells slots : Nat} {Q : State → Prop}
variable {mc ms : Nat} {free : Addr → Prop} {A0 A1 : Nat → Prop} {H0 : Heap} {a : Array Value} {pc : Nat} {ls : Array Slot} {st0 rest : List Value}
theorem vx_keep {st₀ t T' : State} {L : List Loc} (h0 : st₀.heap = H) (e1 : T'.heap = t.heap) (hS : va_S A0 H0 H locs) (hA : ∀ q, q < H.size → A1 q → A0 q) (hf : ∀ q, free q → A0 q) (hL : ∀ q ∈ L, free q.base) (hF : va_F A1 st₀ t) :
    H.size ≤ T'.heap.size ∧ (∀ q : Nat, q < H.size → ¬ A1 q → T'.heap[q]? = H[q]?) ∧ va_S A0 H0 T'.heap (locs ++ L) := by
  obtain ⟨hz, hk⟩ := hF
  rw [h0] at hz hk
  exact ⟨by rw [e1]; exact hz, fun q h1 h2 => by rw [e1]; exact hk q h1 h2,
    ⟨Nat.le_trans hS.1 (by rw [e1]; exact hz), fun q h1 h2 => by rw [e1, hk q (Nat.lt_of_lt_of_le h1 hS.1) (fun z => h2 (hA q (Nat.lt_of_lt_of_le h1 hS.1) z))]; exact hS.2.1 q h1 h2, fun q hq => by
      rcases List.mem_append.mp hq with h | h
      · exact hS.2.2 q h
      · exact hf _ (hL q h)⟩⟩
theorem vx_calli {S SX : Type} {post : Int32 → S → Prop} {px : SX → Prop} {B : S → State → Prop} {BX : String → SX → State → Prop} {AX : Nat → Prop} (hr : vx_Run p l e R s m args below meth c H locs cells slots mc ms (F0 m pc ls st0) rest (va_Qi post B A1 a) (vx_X px BX AX) free) (hS : va_S A0 H0 H locs) (hA : ∀ q, q < H.size → A1 q → A0 q) (hf : ∀ q, free q → A0 q) (hAX : ∀ q, q < H.size → AX q → A0 q)
    (kx : ∀ (E : String) (ce : Cell) (q9 : Addr) (u : SX) (t : State) (H1 : Heap) (locs1 : List Loc), t.heap = H1 → s.vm.Alike t.vm → px u → BX E u t → H.size ≤ H1.size → (∀ q : Nat, q < H.size → ¬ AX q → H1[q]? = H[q]?) → va_S A0 H0 H1 locs1 → H1[q9]? = some ce → ce.vm = .none → s.vm.findClass E = some ce.cls → vx_W p l e R s m args below meth c H1 locs1 (cells + mc) (slots + ms) Q (F0 m pc ls rest) q9)
    (kk : ∀ (r : Int32) (u : S) (t : State) (H1 : Heap) (locs1 : List Loc), t.heap = H1 → s.vm.Alike t.vm → post r u → B u t → H.size ≤ H1.size → (∀ q : Nat, q < H.size → ¬ A1 q → H1[q]? = H[q]?) → va_S A0 H0 H1 locs1 → W p l e R s m args below meth c H1 locs1 (cells + mc) (slots + ms) Q (F0 m (pc + 3) ls (.int r :: rest))) : W p l e R s m args below meth c H locs cells slots Q (F0 m pc ls st0) := by
  intro T hT X
  rcases hr T hT X with ⟨v, st₀, t, T', L, h0, X', hL, e1, e2, ⟨⟨r, u, hv, hp, hb⟩, hF⟩, st⟩ | ⟨q, st₀, t, T', L, E, ce, h0, X', hL, e1, e2, ⟨u, hp, hb, hF⟩, hce, hcv, hcl, st⟩
  · cases hv
    obtain ⟨k1, k2, k3⟩ := vx_keep h0 e1 hS hA hf hL hF
    obtain ⟨t2, a1, b1⟩ := kk r u t T'.heap (locs ++ L) e1.symm (by rw [← e2]; exact X'.warmed.alike) hp hb k1 k2 k3 T' rfl X'
    exact ⟨t2, st t2 a1, b1⟩
  · obtain ⟨k1, k2, k3⟩ := vx_keep h0 e1 hS hAX hf hL hF
    obtain ⟨t2, a1, b1⟩ := kx E ce q u t T'.heap (locs ++ L) e1.symm (by rw [← e2]; exact X'.warmed.alike) hp hb k1 k2 k3 (by rw [e1]; exact hce) hcv hcl T' rfl X'
    exact ⟨t2, st.trans a1, b1⟩
theorem vx_calll {S SX : Type} {post : Int64 → S → Prop} {px : SX → Prop} {B : S → State → Prop} {BX : String → SX → State → Prop} {AX : Nat → Prop} (hr : vx_Run p l e R s m args below meth c H locs cells slots mc ms (F0 m pc ls st0) rest (va_Ql post B A1 a) (vx_X px BX AX) free) (hS : va_S A0 H0 H locs) (hA : ∀ q, q < H.size → A1 q → A0 q) (hf : ∀ q, free q → A0 q) (hAX : ∀ q, q < H.size → AX q → A0 q)
    (kx : ∀ (E : String) (ce : Cell) (q9 : Addr) (u : SX) (t : State) (H1 : Heap) (locs1 : List Loc), t.heap = H1 → s.vm.Alike t.vm → px u → BX E u t → H.size ≤ H1.size → (∀ q : Nat, q < H.size → ¬ AX q → H1[q]? = H[q]?) → va_S A0 H0 H1 locs1 → H1[q9]? = some ce → ce.vm = .none → s.vm.findClass E = some ce.cls → vx_W p l e R s m args below meth c H1 locs1 (cells + mc) (slots + ms) Q (F0 m pc ls rest) q9)
    (kk : ∀ (r : Int64) (u : S) (t : State) (H1 : Heap) (locs1 : List Loc), t.heap = H1 → s.vm.Alike t.vm → post r u → B u t → H.size ≤ H1.size → (∀ q : Nat, q < H.size → ¬ A1 q → H1[q]? = H[q]?) → va_S A0 H0 H1 locs1 → W p l e R s m args below meth c H1 locs1 (cells + mc) (slots + ms) Q (F0 m (pc + 3) ls (.long r :: rest))) : W p l e R s m args below meth c H locs cells slots Q (F0 m pc ls st0) := by
  intro T hT X
  rcases hr T hT X with ⟨v, st₀, t, T', L, h0, X', hL, e1, e2, ⟨⟨r, u, hv, hp, hb⟩, hF⟩, st⟩ | ⟨q, st₀, t, T', L, E, ce, h0, X', hL, e1, e2, ⟨u, hp, hb, hF⟩, hce, hcv, hcl, st⟩
  · cases hv
    obtain ⟨k1, k2, k3⟩ := vx_keep h0 e1 hS hA hf hL hF
    obtain ⟨t2, a1, b1⟩ := kk r u t T'.heap (locs ++ L) e1.symm (by rw [← e2]; exact X'.warmed.alike) hp hb k1 k2 k3 T' rfl X'
    exact ⟨t2, st t2 a1, b1⟩
  · obtain ⟨k1, k2, k3⟩ := vx_keep h0 e1 hS hAX hf hL hF
    obtain ⟨t2, a1, b1⟩ := kx E ce q u t T'.heap (locs ++ L) e1.symm (by rw [← e2]; exact X'.warmed.alike) hp hb k1 k2 k3 (by rw [e1]; exact hce) hcv hcl T' rfl X'
    exact ⟨t2, st.trans a1, b1⟩
theorem vx_callf {S SX : Type} {post : UInt32 → S → Prop} {px : SX → Prop} {B : S → State → Prop} {BX : String → SX → State → Prop} {AX : Nat → Prop} (hr : vx_Run p l e R s m args below meth c H locs cells slots mc ms (F0 m pc ls st0) rest (va_Qf post B A1 a) (vx_X px BX AX) free) (hS : va_S A0 H0 H locs) (hA : ∀ q, q < H.size → A1 q → A0 q) (hf : ∀ q, free q → A0 q) (hAX : ∀ q, q < H.size → AX q → A0 q)
    (kx : ∀ (E : String) (ce : Cell) (q9 : Addr) (u : SX) (t : State) (H1 : Heap) (locs1 : List Loc), t.heap = H1 → s.vm.Alike t.vm → px u → BX E u t → H.size ≤ H1.size → (∀ q : Nat, q < H.size → ¬ AX q → H1[q]? = H[q]?) → va_S A0 H0 H1 locs1 → H1[q9]? = some ce → ce.vm = .none → s.vm.findClass E = some ce.cls → vx_W p l e R s m args below meth c H1 locs1 (cells + mc) (slots + ms) Q (F0 m pc ls rest) q9)
    (kk : ∀ (r : UInt32) (u : S) (t : State) (H1 : Heap) (locs1 : List Loc), t.heap = H1 → s.vm.Alike t.vm → post r u → B u t → H.size ≤ H1.size → (∀ q : Nat, q < H.size → ¬ A1 q → H1[q]? = H[q]?) → va_S A0 H0 H1 locs1 → W p l e R s m args below meth c H1 locs1 (cells + mc) (slots + ms) Q (F0 m (pc + 3) ls (.float r :: rest))) : W p l e R s m args below meth c H locs cells slots Q (F0 m pc ls st0) := by
  intro T hT X
  rcases hr T hT X with ⟨v, st₀, t, T', L, h0, X', hL, e1, e2, ⟨⟨r, u, hv, hp, hb⟩, hF⟩, st⟩ | ⟨q, st₀, t, T', L, E, ce, h0, X', hL, e1, e2, ⟨u, hp, hb, hF⟩, hce, hcv, hcl, st⟩
  · cases hv
    obtain ⟨k1, k2, k3⟩ := vx_keep h0 e1 hS hA hf hL hF
    obtain ⟨t2, a1, b1⟩ := kk r u t T'.heap (locs ++ L) e1.symm (by rw [← e2]; exact X'.warmed.alike) hp hb k1 k2 k3 T' rfl X'
    exact ⟨t2, st t2 a1, b1⟩
  · obtain ⟨k1, k2, k3⟩ := vx_keep h0 e1 hS hAX hf hL hF
    obtain ⟨t2, a1, b1⟩ := kx E ce q u t T'.heap (locs ++ L) e1.symm (by rw [← e2]; exact X'.warmed.alike) hp hb k1 k2 k3 (by rw [e1]; exact hce) hcv hcl T' rfl X'
    exact ⟨t2, st.trans a1, b1⟩
theorem vx_calld {S SX : Type} {post : UInt64 → S → Prop} {px : SX → Prop} {B : S → State → Prop} {BX : String → SX → State → Prop} {AX : Nat → Prop} (hr : vx_Run p l e R s m args below meth c H locs cells slots mc ms (F0 m pc ls st0) rest (va_Qd post B A1 a) (vx_X px BX AX) free) (hS : va_S A0 H0 H locs) (hA : ∀ q, q < H.size → A1 q → A0 q) (hf : ∀ q, free q → A0 q) (hAX : ∀ q, q < H.size → AX q → A0 q)
    (kx : ∀ (E : String) (ce : Cell) (q9 : Addr) (u : SX) (t : State) (H1 : Heap) (locs1 : List Loc), t.heap = H1 → s.vm.Alike t.vm → px u → BX E u t → H.size ≤ H1.size → (∀ q : Nat, q < H.size → ¬ AX q → H1[q]? = H[q]?) → va_S A0 H0 H1 locs1 → H1[q9]? = some ce → ce.vm = .none → s.vm.findClass E = some ce.cls → vx_W p l e R s m args below meth c H1 locs1 (cells + mc) (slots + ms) Q (F0 m pc ls rest) q9)
    (kk : ∀ (r : UInt64) (u : S) (t : State) (H1 : Heap) (locs1 : List Loc), t.heap = H1 → s.vm.Alike t.vm → post r u → B u t → H.size ≤ H1.size → (∀ q : Nat, q < H.size → ¬ A1 q → H1[q]? = H[q]?) → va_S A0 H0 H1 locs1 → W p l e R s m args below meth c H1 locs1 (cells + mc) (slots + ms) Q (F0 m (pc + 3) ls (.double r :: rest))) : W p l e R s m args below meth c H locs cells slots Q (F0 m pc ls st0) := by
  intro T hT X
  rcases hr T hT X with ⟨v, st₀, t, T', L, h0, X', hL, e1, e2, ⟨⟨r, u, hv, hp, hb⟩, hF⟩, st⟩ | ⟨q, st₀, t, T', L, E, ce, h0, X', hL, e1, e2, ⟨u, hp, hb, hF⟩, hce, hcv, hcl, st⟩
  · cases hv
    obtain ⟨k1, k2, k3⟩ := vx_keep h0 e1 hS hA hf hL hF
    obtain ⟨t2, a1, b1⟩ := kk r u t T'.heap (locs ++ L) e1.symm (by rw [← e2]; exact X'.warmed.alike) hp hb k1 k2 k3 T' rfl X'
    exact ⟨t2, st t2 a1, b1⟩
  · obtain ⟨k1, k2, k3⟩ := vx_keep h0 e1 hS hAX hf hL hF
    obtain ⟨t2, a1, b1⟩ := kx E ce q u t T'.heap (locs ++ L) e1.symm (by rw [← e2]; exact X'.warmed.alike) hp hb k1 k2 k3 (by rw [e1]; exact hce) hcv hcl T' rfl X'
    exact ⟨t2, st.trans a1, b1⟩
theorem vx_callv {S SX : Type} {post : S → Prop} {px : SX → Prop} {B : S → State → Prop} {BX : String → SX → State → Prop} {AX : Nat → Prop} (hr : vx_Run p l e R s m args below meth c H locs cells slots mc ms (F0 m pc ls st0) rest (va_Qv post B A1 a) (vx_X px BX AX) free) (hS : va_S A0 H0 H locs) (hA : ∀ q, q < H.size → A1 q → A0 q) (hf : ∀ q, free q → A0 q) (hAX : ∀ q, q < H.size → AX q → A0 q)
    (kx : ∀ (E : String) (ce : Cell) (q9 : Addr) (u : SX) (t : State) (H1 : Heap) (locs1 : List Loc), t.heap = H1 → s.vm.Alike t.vm → px u → BX E u t → H.size ≤ H1.size → (∀ q : Nat, q < H.size → ¬ AX q → H1[q]? = H[q]?) → va_S A0 H0 H1 locs1 → H1[q9]? = some ce → ce.vm = .none → s.vm.findClass E = some ce.cls → vx_W p l e R s m args below meth c H1 locs1 (cells + mc) (slots + ms) Q (F0 m pc ls rest) q9)
    (kk : ∀ (u : S) (t : State) (H1 : Heap) (locs1 : List Loc), t.heap = H1 → s.vm.Alike t.vm → post u → B u t → H.size ≤ H1.size → (∀ q : Nat, q < H.size → ¬ A1 q → H1[q]? = H[q]?) → va_S A0 H0 H1 locs1 → W p l e R s m args below meth c H1 locs1 (cells + mc) (slots + ms) Q (F0 m (pc + 3) ls (rest))) : W p l e R s m args below meth c H locs cells slots Q (F0 m pc ls st0) := by
  intro T hT X
  rcases hr T hT X with ⟨v, st₀, t, T', L, h0, X', hL, e1, e2, ⟨⟨u, hv, hp, hb⟩, hF⟩, st⟩ | ⟨q, st₀, t, T', L, E, ce, h0, X', hL, e1, e2, ⟨u, hp, hb, hF⟩, hce, hcv, hcl, st⟩
  · cases hv
    obtain ⟨k1, k2, k3⟩ := vx_keep h0 e1 hS hA hf hL hF
    obtain ⟨t2, a1, b1⟩ := kk u t T'.heap (locs ++ L) e1.symm (by rw [← e2]; exact X'.warmed.alike) hp hb k1 k2 k3 T' rfl X'
    exact ⟨t2, st t2 a1, b1⟩
  · obtain ⟨k1, k2, k3⟩ := vx_keep h0 e1 hS hAX hf hL hF
    obtain ⟨t2, a1, b1⟩ := kx E ce q u t T'.heap (locs ++ L) e1.symm (by rw [← e2]; exact X'.warmed.alike) hp hb k1 k2 k3 (by rw [e1]; exact hce) hcv hcl T' rfl X'
    exact ⟨t2, st.trans a1, b1⟩
end Rows
section Ends
variable {p : Program} {l : Launch} {e : Env} {R : Room} {s : State} {m : MethodId} {args : Array Value} {below : List Frame} {meth : Method} {c : Code} {H : Heap} {locs : List Loc} {cells slots : Nat} {Q : State → Prop}
variable {mc ms : Nat} {free : Addr → Prop} {A0 A1 : Nat → Prop} {H0 : Heap} {a : Array Value} {ls : Array Slot} {st0 rest : List Value}
variable {Qc : Array Value → State → Outcome → State → Prop} {XC : String → State → State → Prop}
/-- what a body that may throw owes at its end -/
def vx_MQ (below : List Frame) (Qc : Array Value → State → Outcome → State → Prop) (XC : String → State → State → Prop) (a : Array Value) (s : State) (mc ms : Nat) (free : Addr → Prop) : State → Prop := fun t =>
  ∃ o, t.status = .running ∧ Ended t below o ∧ vx_Q Qc XC mc ms free a s o t
theorem vx_ret {g : JFrame} {mc ms : Nat} (k : W p l e R s m args below meth c H locs cells slots (MQ below Qc args s mc ms free) g) : W p l e R s m args below meth c H locs cells slots (vx_MQ below Qc XC args s mc ms free) g := by
  intro T hT X
  obtain ⟨t, a1, o, b1, b2, b3, b4⟩ := k T hT X
  exact ⟨t, a1, o, b1, b2, Or.inl ⟨b3, b4⟩⟩
/-- not caught here: it goes on to the caller -/
theorem vx_widen {g : JFrame} {q : Addr} {k n : Nat} (h1 : cells ≤ k) (h2 : slots ≤ n) (kk : vx_W p l e R s m args below meth c H locs k n Q g q) : vx_W p l e R s m args below meth c H locs cells slots Q g q := fun T hT X => kk T hT (stand_widen X h1 h2)
theorem vx_out {pc : Nat} {E : String} {ce : Cell} {q : Addr} {mc ms : Nat} (hout : ∀ x ∈ c.exceptionTable.toList, covers x pc = false) (hlocks : meth.locks = false) (hcell : H[q]? = some ce) (hv : ce.vm = .none) (hcl : s.vm.findClass E = some ce.cls)
    (hx : ∀ t : State, t.heap = H → s.vm.Alike t.vm → XC E s t) (hf : ∀ z ∈ locs, free z.base) (hc : cells ≤ mc) (hs : slots ≤ ms) :
    vx_W p l e R s m args below meth c H locs cells slots (vx_MQ below Qc XC args s mc ms free) (F0 m pc ls rest) q := by
  intro T hT X
  obtain ⟨st1, hrun, hend, hW, hsm⟩ := X.leaveThrown q (g := F0 m pc ls rest) rfl rfl rfl hout hlocks
  have hcell9 : (T.setFrames (.throwing q :: below)).heap[q]? = some ce := by
    show T.heap[q]? = some ce
    rw [hT]; exact hcell
  exact ⟨_, st1, .threw q, hrun, hend, Or.inr ⟨q, rfl, E, ce, locs, hx _ hT hW.alike, hcell9, hv, hcl, hW, hsm.mono hc hs, hf⟩⟩
theorem vx_frame {U : State} {k n : Nat} (h : s.sameButNew ({ U with vm := s.vm } : State) locs k n) : s.heap.size ≤ U.heap.size ∧ ∀ q : Nat, q < s.heap.size → (∀ z ∈ locs, z.base ≠ q) → U.heap[q]? = s.heap[q]? := by
  obtain ⟨-, h2, -, -, -, h6⟩ := h
  refine ⟨h2, fun q hq hz => ?_⟩
  obtain ⟨c9, e1, e2, e3, e4⟩ := h6 q _ (Array.getElem?_eq_getElem hq)
  have hs : c9.slots = (s.heap[q]).slots := Array.ext_getElem? fun i => e4 i fun hm => hz _ hm rfl
  have h9 : c9 = s.heap[q] := by
    rw [hs] at e2
    exact e2
  have e5 : U.heap[q]? = some c9 := e1
  rw [e5, h9, Array.getElem?_eq_getElem hq]
/-- the words of a throw but the four that speak of the heap -/
def vx_no (w : Cond) : Bool := decide (w ≠ .isRef (.static Bundle.tN "UNASSIGNED_STACK" Bundle.steD)) && decide (w ≠ .isRef (.static Bundle.tN "SUPPRESSED_SENTINEL" Bundle.listD)) && decide (w ≠ .laysStatic Bundle.tN "UNASSIGNED_STACK" Bundle.steD) && decide (w ≠ .laysStatic Bundle.tN "SUPPRESSED_SENTINEL" Bundle.listD)
def vx_at0 (own : String) (ic : Nat) (X : String) (names : List String) : List Cond := (Bundle.ownAtoms0 own ic X names).filter vx_no
def vx_atS (own : String) (ic : Nat) (X : String) (names : List String) : List Cond := (Bundle.ownAtoms own ic X names).filter vx_no
/-- a word that the tables alone decide, or a good one -/
def vx_ot (w : Cond) : Bool := w.onTables || goodWord w
theorem vx_ot_at {args a' : Array Value} {s U : State} {w : Cond} (hW : s.WarmedH U.vm) (hvm : s.vm = U.vm) (hg : vx_ot w = true) (h : w.before args s = true) : w.before a' U = true := by
  simp only [vx_ot, Bool.or_eq_true] at hg
  rcases hg with hg | hg
  · exact va_tabs hg hvm h
  · exact word_at hW (good_of_word hg) h
/-- a list's words: the good ones out of the method's own list, the others by premises of their own -/
theorem vx_hat {args : Array Value} {s : State} {L B : List Cond} (h1 : ∀ w ∈ L.filter goodWord, w.before args s = true) (h2 : ∀ w ∈ L.filter (fun w => !goodWord w), w ∈ B) (h3 : ∀ w ∈ B, w.before args s = true) : ∀ w ∈ L, w.before args s = true := by
  intro w hw
  by_cases g : goodWord w = true
  · exact h1 w (List.mem_filter.mpr ⟨hw, g⟩)
  · refine h3 w (h2 w (List.mem_filter.mpr ⟨hw, ?_⟩))
    show (!goodWord w) = true
    cases hgw : goodWord w
    · rfl
    · exact absurd hgw g
theorem vx_c {args : Array Value} {s : State} {w : Cond} {B : List Cond} (h : w.before args s = true) (t : ∀ w ∈ B, w.before args s = true) : ∀ w' ∈ w :: B, w'.before args s = true := fun w' h' => (List.mem_cons.mp h').elim (fun e => by rw [e]; exact h) (t w')
theorem vx_n {args : Array Value} {s : State} : ∀ w ∈ ([] : List Cond), w.before args s = true := fun _ h => nomatch h
theorem vx_own {args : Array Value} {s : State} {L : List Cond} (h1 : ∀ w ∈ L.filter vx_no, w.before args s = true)
    (hU : (Cond.isRef (.static Bundle.tN "UNASSIGNED_STACK" Bundle.steD)).before args s = true) (hN : (Cond.isRef (.static Bundle.tN "SUPPRESSED_SENTINEL" Bundle.listD)).before args s = true)
    (lU : (Cond.laysStatic Bundle.tN "UNASSIGNED_STACK" Bundle.steD).before args s = true) (lN : (Cond.laysStatic Bundle.tN "SUPPRESSED_SENTINEL" Bundle.listD).before args s = true) : ∀ w ∈ L, w.before args s = true := by
  intro w hw
  by_cases e1 : w = .isRef (.static Bundle.tN "UNASSIGNED_STACK" Bundle.steD)
  · rw [e1]; exact hU
  · by_cases e2 : w = .isRef (.static Bundle.tN "SUPPRESSED_SENTINEL" Bundle.listD)
    · rw [e2]; exact hN
    · by_cases e3 : w = .laysStatic Bundle.tN "UNASSIGNED_STACK" Bundle.steD
      · rw [e3]; exact lU
      · by_cases e4 : w = .laysStatic Bundle.tN "SUPPRESSED_SENTINEL" Bundle.listD
        · rw [e4]; exact lN
        · exact h1 w (List.mem_filter.mpr ⟨hw, by unfold vx_no; rw [decide_eq_true e1, decide_eq_true e2, decide_eq_true e3, decide_eq_true e4]; rfl⟩)
/-- where a static field lies, its class's statics cell in H -/
def vx_L (C n d : String) (A : Nat → Prop) (U : State) (H : Heap) : Prop := ∃ (c : ClassId) (k : Class) (i : Nat) (f : Field) (a : Nat) (cell : Cell), U.vm.findClass C = some c ∧ U.fieldFound? C n d = some (c, k, i, f) ∧ f.isStatic = true ∧ k.statics = some a ∧ H[a]? = some cell ∧ cell.vm.isStatics = true ∧ cell.cls = c ∧ f.slot < cell.slots.size ∧ k.staticTypes[f.slot]? = some f.type ∧ ¬ A a
theorem vx_L.moved {C n d : String} {A : Nat → Prop} {u U : State} {H : Heap} (hvm : u.vm.Alike U.vm) (h : vx_L C n d A u H) : vx_L C n d A U H := by
  obtain ⟨c, k, i, f, a, cell, h1, h2, h3, h4, h5, h6, h7, h8, h9, h10⟩ := h
  obtain ⟨k', hi', he⟩ := State.fieldFound?_setVm hvm h2
  exact ⟨c, k', i, f, a, cell, by rw [hvm.findClass]; exact h1, hi', h3, by rw [he]; exact h4, h5, h6, h7, h8, by rw [he]; exact h9, h10⟩
theorem vx_L.kept {C n d : String} {A : Nat → Prop} {U : State} {H H1 : Heap} (h : vx_L C n d A U H) (hq : ∀ a : Nat, a < H.size → ¬ A a → H1[a]? = H[a]?) : vx_L C n d A U H1 := by
  obtain ⟨c, k, i, f, a, cell, h1, h2, h3, h4, h5, h6, h7, h8, h9, h10⟩ := h
  exact ⟨c, k, i, f, a, cell, h1, h2, h3, h4, by rw [hq a (Array.getElem?_eq_some_iff.mp h5).1 h10]; exact h5, h6, h7, h8, h9, h10⟩
theorem vx_L.narrow {C n d : String} {A B : Nat → Prop} {U : State} {H : Heap} (h : vx_L C n d A U H) (hAB : ∀ q, B q → A q) : vx_L C n d B U H := by
  obtain ⟨c, k, i, f, a, cell, h1, h2, h3, h4, h5, h6, h7, h8, h9, h10⟩ := h
  exact ⟨c, k, i, f, a, cell, h1, h2, h3, h4, h5, h6, h7, h8, h9, fun z => h10 (hAB _ z)⟩
theorem vx_L.word {C n d : String} {A : Nat → Prop} {s : State} {args : Array Value} (h : vx_L C n d A s s.heap) : (Cond.laysStatic C n d).before args s = true := by
  obtain ⟨c, k, i, f, a, cell, h1, h2, h3, h4, h5, h6, h7, h8, h9, -⟩ := h
  show (Cond.laysStatic C n d).holds args s none s [] = true
  exact Cond.laysStatic_of h1 h2 h3 h4 h5 h6 h7 h8 h9
/-- .. and what it holds: null or some reference -/
def vx_Zq (C n d : String) (A : Nat → Prop) (U : State) (H : Heap) : Prop := va_Zq C n d A U H ∧ vx_L C n d A U H
theorem vx_Zq.moved {C n d : String} {A : Nat → Prop} {u U : State} {H : Heap} (hvm : u.vm.Alike U.vm) (h : vx_Zq C n d A u H) : vx_Zq C n d A U H := ⟨va_Zq.moved hvm h.1, vx_L.moved hvm h.2⟩
theorem vx_Zq.kept {C n d : String} {A : Nat → Prop} {U : State} {H H1 : Heap} (h : vx_Zq C n d A U H) (hq : ∀ a : Nat, a < H.size → ¬ A a → H1[a]? = H[a]?) : vx_Zq C n d A U H1 := ⟨va_Zq.kept h.1 hq, vx_L.kept h.2 hq⟩
theorem vx_Zq.narrow {C n d : String} {A B : Nat → Prop} {U : State} {H : Heap} (h : vx_Zq C n d A U H) (hAB : ∀ q, B q → A q) : vx_Zq C n d B U H := ⟨va_Zq.narrow h.1 hAB, vx_L.narrow h.2 hAB⟩
theorem vx_Zqof {args : Array Value} {s : State} {C n d : String} {A : Nat → Prop} (hl : (Cond.laysStatic C n d).before args s = true) (hini : (Cond.initialized C).before args s = true) (h : (Cond.isRef (.static C n d)).before args s = true) (hA : ∀ a : Nat, a < s.heap.size → ¬ A a) : vx_Zq C n d A s s.heap := by
  refine ⟨va_Zqof hl hini h hA, ?_⟩
  obtain ⟨c, k, i, f, a, cell, h1, h2, h3, h4, h5, h6, h7, h8, h9⟩ := Cond.laysStatic_spec hl
  exact ⟨c, k, i, f, a, cell, h1, h2, h3, h4, h5, h6, h7, h8, h9, hA a (Array.getElem?_eq_some_iff.mp h5).1⟩
theorem vx_isRef {C n d : String} {v : Value} {A : Nat → Prop} {s : State} {args : Array Value} (h : va_Z C n d v A s s.heap) (hv : v.isRef = true) : (Cond.isRef (.static C n d)).before args s = true := by
  obtain ⟨cf, kf, fi, f, a, cell, h1, h2, h3, h4, h5, h6, h7, -⟩ := h
  have he : (Term.static C n d).eval args s none [] s = some v := by
    simp [Term.eval, State.fieldNamed?, h1, h2, h4, h5, h6, h7]
  simp only [Cond.before, Cond.holds, Cond.value, he]
  cases v <;> simp_all [Value.isRef]
theorem vx_isRefq {C n d : String} {A : Nat → Prop} {s : State} {args : Array Value} (h : va_Zq C n d A s s.heap) : (Cond.isRef (.static C n d)).before args s = true := by
  rcases h with h | ⟨t, h⟩
  · exact vx_isRef h rfl
  · exact vx_isRef h rfl
/-- the same frame, seen from here: as if the method were called anew in this heap -/
theorem vx_rebase {T : State} (X : Stand p l e R s m args below meth c T locs cells slots) {R' : Room} (hf : R'.frames ≤ R.frames) (hl : R'.locals ≤ R.locals) (hc : cells + R'.cells ≤ R.cells) (hs : slots + R'.slots ≤ R.slots) :
    Stand p l e R' ((T.setVm s.vm).setFrames (.invoking m args :: below)) m args below meth c T [] 0 0 := by
  have htop : (T.setVm s.vm).topJava?.isSome := X.here.top
  have hF : ((T.setVm s.vm).setFrames (.invoking m args :: below)).frames = .invoking m args :: below := State.frames_setFrames _ (State.cur_lt_of_top htop)
  obtain ⟨g₀, hg0⟩ := Option.isSome_iff_exists.mp htop
  obtain ⟨r, hr⟩ := State.topJava?_eq_some.mp hg0
  have hl9 : e.platform.stackLimits (T.setVm s.vm).me = e.platform.stackLimits s.me := X.limits
  have hb9 : (T.setVm s.vm).me.stackBytes = s.me.stackBytes := X.bytes
  refine ⟨X.admits, X.cas, X.clock, hF, ?_, X.hears, X.method, X.code, X.here, X.tail, X.warmed, ?_, ?_, ?_⟩
  · have h := X.room
    have hU : ((T.setVm s.vm).setFrames (.invoking m args :: below)).localsInUse = s.localsInUse := by
      rw [State.localsInUse_invoking hF (meth := meth) (c := c) X.method X.code, State.localsInUse_invoking X.frames X.method X.code]
    simp only [State.hasRoom, Bool.and_eq_true, decide_eq_true_eq] at h ⊢
    obtain ⟨⟨⟨⟨h1, h2, h3, h4, h5, h6⟩, h7⟩, h8⟩, h9⟩ := h
    rw [X.frames, List.length_cons] at h2 h3
    have q1 := X.heapSize
    have q2 := X.used
    simp only [hF, hU, List.length_cons, State.stackLimits_setFrames, State.stackBytes_setFrames, hl9, hb9]
    refine ⟨⟨⟨⟨by omega, by omega, by omega, by omega, by omega, h6⟩, ?_⟩, ?_⟩, X.book⟩
    · show T.heap.size + R'.cells ≤ e.platform.maxCells
      omega
    · show T.slotsUsed + R'.slots ≤ e.platform.maxSlots
      omega
  · rw [State.stackLimits_setFrames]; rfl
  · rw [State.stackBytes_setFrames]; rfl
  · refine ⟨?_, Nat.le_refl _, Nat.le_refl _, ?_, ?_, fun a c9 h9 => ⟨c9, h9, rfl, rfl, fun _ _ => rfl⟩⟩
    · obtain ⟨t, ht, -⟩ := State.frames_cons hr
      show T.setVm s.vm = { ((T.setVm s.vm).setFrames (.invoking m args :: below)).setFrames (T.setVm s.vm).frames with heap := T.heap, slotsUsed := T.slotsUsed }
      rw [State.setFrames_setFrames, State.setFrames_self ht]
      rfl
    · show T.slotsUsed = T.slotsUsed + ((T.heap.toList.drop T.heap.size).map (·.slots.size)).sum
      rw [List.drop_eq_nil_of_le (Nat.le_of_eq Array.length_toList)]
      rfl
    · show ((T.heap.toList.drop T.heap.size).map (·.slots.size)).sum ≤ 0
      rw [List.drop_eq_nil_of_le (Nat.le_of_eq Array.length_toList)]
      exact Nat.le_refl _
/-- 'throw new E()': new; dup; invokespecial; athrow -/
theorem vx_throw0 {cc : ByteArray} {pc : Nat} (hexec : p.tables.exec = Jvm.exec) (hb : c.code = cc) (hl : l.stackTraces = false) {own cls : String} {names : List String} {ik ic mc ms : Nat} {A : Nat → Prop}
    (hown : s.vm.findClass own = some m.cls) (hcls : Bundle.fit cls = true) (hnames : ∀ n ∈ names, Bundle.fit n = true)
    (hk : (Cond.classLink own ik cls).before args s = true) (hini : (Cond.initialized cls).before args s = true) (hat : ∀ w ∈ vx_at0 own ic cls names, w.before args s = true)
    (hgood : ∀ w ∈ Cond.classLink own ik cls :: Cond.initialized cls :: vx_at0 own ic cls names, vx_ot w = true)
    (hU : vx_Zq Bundle.tN "UNASSIGNED_STACK" Bundle.steD A s s.heap) (hN : vx_Zq Bundle.tN "SUPPRESSED_SENTINEL" Bundle.listD A s s.heap) (hS : va_S A s.heap H locs) (hsize : ls.size = c.maxLocals)
    (d0 : decode cc pc = .ok (.new ik, 3)) (d3 : decode cc (pc + 3) = .ok (.dup, 1)) (d4 : decode cc (pc + 4) = .ok (.invokespecial ic, 3)) (d7 : decode cc (pc + 7) = .ok (.athrow, 1))
    (hout : ∀ x ∈ c.exceptionTable.toList, covers x (pc + 7) = false)
    (hRframes : names.length + 3 < R.frames) (hRlocals : (rest.map fun v => v.category).sum + (13 * (names.length + 1) + 42) ≤ R.locals) (hRcells : cells + 1 ≤ R.cells) (hRslots : slots + 6 ≤ R.slots) (hlocks : meth.locks = false)
    (hx : ∀ t : State, s.vm.Alike t.vm → H.size ≤ t.heap.size → (∀ q : Nat, q < H.size → t.heap[q]? = H[q]?) → XC cls s t)
    (hf : ∀ z ∈ locs, free z.base) (hc : cells + 1 ≤ mc) (hs : slots + 6 ≤ ms) :
    W p l e R s m args below meth c H locs cells slots (vx_MQ below Qc XC args s mc ms free) (F0 m pc ls rest) := by
  intro T hT X
  have htr : e.platform.stackTraces = false := (show e.platform.stackTraces = l.stackTraces by rw [X.admits.platform]).trans hl
  have Y := vx_rebase X (R' := { frames := R.frames, locals := R.locals, cells := 1, slots := 6 }) (Nat.le_refl _) (Nat.le_refl _) hRcells hRslots
  obtain ⟨s', hA⟩ : ∃ z, z = (T.setVm s.vm).setFrames (.invoking m args :: below) := ⟨_, rfl⟩
  rw [← hA] at Y
  have hvm : s'.vm = s.vm := by rw [hA]; rfl
  have hhp : s'.heap = H := by rw [hA]; exact hT
  have hW0 : s.WarmedH s'.vm := by rw [hvm]; exact State.WarmedH.refl s
  have hat' : ∀ w ∈ vx_at0 own ic cls names, w.before args s' = true := fun w hw => vx_ot_at hW0 hvm.symm (hgood w (List.mem_cons_of_mem _ (List.mem_cons_of_mem _ hw))) (hat w hw)
  have hk' : (Cond.classLink own ik cls).before args s' = true := vx_ot_at hW0 hvm.symm (hgood _ List.mem_cons_self) hk
  have hini' : (Cond.initialized cls).before args s' = true := vx_ot_at hW0 hvm.symm (hgood _ (List.mem_cons_of_mem _ List.mem_cons_self)) hini
  have hU' : vx_Zq Bundle.tN "UNASSIGNED_STACK" Bundle.steD A s' s'.heap := by rw [hhp]; exact vx_Zq.moved hW0.alike (hU.kept hS.2.1)
  have hN' : vx_Zq Bundle.tN "SUPPRESSED_SENTINEL" Bundle.listD A s' s'.heap := by rw [hhp]; exact vx_Zq.moved hW0.alike (hN.kept hS.2.1)
  have h : ∀ w ∈ Bundle.ownAtoms0 own ic cls names, w.before args s' = true := vx_own hat' (vx_isRefq hU'.1) (vx_isRefq hN'.1) hU'.2.word hN'.2.word
  have hown' : s'.vm.findClass own = some m.cls := by rw [hvm]; exact hown
  have hins : (Cond.instantiable cls 6).before args s' = true := h _ (by simp [Bundle.ownAtoms0])
  obtain ⟨vm₁, cX, kX, hfX, hkX, -, -, X₁, st1⟩ := Y.newCold hexec (own := own) (C := cls) (index := ik) (n := 6) hown' hk' hins hini'
    (g := F0 m pc ls rest) rfl (by rw [hb]; exact d0) (Nat.le_refl _) (Nat.le_refl _)
  generalize hT1 : (T.setVm vm₁).pushCell { cls := cX, slots := kX.instanceTypes.map defaultValue, vm := .none } = T1 at X₁ st1
  have hcat : (Value.ref T.heap.size).category = 1 := rfl
  have hcellA : T1.heap[T.heap.size]? = some (freshCell cX kX) := by rw [← hT1]; exact State.heap_pushCell_size _ _
  have d3' : decode c.code (pc + 3) = .ok (.dup, 1) := by rw [hb]; exact d3
  obtain ⟨U, hsteps, hrun, hend, hW, hsame, ce, hce, hO⟩ := X₁.ctorThrow0 hexec htr (own := own) (cls := cls) (names := names) (ic := ic) hown' hcls hnames h (fun x hx => nomatch hx) hfX hkX hcellA (by rw [hhp, hT]; exact Nat.le_refl _)
    (g := { method := m, pc := pc + 4, locals := ls, stack := .ref T.heap.size :: .ref T.heap.size :: rest, locked := none }) rfl hsize rfl rfl (rest := rest) rfl
    (by rw [hb]; exact d4) (by rw [hb]; exact d7) hout hRframes (by simp only [List.map_cons, List.sum_cons, hcat]; omega) hlocks
  obtain ⟨f1, f2⟩ := vx_frame hsame
  rw [hhp] at f1 f2
  have hWs : s.WarmedH U.vm := State.WarmedH.trans hW0 hW
  have hcl : s.vm.findClass cls = some ce.cls := by
    have h9 := hO.cls
    rw [hvm] at h9
    exact h9
  have hall : s.sameButNew ({ U with vm := s.vm } : State) locs mc ms := by
    subst hA
    obtain ⟨e1, e2⟩ := hsame
    rw [State.setFrames_setFrames] at e1
    have h2 : (T.setVm s.vm).sameButNew ({ U with vm := s.vm } : State) [] (0 + 1) (0 + 6) := ⟨e1, e2⟩
    have h3 := X.same.trans h2
    rw [List.append_nil] at h3
    exact h3.mono hc hs
  refine ⟨U, ?_, .threw T.heap.size, hrun, hend, Or.inr ⟨T.heap.size, rfl, cls, ce, locs, hx U hWs.alike f1 (fun q hq => f2 q hq (fun z hz => nomatch hz)), hce, hO.vm, hcl, hWs, hall, hf⟩⟩
  refine st1 _ ?_
  show Steps p.tables e below (T1.setTop { method := m, pc := pc + 3, locals := ls, stack := .ref T.heap.size :: rest, locked := none }) _
  jvm_step X₁.here [X₁.here.top, hexec, d3', Value.category]
  exact hsteps
/-- 'throw new E("text")': new; dup; ldc; invokespecial; athrow -/
theorem vx_throwS {cc : ByteArray} {pc : Nat} (hexec : p.tables.exec = Jvm.exec) (hb : c.code = cc) (hl : l.stackTraces = false) {own cls text : String} {names : List String} {ik is ic mc ms sa : Nat} {A : Nat → Prop}
    (hown : s.vm.findClass own = some m.cls) (hcls : Bundle.fit cls = true) (hnames : ∀ n ∈ names, Bundle.fit n = true)
    (hk : (Cond.classLink own ik cls).before args s = true) (hini : (Cond.initialized cls).before args s = true) (hstr : vk_R own is text sa s) (hat : ∀ w ∈ vx_atS own ic cls names, w.before args s = true)
    (hgood : ∀ w ∈ Cond.classLink own ik cls :: Cond.initialized cls :: vx_atS own ic cls names, vx_ot w = true)
    (hU : vx_Zq Bundle.tN "UNASSIGNED_STACK" Bundle.steD A s s.heap) (hN : vx_Zq Bundle.tN "SUPPRESSED_SENTINEL" Bundle.listD A s s.heap) (hS : va_S A s.heap H locs) (hsize : ls.size = c.maxLocals)
    (d0 : decode cc pc = .ok (.new ik, 3)) (d3 : decode cc (pc + 3) = .ok (.dup, 1)) (d4 : decode cc (pc + 4) = .ok (.ldc is, 2)) (d6 : decode cc (pc + 6) = .ok (.invokespecial ic, 3)) (d9 : decode cc (pc + 9) = .ok (.athrow, 1))
    (hout : ∀ x ∈ c.exceptionTable.toList, covers x (pc + 9) = false)
    (hRframes : names.length + 3 < R.frames) (hRlocals : (rest.map fun v => v.category).sum + (13 * (names.length + 1) + 43) ≤ R.locals) (hRcells : cells + 1 ≤ R.cells) (hRslots : slots + 6 ≤ R.slots) (hlocks : meth.locks = false)
    (hx : ∀ t : State, s.vm.Alike t.vm → H.size ≤ t.heap.size → (∀ q : Nat, q < H.size → t.heap[q]? = H[q]?) → XC cls s t)
    (hf : ∀ z ∈ locs, free z.base) (hc : cells + 1 ≤ mc) (hs : slots + 6 ≤ ms) :
    W p l e R s m args below meth c H locs cells slots (vx_MQ below Qc XC args s mc ms free) (F0 m pc ls rest) := by
  intro T hT X
  have htr : e.platform.stackTraces = false := (show e.platform.stackTraces = l.stackTraces by rw [X.admits.platform]).trans hl
  have Y := vx_rebase X (R' := { frames := R.frames, locals := R.locals, cells := 1, slots := 6 }) (Nat.le_refl _) (Nat.le_refl _) hRcells hRslots
  obtain ⟨s', hA⟩ : ∃ z, z = (T.setVm s.vm).setFrames (.invoking m args :: below) := ⟨_, rfl⟩
  rw [← hA] at Y
  have hvm : s'.vm = s.vm := by rw [hA]; rfl
  have hhp : s'.heap = H := by rw [hA]; exact hT
  have hW0 : s.WarmedH s'.vm := by rw [hvm]; exact State.WarmedH.refl s
  have hat' : ∀ w ∈ vx_atS own ic cls names, w.before args s' = true := fun w hw => vx_ot_at hW0 hvm.symm (hgood w (List.mem_cons_of_mem _ (List.mem_cons_of_mem _ hw))) (hat w hw)
  have hk' : (Cond.classLink own ik cls).before args s' = true := vx_ot_at hW0 hvm.symm (hgood _ List.mem_cons_self) hk
  have hini' : (Cond.initialized cls).before args s' = true := vx_ot_at hW0 hvm.symm (hgood _ (List.mem_cons_of_mem _ List.mem_cons_self)) hini
  have hU' : vx_Zq Bundle.tN "UNASSIGNED_STACK" Bundle.steD A s' s'.heap := by rw [hhp]; exact vx_Zq.moved hW0.alike (hU.kept hS.2.1)
  have hN' : vx_Zq Bundle.tN "SUPPRESSED_SENTINEL" Bundle.listD A s' s'.heap := by rw [hhp]; exact vx_Zq.moved hW0.alike (hN.kept hS.2.1)
  have h : ∀ w ∈ Bundle.ownAtoms own ic cls names, w.before args s' = true := vx_own hat' (vx_isRefq hU'.1) (vx_isRefq hN'.1) hU'.2.word hN'.2.word
  have hown' : s'.vm.findClass own = some m.cls := by rw [hvm]; exact hown
  have hins : (Cond.instantiable cls 6).before args s' = true := h _ (by simp [Bundle.ownAtoms])
  obtain ⟨vm₁, cX, kX, hfX, hkX, -, -, X₁, st1⟩ := Y.newCold hexec (own := own) (C := cls) (index := ik) (n := 6) hown' hk' hins hini'
    (g := F0 m pc ls rest) rfl (by rw [hb]; exact d0) (Nat.le_refl _) (Nat.le_refl _)
  generalize hT1 : (T.setVm vm₁).pushCell { cls := cX, slots := kX.instanceTypes.map defaultValue, vm := .none } = T1 at X₁ st1
  have hcat : (Value.ref T.heap.size).category = 1 := rfl
  have hcellA : T1.heap[T.heap.size]? = some (freshCell cX kX) := by rw [← hT1]; exact State.heap_pushCell_size _ _
  have d3' : decode c.code (pc + 3) = .ok (.dup, 1) := by rw [hb]; exact d3
  have d4' : decode c.code (pc + 4) = .ok (.ldc is, 2) := by rw [hb]; exact d4
  have hstr' : vk_R own is text sa s' := vk_R.warm hW0 hstr
  obtain ⟨U, hsteps, hrun, hend, hW, hsame, ce, hce, hO⟩ := X₁.ctorThrowS hexec htr (own := own) (cls := cls) (names := names) (ic := ic) hown' hcls hnames h (fun x hx => nomatch hx) hfX hkX hcellA (by rw [hhp, hT]; exact Nat.le_refl _) (msg := .ref sa) rfl
    (g := { method := m, pc := pc + 6, locals := ls, stack := .ref sa :: .ref T.heap.size :: .ref T.heap.size :: rest, locked := none }) rfl hsize rfl rfl (rest := rest) rfl
    (by rw [hb]; exact d6) (by rw [hb]; exact d9) hout hRframes (by simp only [List.map_cons, List.sum_cons, hcat]; omega) hlocks
  obtain ⟨f1, f2⟩ := vx_frame hsame
  rw [hhp] at f1 f2
  have hWs : s.WarmedH U.vm := State.WarmedH.trans hW0 hW
  have hcl : s.vm.findClass cls = some ce.cls := by
    have h9 := hO.cls
    rw [hvm] at h9
    exact h9
  have hall : s.sameButNew ({ U with vm := s.vm } : State) locs mc ms := by
    subst hA
    obtain ⟨e1, e2⟩ := hsame
    rw [State.setFrames_setFrames] at e1
    have h2 : (T.setVm s.vm).sameButNew ({ U with vm := s.vm } : State) [] (0 + 1) (0 + 6) := ⟨e1, e2⟩
    have h3 := X.same.trans h2
    rw [List.append_nil] at h3
    exact h3.mono hc hs
  refine ⟨U, ?_, .threw T.heap.size, hrun, hend, Or.inr ⟨T.heap.size, rfl, cls, ce, locs, hx U hWs.alike f1 (fun q hq => f2 q hq (fun z hz => nomatch hz)), hce, hO.vm, hcl, hWs, hall, hf⟩⟩
  refine st1 _ ?_
  show Steps p.tables e below (T1.setTop { method := m, pc := pc + 3, locals := ls, stack := .ref T.heap.size :: rest, locked := none }) _
  jvm_step X₁.here [X₁.here.top, hexec, d3', Value.category]
  exact X₁.ldcString hexec (own := own) (text := text) (index := is) (a := sa) hown' hstr'.1 hstr'.2
    (g := { method := m, pc := pc + 4, locals := ls, stack := .ref T.heap.size :: .ref T.heap.size :: rest, locked := none }) rfl d4' _ hsteps
/-- 'throw new E("text")', the text by a wide index -/
theorem vx_throwSW {cc : ByteArray} {pc : Nat} (hexec : p.tables.exec = Jvm.exec) (hb : c.code = cc) (hl : l.stackTraces = false) {own cls text : String} {names : List String} {ik is ic mc ms sa : Nat} {A : Nat → Prop}
    (hown : s.vm.findClass own = some m.cls) (hcls : Bundle.fit cls = true) (hnames : ∀ n ∈ names, Bundle.fit n = true)
    (hk : (Cond.classLink own ik cls).before args s = true) (hini : (Cond.initialized cls).before args s = true) (hstr : vk_R own is text sa s) (hat : ∀ w ∈ vx_atS own ic cls names, w.before args s = true)
    (hgood : ∀ w ∈ Cond.classLink own ik cls :: Cond.initialized cls :: vx_atS own ic cls names, vx_ot w = true)
    (hU : vx_Zq Bundle.tN "UNASSIGNED_STACK" Bundle.steD A s s.heap) (hN : vx_Zq Bundle.tN "SUPPRESSED_SENTINEL" Bundle.listD A s s.heap) (hS : va_S A s.heap H locs) (hsize : ls.size = c.maxLocals)
    (d0 : decode cc pc = .ok (.new ik, 3)) (d3 : decode cc (pc + 3) = .ok (.dup, 1)) (d4 : decode cc (pc + 4) = .ok (.ldc_w is, 3)) (d7 : decode cc (pc + 7) = .ok (.invokespecial ic, 3)) (d10 : decode cc (pc + 10) = .ok (.athrow, 1))
    (hout : ∀ x ∈ c.exceptionTable.toList, covers x (pc + 10) = false)
    (hRframes : names.length + 3 < R.frames) (hRlocals : (rest.map fun v => v.category).sum + (13 * (names.length + 1) + 43) ≤ R.locals) (hRcells : cells + 1 ≤ R.cells) (hRslots : slots + 6 ≤ R.slots) (hlocks : meth.locks = false)
    (hx : ∀ t : State, s.vm.Alike t.vm → H.size ≤ t.heap.size → (∀ q : Nat, q < H.size → t.heap[q]? = H[q]?) → XC cls s t)
    (hf : ∀ z ∈ locs, free z.base) (hc : cells + 1 ≤ mc) (hs : slots + 6 ≤ ms) :
    W p l e R s m args below meth c H locs cells slots (vx_MQ below Qc XC args s mc ms free) (F0 m pc ls rest) := by
  intro T hT X
  have htr : e.platform.stackTraces = false := (show e.platform.stackTraces = l.stackTraces by rw [X.admits.platform]).trans hl
  have Y := vx_rebase X (R' := { frames := R.frames, locals := R.locals, cells := 1, slots := 6 }) (Nat.le_refl _) (Nat.le_refl _) hRcells hRslots
  obtain ⟨s', hA⟩ : ∃ z, z = (T.setVm s.vm).setFrames (.invoking m args :: below) := ⟨_, rfl⟩
  rw [← hA] at Y
  have hvm : s'.vm = s.vm := by rw [hA]; rfl
  have hhp : s'.heap = H := by rw [hA]; exact hT
  have hW0 : s.WarmedH s'.vm := by rw [hvm]; exact State.WarmedH.refl s
  have hat' : ∀ w ∈ vx_atS own ic cls names, w.before args s' = true := fun w hw => vx_ot_at hW0 hvm.symm (hgood w (List.mem_cons_of_mem _ (List.mem_cons_of_mem _ hw))) (hat w hw)
  have hk' : (Cond.classLink own ik cls).before args s' = true := vx_ot_at hW0 hvm.symm (hgood _ List.mem_cons_self) hk
  have hini' : (Cond.initialized cls).before args s' = true := vx_ot_at hW0 hvm.symm (hgood _ (List.mem_cons_of_mem _ List.mem_cons_self)) hini
  have hU' : vx_Zq Bundle.tN "UNASSIGNED_STACK" Bundle.steD A s' s'.heap := by rw [hhp]; exact vx_Zq.moved hW0.alike (hU.kept hS.2.1)
  have hN' : vx_Zq Bundle.tN "SUPPRESSED_SENTINEL" Bundle.listD A s' s'.heap := by rw [hhp]; exact vx_Zq.moved hW0.alike (hN.kept hS.2.1)
  have h : ∀ w ∈ Bundle.ownAtoms own ic cls names, w.before args s' = true := vx_own hat' (vx_isRefq hU'.1) (vx_isRefq hN'.1) hU'.2.word hN'.2.word
  have hown' : s'.vm.findClass own = some m.cls := by rw [hvm]; exact hown
  have hins : (Cond.instantiable cls 6).before args s' = true := h _ (by simp [Bundle.ownAtoms])
  obtain ⟨vm₁, cX, kX, hfX, hkX, -, -, X₁, st1⟩ := Y.newCold hexec (own := own) (C := cls) (index := ik) (n := 6) hown' hk' hins hini'
    (g := F0 m pc ls rest) rfl (by rw [hb]; exact d0) (Nat.le_refl _) (Nat.le_refl _)
  generalize hT1 : (T.setVm vm₁).pushCell { cls := cX, slots := kX.instanceTypes.map defaultValue, vm := .none } = T1 at X₁ st1
  have hcat : (Value.ref T.heap.size).category = 1 := rfl
  have hcellA : T1.heap[T.heap.size]? = some (freshCell cX kX) := by rw [← hT1]; exact State.heap_pushCell_size _ _
  have d3' : decode c.code (pc + 3) = .ok (.dup, 1) := by rw [hb]; exact d3
  have d4' : decode c.code (pc + 4) = .ok (.ldc_w is, 3) := by rw [hb]; exact d4
  have hstr' : vk_R own is text sa s' := vk_R.warm hW0 hstr
  obtain ⟨U, hsteps, hrun, hend, hW, hsame, ce, hce, hO⟩ := X₁.ctorThrowS hexec htr (own := own) (cls := cls) (names := names) (ic := ic) hown' hcls hnames h (fun x hx => nomatch hx) hfX hkX hcellA (by rw [hhp, hT]; exact Nat.le_refl _) (msg := .ref sa) rfl
    (g := { method := m, pc := pc + 7, locals := ls, stack := .ref sa :: .ref T.heap.size :: .ref T.heap.size :: rest, locked := none }) rfl hsize rfl rfl (rest := rest) rfl
    (by rw [hb]; exact d7) (by rw [hb]; exact d10) hout hRframes (by simp only [List.map_cons, List.sum_cons, hcat]; omega) hlocks
  obtain ⟨f1, f2⟩ := vx_frame hsame
  rw [hhp] at f1 f2
  have hWs : s.WarmedH U.vm := State.WarmedH.trans hW0 hW
  have hcl : s.vm.findClass cls = some ce.cls := by
    have h9 := hO.cls
    rw [hvm] at h9
    exact h9
  have hall : s.sameButNew ({ U with vm := s.vm } : State) locs mc ms := by
    subst hA
    obtain ⟨e1, e2⟩ := hsame
    rw [State.setFrames_setFrames] at e1
    have h2 : (T.setVm s.vm).sameButNew ({ U with vm := s.vm } : State) [] (0 + 1) (0 + 6) := ⟨e1, e2⟩
    have h3 := X.same.trans h2
    rw [List.append_nil] at h3
    exact h3.mono hc hs
  refine ⟨U, ?_, .threw T.heap.size, hrun, hend, Or.inr ⟨T.heap.size, rfl, cls, ce, locs, hx U hWs.alike f1 (fun q hq => f2 q hq (fun z hz => nomatch hz)), hce, hO.vm, hcl, hWs, hall, hf⟩⟩
  refine st1 _ ?_
  show Steps p.tables e below (T1.setTop { method := m, pc := pc + 3, locals := ls, stack := .ref T.heap.size :: rest, locked := none }) _
  jvm_step X₁.here [X₁.here.top, hexec, d3', Value.category]
  exact X₁.ldcStringW hexec (own := own) (text := text) (index := is) (a := sa) hown' hstr'.1 hstr'.2
    (g := { method := m, pc := pc + 4, locals := ls, stack := .ref T.heap.size :: .ref T.heap.size :: rest, locked := none }) rfl d4' _ hsteps
end Ends
section Bodies
variable {l : Launch}
theorem vx_ofW {y : MethodName} {ws ws' : List Cond} {rm : Room} {Pc : Array Value → State → Prop} {Qc : Array Value → State → Outcome → State → Prop} {XC : String → State → State → Prop} {mc ms : Nat} {free : Addr → Prop} {cc : ByteArray} {maxL : Nat} {ret : Option FieldType}
    (hy : plainName y.cls = true) (hw : ws = Cond.code y cc maxL ret :: ws')
    (body : ∀ p e s m args below meth c s₁, BodyLoose p l y (headSpec ws rm) cc maxL ret e s m args below meth c s₁ → c.maxLocals = maxL → (∀ x ∈ c.exceptionTable.toList, False) → Pc args s →
      W p l e (headSpec ws rm).room s m args below meth c s.heap [] 0 0 (vx_MQ below Qc XC args s mc ms free) (entryFrame m args maxL)) : vx_Met l y ws rm Pc Qc XC mc ms free := by
  refine MetFree.of_bodyS (code := cc) (maxLocals := maxL) (ret := ret) hy ?_ ?_
  · intro args s m h hn
    obtain ⟨meth, c, h1, h2, h3, h4, h5, h6, -, -⟩ := Cond.code_spec hn (atoms_spec (ws := ws) h _ (by rw [hw]; exact List.mem_cons_self))
    exact ⟨meth, c, h1, h2, h3, h4, h5, h6⟩
  · intro p e s m args below meth c s₁ B hml hP _
    have hh0 : s₁.heap = s.heap := by rw [B.state]; rfl
    have ht : ∀ x ∈ c.exceptionTable.toList, False := by
      obtain ⟨meth9, c9, h1, h2, -, -, -, -, h7, -⟩ := Cond.code_spec B.named (atoms_spec (ws := ws) B.pre _ (by rw [hw]; exact List.mem_cons_self))
      cases Option.some.inj (h1.symm.trans B.method)
      cases Option.some.inj (h2.symm.trans (Stand.of_body B).code)
      intro x hx
      rw [Array.isEmpty_iff.mp h7] at hx
      cases hx
    obtain ⟨t, a1, o, b1, b2, b3⟩ := body p e s m args below meth c s₁ B hml ht hP s₁ hh0 (Stand.of_body B)
    exact ⟨t, o, a1, b1, b2, b3⟩
/-- the table of a body with handlers -/
theorem vx_table {p : Program} {x y : MethodName} {S : Spec} {cc bytes : ByteArray} {maxL maxL' : Nat} {ret ret' : Option FieldType} {e : Env} {s s₁ : State} {m : MethodId} {args : Array Value} {below : List Frame} {meth : Method} {c : Code} {hh : List (Nat × Nat × Nat × Nat)}
    (B : BodyLoose p l y S cc maxL ret e s m args below meth c s₁) (h : (Cond.codeWith y bytes maxL' ret' hh).before args s = true) : c.exceptionTable.toList = tableOf hh := by
  obtain ⟨m9, meth9, c9, hn9, h1, h2, -, -, h6, -⟩ := Cond.codeWith_spec h
  cases Option.some.inj (hn9.symm.trans B.named)
  cases Option.some.inj (h1.symm.trans B.method)
  cases Option.some.inj (h2.symm.trans (Stand.of_body B).code)
  rw [← h6, table_eq]
end Bodies
end VXA
/-! ===== END ===== -/
/-! ===== BEGIN a static call of a method with an exception table ===== -/
section VXS
variable {p : Program} {l : Launch} {e : Env} {R : Room} {s : State} {m : MethodId} {args : Array Value} {below : List Frame} {meth : Method} {c : Code} {T : State} {H : Heap} {locs : List Loc} {cells slots : Nat}
abbrev vx_CSW (R : Room) (s : State) (args : Array Value) (own : String) (index : Nat) (y : MethodName) (bytes : ByteArray) (maxL : Nat) (ret : Option FieldType) (hh : List (Nat × Nat × Nat × Nat)) (ws : List Cond) (rm : Room) (mc ms n : Nat) : Prop :=
  (rm.cells = mc ∧ rm.slots = ms ∧ rm.frames + 1 ≤ R.frames ∧ 8 + (maxL + 11) + rm.locals ≤ R.locals ∧ (∀ w ∈ ws, ∀ (a' : Array Value) (U : State), s.WarmedH U.vm → w.before a' U = true) ∧ Cond.codeWith y bytes maxL ret hh ∈ ws) ∧
  (Cond.codeWith y bytes maxL ret hh).before args s = true ∧ (Cond.initialized y.cls).before args s = true ∧ (y.cls ≠ "java/lang/invoke/MethodHandle" ∧ y.cls ≠ "java/lang/invoke/VarHandle") ∧
  (∀ sig, parseMethodDescriptor y.desc = some sig → n = sig.parameters.length) ∧ (Cond.methodLink own index y).before args s = true ∧ (Cond.static y).before args s = true
theorem vx_cwSW {own : String} {index maxL mc ms : Nat} {y : MethodName} {bytes : ByteArray} {ret : Option FieldType} {hh : List (Nat × Nat × Nat × Nat)} {Ts ws ws' : List Cond} {rm : Room} (n : Nat) (ht : ∀ w ∈ Ts, w.before args s = true) (hT : GoodIn Ts (va_wsS own index y ws)) (hw : ws = Cond.codeWith y bytes maxL ret hh :: ws') (hrc : rm.cells = mc) (hrs : rm.slots = ms)
    (hd : y.cls ≠ "java/lang/invoke/MethodHandle" ∧ y.cls ≠ "java/lang/invoke/VarHandle" ∧ (parseMethodDescriptor y.desc).map (fun d => d.parameters.length) = some n) (hR : rm.frames + 1 ≤ R.frames ∧ 8 + (maxL + 11) + rm.locals ≤ R.locals) :
    vx_CSW R s args own index y bytes maxL ret hh ws rm mc ms n := by
  have ok : ∀ w ∈ va_wsS own index y ws, w.before args s = true := fun w h => ht w (hT w h).1
  have hG : GoodIn Ts ws := fun w h => hT w (by unfold va_wsS; exact List.mem_append_right _ h)
  have hc : Cond.codeWith y bytes maxL ret hh ∈ ws := by rw [hw]; exact List.mem_cons_self
  refine ⟨⟨hrc, hrs, hR.1, hR.2, pay_in ht hG, hc⟩, ht _ (hG _ hc).1, ok _ (by simp [va_wsS]), ⟨hd.1, hd.2.1⟩, fun sig h => ?_, ok _ (by simp [va_wsS]), ok _ (by simp [va_wsS])⟩
  have h2 := hd.2.2
  rw [h] at h2
  exact (Option.some.inj h2).symm
theorem vx_callSW (X : Stand p l e R s m args below meth c T locs cells slots) (hexec : p.tables.exec = Jvm.exec) {own : String} {index : Nat} {y : MethodName} {bytes : ByteArray} {maxL : Nat} {ret : Option FieldType} {hh : List (Nat × Nat × Nat × Nat)}
    (hown : s.vm.findClass own = some m.cls) (hlink : (Cond.methodLink own index y).before args s = true) (hstat : (Cond.static y).before args s = true) (hinit : (Cond.initialized y.cls).before args s = true)
    (hcode : (Cond.codeWith y bytes maxL ret hh).before args s = true) (hy : y.cls ≠ "java/lang/invoke/MethodHandle" ∧ y.cls ≠ "java/lang/invoke/VarHandle")
    {W9 : Nat} {Pre : Pt → Array Value → Prop} {Post : Pt → Array Value → Option Value → Pt → Prop} (hK : Back l R p e below s args y 3 W9 Pre Post)
    {g : JFrame} (hg : g.method = m) (hsize : g.locals.size = c.maxLocals) {argsL rest : List Value} (hlen : ∀ sig, parseMethodDescriptor y.desc = some sig → argsL.length = sig.parameters.length)
    (hstack : g.stack = argsL.reverse ++ rest) (hW : 2 * g.monitorRoom + (rest.map fun v => v.category).sum ≤ W9) (hdg : decode c.code g.pc = .ok (.invokestatic index, 3))
    (hpre : ∀ vm₁, s.WarmedH vm₁ → Pre ⟨T.setVm vm₁, locs, cells, slots⟩ argsL.toArray) :
    ∃ (v : Option Value) (vm₁ : Vm) (B : Pt), s.WarmedH vm₁ ∧ Stand p l e R s m args below meth c B.U B.locs B.cells B.slots ∧ Post ⟨T.setVm vm₁, locs, cells, slots⟩ argsL.toArray v B ∧
      ∀ target, Steps p.tables e below (B.U.setTop { g with pc := g.pc + 3, stack := v.toList ++ rest }) target → Steps p.tables e below (T.setTop g) target := by
  obtain ⟨mk, methM, cM, hnamed, hmethM, -, -, -, -, -, -, hsigM⟩ := Cond.codeWith_spec hcode
  have hstatic : methM.isStatic = true := Cond.static_spec hnamed hmethM hstat
  obtain ⟨kP, hkP, -⟩ := className_of_methodNamed hnamed
  have hinitP : kP.init = .initialized := Cond.initialized_spec (findClass_of_methodNamed hnamed) hkP hinit
  obtain ⟨vm₁, X₁, hstep₁⟩ := X.invokestatic hexec hown hlink hnamed hmethM hstatic hkP hinitP hy (g := g) hg (argsL := argsL) (rest := rest) (hlen _ hsigM) hstack hdg
  obtain ⟨v, B, X', hpost, hsteps⟩ := hK m meth c ⟨T.setVm vm₁, locs, cells, slots⟩ { g with stack := rest } (.invokestatic index) mk argsL.toArray X₁ hg hsize hdg hW (X₁.named hnamed) (hpre vm₁ X₁.warmed)
  exact ⟨v, vm₁, B, X₁.warmed, X', hpost, fun target h => hstep₁ _ fun acts => by rw [doInvoke_state]; exact hsteps.trans h⟩
theorem vx_runSW {y : MethodName} {bytes cc : ByteArray} {maxL nL mc ms n index : Nat} {ret : Option FieldType} {hh : List (Nat × Nat × Nat × Nat)} {ws : List Cond} {rm : Room} {Pc : Array Value → State → Prop} {Qc : Array Value → State → Outcome → State → Prop} {free : Addr → Prop} {Ts : List Cond} {own : String} {As rest : List Value} {g : JFrame}
    (S : CallFix p m c cc nL s args Ts own) (hM : Met l y ws rm Pc Qc mc ms free) (cw : vx_CSW R s args own index y bytes maxL ret hh ws rm mc ms n) (hp : PreS s H Pc As)
    (hg : g.method = m) (hn : As.length = n) (hsize : g.locals.size = nL) (hstack : g.stack = As.reverse ++ rest) (hW : 2 * g.monitorRoom + (rest.map fun v => v.category).sum ≤ 8) (hdg : decode cc g.pc = .ok (.invokestatic index, 3)) (hf : cells + mc ≤ R.cells ∧ slots + ms ≤ R.slots) :
    va_Run p l e R s m args below meth c H locs cells slots mc ms g rest (Qc As.toArray) (free) := by
  obtain ⟨⟨hrc, hrs, hfr, hlo, hws, hcw⟩, hcode, hini, hy, hlen, hl, hstt⟩ := cw
  have hK : Back l R p e below s args y 3 8 (PreOf R mc ms Pc) (PostOf Qc mc ms free) := va_backW (hh := hh) (bytes := bytes) (maxL := maxL) (ret := ret) hM hp.1 hrc hrs hfr hlo hws hcw (fun a' U hW => word_at hW (Or.inl (by first | rfl | simp [Cond.onTables, Cond.keeps, Cond.steady])) hini)
  obtain ⟨hx, hb, hml, ho, -⟩ := S
  intro T hT X
  obtain ⟨v, vm₁, ⟨U', l2, c2, s2⟩, hW₁, X', ⟨g', mk, t, L, e1, e2, hq, h1, hL, h2, h3⟩, st⟩ := vx_callSW X hx (hh := hh) (bytes := bytes) (maxL := maxL) (ret := ret) ho hl hstt hini hcode hy hK hg (hsize.trans hml.symm) (argsL := As) (rest := rest) (fun sig h => hn.trans (hlen sig h)) hstack hW (by rw [hb]; exact hdg)
    (fun vm₁ hW₁ => ⟨hf.1, hf.2, hp.2 (T.setVm vm₁) hT hW₁⟩)
  dsimp only [Pt.U, Pt.locs, Pt.cells, Pt.slots] at X' e1 e2 h1 h2 h3 st
  subst h1; subst h2; subst h3
  exact ⟨v, (T.setVm vm₁).calling g' mk As.toArray, t, U', L, hT, X', hL, e1, e2, hq, st⟩
/-- a thing of a world lies in the heap -/
theorem vx_lt {D : va_G} {cl : List vw_C} {ws : va_W} {H1 : Heap} (h : va_P D cl ws H1) {k : Nat} {q : Nat × va_E} (hk : ws[k]? = some q) : q.1 < H1.size := (h k q hk).lt
end VXS
/-! ===== END ===== -/
/-! ===== BEGIN methods with a table of their own: called by a name, returning or throwing ===== -/
section VXH
/-! vx_backW, vx_callVX, vx_callSX, vx_callVW, vx_runVW, vx_runVX, vx_runSX, vx_ofWH follow the same proofs as their sisters above (Free/Laws.lean, Shelf42/LK1.lean); vx_outP calls Shelf42/NT130.lean (outThrough). -/
section
variable {l : Launch} {R : Room} {p : Program} {e : Env} {below : List Frame} {s : State} {sargs : Array Value} {y : MethodName} {len W9 : Nat}
theorem vx_backW {ws : List Cond} {rm : Room} {Pc : Array Value → State → Prop} {Qc : Array Value → State → Outcome → State → Prop} {XC : String → State → State → Prop} {mc ms : Nat} {free : Addr → Prop} {bytes : ByteArray} {maxL : Nat} {ret : Option FieldType} {hh : List (Nat × Nat × Nat × Nat)}
    (hM : vx_Met l y ws rm Pc Qc XC mc ms free) (hblind : FrameBlind Pc) (hrc : rm.cells = mc) (hrs : rm.slots = ms)
    (hframes : rm.frames + 1 ≤ R.frames) (hlocals : W9 + (maxL + 11) + rm.locals ≤ R.locals)
    (hws : ∀ w ∈ ws, ∀ a' U, s.WarmedH U.vm → w.before a' U = true) (hcode : Cond.codeWith y bytes maxL ret hh ∈ ws) (hinit : ∀ a' U, s.WarmedH U.vm → (Cond.initialized y.cls).before a' U = true) :
    vx_Back l R p e below s sargs y len W9 (PreOf R mc ms Pc) (PostOf Qc mc ms free) (vx_Post XC mc ms free) := by
  intro m meth c A g ig mk a X hg hsize hdg hW hn hp
  have h1 : (headSpec ws rm).pre.before a A.U = true := atoms_intro fun w hw => hws w hw _ _ X.warmed
  have h2 : (Cond.codeWith y bytes maxL ret hh).before a A.U = true := hws _ hcode _ _ X.warmed
  have h3 : (Cond.initialized y.cls).before a A.U = true := hinit _ _ X.warmed
  have h4 : A.cells + (headSpec ws rm).room.cells ≤ R.cells := by rw [show (headSpec ws rm).room.cells = mc from hrc]; exact hp.1
  have h5 : A.slots + (headSpec ws rm).room.slots ≤ R.slots := by rw [show (headSpec ws rm).room.slots = ms from hrs]; exact hp.2.1
  have hPc : Pc a (A.U.calling g mk a) := hblind _ _ _ _ hp.2.2
  obtain ⟨U, Ls, c0, s0⟩ := A
  dsimp only [Pt.U, Pt.locs, Pt.cells, Pt.slots] at h1 h2 h3 h4 h5 X hn hPc ⊢
  obtain ⟨m9, methY, cY, hn9, hmY, hcY, -, hlY, -⟩ := Cond.codeWith_spec h2
  cases Option.some.inj (hn9.symm.trans hn)
  obtain ⟨kY, hkY, -⟩ := className_of_methodNamed hn
  have hinitY : kY.init = .initialized := Cond.initialized_spec (findClass_of_methodNamed hn) hkY h3
  have h : At U g.method c below := by rw [hg]; exact X.here
  have hlocals9 : W9 + (maxL + 11) + (headSpec ws rm).room.locals ≤ R.locals := hlocals
  have happ : (headSpec ws rm).appliesLoose y e.platform (U.calling g mk a) = true :=
    Spec.appliesLoose_calling (g := g) h hdg hn hkY hinitY
      (X.room_calling (g := g) (R' := (headSpec ws rm).room) hsize hmY hcY hframes (by rw [hlY]; omega) h4 h5) h1
  obtain ⟨mid, hmid⟩ := h.above
  have hfr : (U.setTop g).frames = (.java g :: mid) ++ below := by rw [State.frames_setTop' g h.top, hmid]; rfl
  obtain ⟨o, s₂, hsteps, -, hend, hq⟩ := Steps.callFree hM p X.admits X.cas X.clock (acts := []) hfr happ hPc trivial
  have hq' : vx_Q Qc XC mc ms free a (U.calling g mk a) o s₂ := hq
  rw [State.frames_setTop' g h.top] at hend
  obtain ⟨g₀, hg0⟩ := Option.isSome_iff_exists.mp h.top
  obtain ⟨r, hr⟩ := State.topJava?_eq_some.mp hg0
  have hr' : (({ U with heap := s₂.heap, slotsUsed := s₂.slotsUsed } : State).setVm s₂.vm).frames = .java g₀ :: r := hr
  rcases hq' with ⟨hqc, L, hfe, hL⟩ | ⟨q, rfl, E, ce, L, hx, hce, hcv, hcl, hW₂, hsm, hL⟩
  · obtain ⟨⟨v, rfl⟩, hW₂, e2, q2, q3, q4, q5, q6⟩ := id hfe
    have e3 : s₂ = ({ (U.calling g mk a).setFrames s₂.frames with heap := s₂.heap, slotsUsed := s₂.slotsUsed } : State).setVm s₂.vm := by
      have : s₂ = ({ s₂ with vm := (U.calling g mk a).vm } : State).setVm s₂.vm := rfl
      rw [e2] at this
      exact this
    obtain ⟨c₂, i₂, len₂, hc₂, hd₂, hf₂⟩ := hend
    have hW' : U.WarmedH s₂.vm := hW₂
    have hcc : c₂ = c := by
      have h1 : s₂.code? g.method = U.code? g.method := by
        rw [State.code?_eq, State.code?_eq, hW'.alike.method?]
      exact Option.some.inj (hc₂.symm.trans (h1.trans h.code))
    subst hcc
    have hlen : len₂ = len := by rw [hdg] at hd₂; cases hd₂; rfl
    subst hlen
    have hs₂ : s₂ = (({ U with heap := s₂.heap, slotsUsed := s₂.slotsUsed } : State).setVm s₂.vm).setTop { g with pc := g.pc + len₂, stack := v.toList ++ g.stack } := by
      refine e3.trans ?_
      rw [hf₂, State.calling_eq h.top, State.setFrames_setFrames, State.setTop_of_frames _ hr', hr]
      rfl
    have hsame : U.sameButNew ({ U with heap := s₂.heap, slotsUsed := s₂.slotsUsed } : State) L mc ms := by
      refine ⟨?_, q2, q3, q4, q5, q6⟩
      obtain ⟨t, ht, -⟩ := State.frames_cons hr
      show ({ U with heap := s₂.heap, slotsUsed := s₂.slotsUsed } : State) = { U.setFrames U.frames with heap := s₂.heap, slotsUsed := s₂.slotsUsed }
      rw [State.setFrames_self ht]
    subst hg
    refine Or.inl ⟨v, ⟨(({ U with heap := s₂.heap, slotsUsed := s₂.slotsUsed } : State).setVm s₂.vm), Ls ++ L, c0 + mc, s0 + ms⟩,
      ⟨X.admits, X.cas, X.clock, X.frames, X.room, X.hears, X.method, X.code, (X.here.setHeapUsed s₂.heap s₂.slotsUsed).setVm hW'.alike, X.tail, State.WarmedH.trans X.warmed hW', X.limits, X.bytes, X.same.trans (hsame.setVm s.vm)⟩,
      ⟨g, mk, s₂, L, rfl, rfl, hqc, rfl, hL, rfl, rfl⟩, ?_⟩
    show Steps p.tables e below _ ((({ U with heap := s₂.heap, slotsUsed := s₂.slotsUsed } : State).setVm s₂.vm).setTop { g with pc := g.pc + len₂, stack := v.toList ++ g.stack })
    rw [← hs₂]
    exact hsteps
  · obtain ⟨e2, q2, q3, q4, q5, q6⟩ := id hsm
    have e3 : s₂ = ({ (U.calling g mk a).setFrames s₂.frames with heap := s₂.heap, slotsUsed := s₂.slotsUsed } : State).setVm s₂.vm := by
      have : s₂ = ({ s₂ with vm := (U.calling g mk a).vm } : State).setVm s₂.vm := rfl
      rw [e2] at this
      exact this
    have hf₂ : s₂.frames = .throwing q :: .java g :: U.frames.tail := hend
    have hW' : U.WarmedH s₂.vm := hW₂
    have hs₂ : s₂ = ((({ U with heap := s₂.heap, slotsUsed := s₂.slotsUsed } : State).setVm s₂.vm).setTop g).pushFrame (.throwing q) := by
      refine e3.trans ?_
      rw [hf₂, State.calling_eq h.top, State.setFrames_setFrames, State.pushFrame, State.frames_setTop _ hr', State.setTop_of_frames _ hr', State.setFrames_setFrames, hr]
      rfl
    have hsame : U.sameButNew ({ U with heap := s₂.heap, slotsUsed := s₂.slotsUsed } : State) L mc ms := by
      refine ⟨?_, q2, q3, q4, q5, q6⟩
      obtain ⟨t, ht, -⟩ := State.frames_cons hr
      show ({ U with heap := s₂.heap, slotsUsed := s₂.slotsUsed } : State) = { U.setFrames U.frames with heap := s₂.heap, slotsUsed := s₂.slotsUsed }
      rw [State.setFrames_self ht]
    subst hg
    refine Or.inr ⟨q, ⟨(({ U with heap := s₂.heap, slotsUsed := s₂.slotsUsed } : State).setVm s₂.vm), Ls ++ L, c0 + mc, s0 + ms⟩,
      ⟨X.admits, X.cas, X.clock, X.frames, X.room, X.hears, X.method, X.code, (X.here.setHeapUsed s₂.heap s₂.slotsUsed).setVm hW'.alike, X.tail, State.WarmedH.trans X.warmed hW', X.limits, X.bytes, X.same.trans (hsame.setVm s.vm)⟩,
      ⟨g, mk, s₂, L, E, ce, rfl, rfl, hx, hce, hcv, hcl, rfl, hL, rfl, rfl⟩, ?_⟩
    show Steps p.tables e below _ (((({ U with heap := s₂.heap, slotsUsed := s₂.slotsUsed } : State).setVm s₂.vm).setTop g).pushFrame (.throwing q))
    rw [← hs₂]
    exact hsteps
end
variable {p : Program} {l : Launch} {e : Env} {R : Room} {s : State} {m : MethodId} {args : Array Value} {below : List Frame} {meth : Method} {c : Code} {T : State} {H : Heap} {locs : List Loc} {cells slots : Nat}
theorem vx_callVX (X : Stand p l e R s m args below meth c T locs cells slots) (hexec : p.tables.exec = Jvm.exec) {own C : String} {index : Nat} {y : MethodName} {bytes : ByteArray} {maxL : Nat} {ret : Option FieldType} {hh : List (Nat × Nat × Nat × Nat)}
    (hown : s.vm.findClass own = some m.cls) (hlink : (Cond.methodLink own index y).before args s = true) (hinst : (Cond.instanceMethod y).before args s = true) (hsel : (Cond.selects C y y).before args s = true)
    (hcode : (Cond.codeWith y bytes maxL ret hh).before args s = true) (hy : y.cls ≠ "java/lang/invoke/MethodHandle" ∧ y.cls ≠ "java/lang/invoke/VarHandle")
    {W9 : Nat} {Pre : Pt → Array Value → Prop} {Post : Pt → Array Value → Option Value → Pt → Prop} {PostX : Pt → Array Value → Addr → Pt → Prop} (hK : vx_Back l R p e below s args y 3 W9 Pre Post PostX)
    {b : Addr} {cellB : Cell} (hcell : T.heap[b]? = some cellB) (hobj : cellB.vm.isStatics = false) (hcls : s.vm.findClass C = some cellB.cls)
    {g : JFrame} (hg : g.method = m) (hsize : g.locals.size = c.maxLocals) {argsL rest : List Value} (hlen : ∀ sig, parseMethodDescriptor y.desc = some sig → argsL.length = sig.parameters.length)
    (hstack : g.stack = argsL.reverse ++ .ref b :: rest) (hW : 2 * g.monitorRoom + (rest.map fun v => v.category).sum ≤ W9) (hdg : decode c.code g.pc = .ok (.invokevirtual index, 3))
    (hpre : ∀ vm₁, s.WarmedH vm₁ → Pre ⟨T.setVm vm₁, locs, cells, slots⟩ (Value.ref b :: argsL).toArray) :
    (∃ (v : Option Value) (vm₁ : Vm) (B : Pt), s.WarmedH vm₁ ∧ Stand p l e R s m args below meth c B.U B.locs B.cells B.slots ∧ Post ⟨T.setVm vm₁, locs, cells, slots⟩ (Value.ref b :: argsL).toArray v B ∧
      ∀ target, Steps p.tables e below (B.U.setTop { g with pc := g.pc + 3, stack := v.toList ++ rest }) target → Steps p.tables e below (T.setTop g) target) ∨
    (∃ (q : Addr) (vm₁ : Vm) (B : Pt), s.WarmedH vm₁ ∧ Stand p l e R s m args below meth c B.U B.locs B.cells B.slots ∧ PostX ⟨T.setVm vm₁, locs, cells, slots⟩ (Value.ref b :: argsL).toArray q B ∧
      Steps p.tables e below (T.setTop g) ((B.U.setTop { g with stack := rest }).pushFrame (.throwing q))) := by
  obtain ⟨mk, methM, hnamed, hmethM, hstM, habM⟩ := Cond.instanceMethod_spec hinst
  obtain ⟨m8, methM', cM, hn8, hmethM', -, -, -, -, -, -, hsigM⟩ := Cond.codeWith_spec hcode
  cases Option.some.inj (hn8.symm.trans hnamed)
  cases hmethM.symm.trans hmethM'
  obtain ⟨c2, r2, m2, q1, q2, q3, q4, kP, hkP, hkPi⟩ := Cond.selects_spec hsel
  cases hcls.symm.trans q1
  cases (State.methodFound?_of_named hnamed hy).symm.trans q2
  cases hnamed.symm.trans q3
  have hselP : selectMethod e.platform s.vm cellB.cls mk = .method mk := by rw [Launch.admits_selectMethod X.admits]; exact q4
  obtain ⟨vm₁, X₁, hstep₁⟩ := X.invokevirtual hexec hown hlink hnamed hmethM hstM hkP hkPi hy (a := b) (cell := cellB) hcell
    (fun z h => by rw [h] at hobj; cases hobj) hselP hmethM habM hkP hkPi (g := g) hg (argsL := argsL) (rest := rest) (hlen _ hsigM) hstack hdg
  rcases hK m meth c ⟨T.setVm vm₁, locs, cells, slots⟩ { g with stack := rest } (.invokevirtual index) mk (Value.ref b :: argsL).toArray X₁ hg hsize hdg hW (X₁.named hnamed) (hpre vm₁ X₁.warmed) with ⟨v, B, X', hpost, hsteps⟩ | ⟨q, B, X', hpost, hsteps⟩
  · exact Or.inl ⟨v, vm₁, B, X₁.warmed, X', hpost, fun target h => hstep₁ _ fun acts => by rw [doInvoke_state]; exact hsteps.trans h⟩
  · exact Or.inr ⟨q, vm₁, B, X₁.warmed, X', hpost, hstep₁ _ fun acts => by rw [doInvoke_state]; exact hsteps⟩
theorem vx_callSX (X : Stand p l e R s m args below meth c T locs cells slots) (hexec : p.tables.exec = Jvm.exec) {own : String} {index : Nat} {y : MethodName} {bytes : ByteArray} {maxL : Nat} {ret : Option FieldType} {hh : List (Nat × Nat × Nat × Nat)}
    (hown : s.vm.findClass own = some m.cls) (hlink : (Cond.methodLink own index y).before args s = true) (hstat : (Cond.static y).before args s = true) (hinit : (Cond.initialized y.cls).before args s = true)
    (hcode : (Cond.codeWith y bytes maxL ret hh).before args s = true) (hy : y.cls ≠ "java/lang/invoke/MethodHandle" ∧ y.cls ≠ "java/lang/invoke/VarHandle")
    {W9 : Nat} {Pre : Pt → Array Value → Prop} {Post : Pt → Array Value → Option Value → Pt → Prop} {PostX : Pt → Array Value → Addr → Pt → Prop} (hK : vx_Back l R p e below s args y 3 W9 Pre Post PostX)
    {g : JFrame} (hg : g.method = m) (hsize : g.locals.size = c.maxLocals) {argsL rest : List Value} (hlen : ∀ sig, parseMethodDescriptor y.desc = some sig → argsL.length = sig.parameters.length)
    (hstack : g.stack = argsL.reverse ++ rest) (hW : 2 * g.monitorRoom + (rest.map fun v => v.category).sum ≤ W9) (hdg : decode c.code g.pc = .ok (.invokestatic index, 3))
    (hpre : ∀ vm₁, s.WarmedH vm₁ → Pre ⟨T.setVm vm₁, locs, cells, slots⟩ argsL.toArray) :
    (∃ (v : Option Value) (vm₁ : Vm) (B : Pt), s.WarmedH vm₁ ∧ Stand p l e R s m args below meth c B.U B.locs B.cells B.slots ∧ Post ⟨T.setVm vm₁, locs, cells, slots⟩ argsL.toArray v B ∧
      ∀ target, Steps p.tables e below (B.U.setTop { g with pc := g.pc + 3, stack := v.toList ++ rest }) target → Steps p.tables e below (T.setTop g) target) ∨
    (∃ (q : Addr) (vm₁ : Vm) (B : Pt), s.WarmedH vm₁ ∧ Stand p l e R s m args below meth c B.U B.locs B.cells B.slots ∧ PostX ⟨T.setVm vm₁, locs, cells, slots⟩ argsL.toArray q B ∧
      Steps p.tables e below (T.setTop g) ((B.U.setTop { g with stack := rest }).pushFrame (.throwing q))) := by
  obtain ⟨mk, methM, cM, hnamed, hmethM, -, -, -, -, -, -, hsigM⟩ := Cond.codeWith_spec hcode
  have hstatic : methM.isStatic = true := Cond.static_spec hnamed hmethM hstat
  obtain ⟨kP, hkP, -⟩ := className_of_methodNamed hnamed
  have hinitP : kP.init = .initialized := Cond.initialized_spec (findClass_of_methodNamed hnamed) hkP hinit
  obtain ⟨vm₁, X₁, hstep₁⟩ := X.invokestatic hexec hown hlink hnamed hmethM hstatic hkP hinitP hy (g := g) hg (argsL := argsL) (rest := rest) (hlen _ hsigM) hstack hdg
  rcases hK m meth c ⟨T.setVm vm₁, locs, cells, slots⟩ { g with stack := rest } (.invokestatic index) mk argsL.toArray X₁ hg hsize hdg hW (X₁.named hnamed) (hpre vm₁ X₁.warmed) with ⟨v, B, X', hpost, hsteps⟩ | ⟨q, B, X', hpost, hsteps⟩
  · exact Or.inl ⟨v, vm₁, B, X₁.warmed, X', hpost, fun target h => hstep₁ _ fun acts => by rw [doInvoke_state]; exact hsteps.trans h⟩
  · exact Or.inr ⟨q, vm₁, B, X₁.warmed, X', hpost, hstep₁ _ fun acts => by rw [doInvoke_state]; exact hsteps⟩
theorem vx_callVW (X : Stand p l e R s m args below meth c T locs cells slots) (hexec : p.tables.exec = Jvm.exec) {own C : String} {index : Nat} {y : MethodName} {bytes : ByteArray} {maxL : Nat} {ret : Option FieldType} {hh : List (Nat × Nat × Nat × Nat)}
    (hown : s.vm.findClass own = some m.cls) (hlink : (Cond.methodLink own index y).before args s = true) (hinst : (Cond.instanceMethod y).before args s = true) (hsel : (Cond.selects C y y).before args s = true)
    (hcode : (Cond.codeWith y bytes maxL ret hh).before args s = true) (hy : y.cls ≠ "java/lang/invoke/MethodHandle" ∧ y.cls ≠ "java/lang/invoke/VarHandle")
    {W9 : Nat} {Pre : Pt → Array Value → Prop} {Post : Pt → Array Value → Option Value → Pt → Prop} (hK : Back l R p e below s args y 3 W9 Pre Post)
    {b : Addr} {cellB : Cell} (hcell : T.heap[b]? = some cellB) (hobj : cellB.vm.isStatics = false) (hcls : s.vm.findClass C = some cellB.cls)
    {g : JFrame} (hg : g.method = m) (hsize : g.locals.size = c.maxLocals) {argsL rest : List Value} (hlen : ∀ sig, parseMethodDescriptor y.desc = some sig → argsL.length = sig.parameters.length)
    (hstack : g.stack = argsL.reverse ++ .ref b :: rest) (hW : 2 * g.monitorRoom + (rest.map fun v => v.category).sum ≤ W9) (hdg : decode c.code g.pc = .ok (.invokevirtual index, 3))
    (hpre : ∀ vm₁, s.WarmedH vm₁ → Pre ⟨T.setVm vm₁, locs, cells, slots⟩ (Value.ref b :: argsL).toArray) :
    ∃ (v : Option Value) (vm₁ : Vm) (B : Pt), s.WarmedH vm₁ ∧ Stand p l e R s m args below meth c B.U B.locs B.cells B.slots ∧ Post ⟨T.setVm vm₁, locs, cells, slots⟩ (Value.ref b :: argsL).toArray v B ∧
      ∀ target, Steps p.tables e below (B.U.setTop { g with pc := g.pc + 3, stack := v.toList ++ rest }) target → Steps p.tables e below (T.setTop g) target := by
  obtain ⟨mk, methM, hnamed, hmethM, hstM, habM⟩ := Cond.instanceMethod_spec hinst
  obtain ⟨m8, methM', cM, hn8, hmethM', -, -, -, -, -, -, hsigM⟩ := Cond.codeWith_spec hcode
  cases Option.some.inj (hn8.symm.trans hnamed)
  cases hmethM.symm.trans hmethM'
  obtain ⟨c2, r2, m2, q1, q2, q3, q4, kP, hkP, hkPi⟩ := Cond.selects_spec hsel
  cases hcls.symm.trans q1
  cases (State.methodFound?_of_named hnamed hy).symm.trans q2
  cases hnamed.symm.trans q3
  have hselP : selectMethod e.platform s.vm cellB.cls mk = .method mk := by rw [Launch.admits_selectMethod X.admits]; exact q4
  obtain ⟨vm₁, X₁, hstep₁⟩ := X.invokevirtual hexec hown hlink hnamed hmethM hstM hkP hkPi hy (a := b) (cell := cellB) hcell
    (fun z h => by rw [h] at hobj; cases hobj) hselP hmethM habM hkP hkPi (g := g) hg (argsL := argsL) (rest := rest) (hlen _ hsigM) hstack hdg
  obtain ⟨v, B, X', hpost, hsteps⟩ := hK m meth c ⟨T.setVm vm₁, locs, cells, slots⟩ { g with stack := rest } (.invokevirtual index) mk (Value.ref b :: argsL).toArray X₁ hg hsize hdg hW (X₁.named hnamed) (hpre vm₁ X₁.warmed)
  exact ⟨v, vm₁, B, X₁.warmed, X', hpost, fun target h => hstep₁ _ fun acts => by rw [doInvoke_state]; exact hsteps.trans h⟩
abbrev vx_CVW (R : Room) (s : State) (args : Array Value) (own C : String) (index : Nat) (y : MethodName) (bytes : ByteArray) (maxL : Nat) (ret : Option FieldType) (hh : List (Nat × Nat × Nat × Nat)) (ws : List Cond) (rm : Room) (mc ms n : Nat) : Prop :=
  (rm.cells = mc ∧ rm.slots = ms ∧ rm.frames + 1 ≤ R.frames ∧ 8 + (maxL + 11) + rm.locals ≤ R.locals ∧ (∀ w ∈ ws, ∀ (a' : Array Value) (U : State), s.WarmedH U.vm → w.before a' U = true) ∧ Cond.codeWith y bytes maxL ret hh ∈ ws) ∧
  (Cond.codeWith y bytes maxL ret hh).before args s = true ∧ (Cond.initialized y.cls).before args s = true ∧ (y.cls ≠ "java/lang/invoke/MethodHandle" ∧ y.cls ≠ "java/lang/invoke/VarHandle") ∧
  (∀ sig, parseMethodDescriptor y.desc = some sig → n = sig.parameters.length) ∧ (Cond.methodLink own index y).before args s = true ∧ (Cond.instanceMethod y).before args s = true ∧ (Cond.selects C y y).before args s = true
theorem vx_cwVW {own C : String} {index maxL mc ms : Nat} {y : MethodName} {bytes : ByteArray} {ret : Option FieldType} {hh : List (Nat × Nat × Nat × Nat)} {Ts ws ws' : List Cond} {rm : Room} (n : Nat) (ht : ∀ w ∈ Ts, w.before args s = true) (hT : GoodIn Ts (wsV own index C y ws)) (hw : ws = Cond.codeWith y bytes maxL ret hh :: ws') (hrc : rm.cells = mc) (hrs : rm.slots = ms)
    (hd : y.cls = C ∧ y.cls ≠ "java/lang/invoke/MethodHandle" ∧ y.cls ≠ "java/lang/invoke/VarHandle" ∧ (parseMethodDescriptor y.desc).map (fun d => d.parameters.length) = some n) (hR : rm.frames + 1 ≤ R.frames ∧ 8 + (maxL + 11) + rm.locals ≤ R.locals) :
    vx_CVW R s args own C index y bytes maxL ret hh ws rm mc ms n := by
  obtain ⟨hC, hd⟩ := hd
  subst hC
  have ok : ∀ w ∈ wsV own index y.cls y ws, w.before args s = true := fun w h => ht w (hT w h).1
  have hG : GoodIn Ts ws := fun w h => hT w (by unfold wsV; exact List.mem_append_right _ h)
  have hc : Cond.codeWith y bytes maxL ret hh ∈ ws := by rw [hw]; exact List.mem_cons_self
  refine ⟨⟨hrc, hrs, hR.1, hR.2, pay_in ht hG, hc⟩, ht _ (hG _ hc).1, ok _ (by simp [wsV]), ⟨hd.1, hd.2.1⟩, fun sig h => ?_, ok _ (by simp [wsV]), ok _ (by simp [wsV]), ok _ (by simp [wsV])⟩
  have h2 := hd.2.2
  rw [h] at h2
  exact (Option.some.inj h2).symm
theorem vx_runVW {y : MethodName} {bytes cc : ByteArray} {maxL nL mc ms n index : Nat} {ret : Option FieldType} {hh : List (Nat × Nat × Nat × Nat)} {ws : List Cond} {rm : Room} {Pc : Array Value → State → Prop} {Qc : Array Value → State → Outcome → State → Prop} {free : Addr → Prop} {Ts : List Cond} {own C : String} {b : Addr} {As rest : List Value} {g : JFrame}
    (S : CallFix p m c cc nL s args Ts own) (hM : Met l y ws rm Pc Qc mc ms free) (cw : vx_CVW R s args own C index y bytes maxL ret hh ws rm mc ms n) (hp : PreV s H C b Pc As)
    (hg : g.method = m) (hn : As.length = n) (hsize : g.locals.size = nL) (hstack : g.stack = As.reverse ++ .ref b :: rest) (hW : 2 * g.monitorRoom + (rest.map fun v => v.category).sum ≤ 8) (hdg : decode cc g.pc = .ok (.invokevirtual index, 3)) (hf : cells + mc ≤ R.cells ∧ slots + ms ≤ R.slots) :
    va_Run p l e R s m args below meth c H locs cells slots mc ms g rest (Qc (Value.ref b :: As).toArray) free := by
  obtain ⟨⟨hrc, hrs, hfr, hlo, hws, hcw⟩, hcode, hini, hy, hlen, hl, hin, hse⟩ := cw
  have hK : Back l R p e below s args y 3 8 (PreOf R mc ms Pc) (PostOf Qc mc ms free) := va_backW (hh := hh) (bytes := bytes) (maxL := maxL) (ret := ret) hM hp.1 hrc hrs hfr hlo hws hcw (fun a' U hW => word_at hW (Or.inl (by first | rfl | simp [Cond.onTables, Cond.keeps, Cond.steady])) hini)
  obtain ⟨hx, hb, hml, ho, -⟩ := S
  obtain ⟨-, ⟨cellB, hcB, hoB, hclB⟩, hPc⟩ := hp
  intro T hT X
  obtain ⟨v, vm₁, ⟨U', l2, c2, s2⟩, hW₁, X', ⟨g', mk, t, L, e1, e2, hq, h1, hL, h2, h3⟩, st⟩ := vx_callVW X hx (C := C) (hh := hh) (bytes := bytes) (maxL := maxL) (ret := ret) ho hl hin hse hcode hy hK (by rw [hT]; exact hcB) hoB hclB hg (hsize.trans hml.symm) (argsL := As) (rest := rest) (fun sig h => hn.trans (hlen sig h)) hstack hW (by rw [hb]; exact hdg)
    (fun vm₁ hW₁ => ⟨hf.1, hf.2, hPc (T.setVm vm₁) hT hW₁⟩)
  dsimp only [Pt.U, Pt.locs, Pt.cells, Pt.slots] at X' e1 e2 h1 h2 h3 st
  subst h1; subst h2; subst h3
  exact ⟨v, (T.setVm vm₁).calling g' mk (Value.ref b :: As).toArray, t, U', L, hT, X', hL, e1, e2, hq, st⟩
section
variable {y : MethodName} {bytes cc : ByteArray} {maxL nL mc ms n index : Nat} {ret : Option FieldType} {ws : List Cond} {rm : Room} {Pc : Array Value → State → Prop} {Qc : Array Value → State → Outcome → State → Prop} {XC : String → State → State → Prop} {free : Addr → Prop} {Ts : List Cond} {own C : String} {b : Addr} {As rest : List Value} {g : JFrame}
theorem vx_runVX {hh : List (Nat × Nat × Nat × Nat)} (S : CallFix p m c cc nL s args Ts own) (hM : vx_Met l y ws rm Pc Qc XC mc ms free) (cw : vx_CVW R s args own C index y bytes maxL ret hh ws rm mc ms n) (hp : PreV s H C b Pc As)
    (hg : g.method = m) (hn : As.length = n) (hsize : g.locals.size = nL) (hstack : g.stack = As.reverse ++ .ref b :: rest) (hW : 2 * g.monitorRoom + (rest.map fun v => v.category).sum ≤ 8) (hdg : decode cc g.pc = .ok (.invokevirtual index, 3)) (hf : cells + mc ≤ R.cells ∧ slots + ms ≤ R.slots) :
    vx_Run p l e R s m args below meth c H locs cells slots mc ms g rest (Qc (Value.ref b :: As).toArray) XC free := by
  obtain ⟨⟨hrc, hrs, hfr, hlo, hws, hcw⟩, hcode, hini, hy, hlen, hl, hin, hse⟩ := cw
  have hK : vx_Back l R p e below s args y 3 8 (PreOf R mc ms Pc) (PostOf Qc mc ms free) (vx_Post XC mc ms free) := vx_backW (hh := hh) (bytes := bytes) (maxL := maxL) (ret := ret) hM hp.1 hrc hrs hfr hlo hws hcw (fun a' U hW => word_at hW (Or.inl (by first | rfl | simp [Cond.onTables, Cond.keeps, Cond.steady])) hini)
  obtain ⟨hx, hb, hml, ho, -⟩ := S
  obtain ⟨-, ⟨cellB, hcB, hoB, hclB⟩, hPc⟩ := hp
  intro T hT X
  rcases vx_callVX X hx (C := C) (hh := hh) (bytes := bytes) (maxL := maxL) (ret := ret) ho hl hin hse hcode hy hK (by rw [hT]; exact hcB) hoB hclB hg (hsize.trans hml.symm) (argsL := As) (rest := rest) (fun sig h => hn.trans (hlen sig h)) hstack hW (by rw [hb]; exact hdg)
    (fun vm₁ hW₁ => ⟨hf.1, hf.2, hPc (T.setVm vm₁) hT hW₁⟩) with ⟨v, vm₁, ⟨U', l2, c2, s2⟩, hW₁, X', ⟨g', mk, t, L, e1, e2, hq, h1, hL, h2, h3⟩, st⟩ | ⟨q, vm₁, ⟨U', l2, c2, s2⟩, hW₁, X', ⟨g', mk, t, L, E, ce, e1, e2, hq, hce, hcv, hcl, h1, hL, h2, h3⟩, st⟩
  · dsimp only [Pt.U, Pt.locs, Pt.cells, Pt.slots] at X' e1 e2 h1 h2 h3 st
    subst h1; subst h2; subst h3
    exact Or.inl ⟨v, (T.setVm vm₁).calling g' mk (Value.ref b :: As).toArray, t, U', L, hT, X', hL, e1, e2, hq, st⟩
  · dsimp only [Pt.U, Pt.locs, Pt.cells, Pt.slots] at X' e1 e2 h1 h2 h3 st hcl
    subst h1; subst h2; subst h3
    exact Or.inr ⟨q, (T.setVm vm₁).calling g' mk (Value.ref b :: As).toArray, t, U', L, E, ce, hT, X', hL, e1, e2, hq, hce, hcv, vx_cls hW₁ hcl, st⟩
theorem vx_runSX {hh : List (Nat × Nat × Nat × Nat)} (S : CallFix p m c cc nL s args Ts own) (hM : vx_Met l y ws rm Pc Qc XC mc ms free) (cw : vx_CSW R s args own index y bytes maxL ret hh ws rm mc ms n) (hp : PreS s H Pc As)
    (hg : g.method = m) (hn : As.length = n) (hsize : g.locals.size = nL) (hstack : g.stack = As.reverse ++ rest) (hW : 2 * g.monitorRoom + (rest.map fun v => v.category).sum ≤ 8) (hdg : decode cc g.pc = .ok (.invokestatic index, 3)) (hf : cells + mc ≤ R.cells ∧ slots + ms ≤ R.slots) :
    vx_Run p l e R s m args below meth c H locs cells slots mc ms g rest (Qc As.toArray) XC free := by
  obtain ⟨⟨hrc, hrs, hfr, hlo, hws, hcw⟩, hcode, hini, hy, hlen, hl, hstt⟩ := cw
  have hK : vx_Back l R p e below s args y 3 8 (PreOf R mc ms Pc) (PostOf Qc mc ms free) (vx_Post XC mc ms free) := vx_backW (hh := hh) (bytes := bytes) (maxL := maxL) (ret := ret) hM hp.1 hrc hrs hfr hlo hws hcw (fun a' U hW => word_at hW (Or.inl (by first | rfl | simp [Cond.onTables, Cond.keeps, Cond.steady])) hini)
  obtain ⟨hx, hb, hml, ho, -⟩ := S
  intro T hT X
  rcases vx_callSX X hx (hh := hh) (bytes := bytes) (maxL := maxL) (ret := ret) ho hl hstt hini hcode hy hK hg (hsize.trans hml.symm) (argsL := As) (rest := rest) (fun sig h => hn.trans (hlen sig h)) hstack hW (by rw [hb]; exact hdg)
    (fun vm₁ hW₁ => ⟨hf.1, hf.2, hp.2 (T.setVm vm₁) hT hW₁⟩) with ⟨v, vm₁, ⟨U', l2, c2, s2⟩, hW₁, X', ⟨g', mk, t, L, e1, e2, hq, h1, hL, h2, h3⟩, st⟩ | ⟨q, vm₁, ⟨U', l2, c2, s2⟩, hW₁, X', ⟨g', mk, t, L, E, ce, e1, e2, hq, hce, hcv, hcl, h1, hL, h2, h3⟩, st⟩
  · dsimp only [Pt.U, Pt.locs, Pt.cells, Pt.slots] at X' e1 e2 h1 h2 h3 st
    subst h1; subst h2; subst h3
    exact Or.inl ⟨v, (T.setVm vm₁).calling g' mk As.toArray, t, U', L, hT, X', hL, e1, e2, hq, st⟩
  · dsimp only [Pt.U, Pt.locs, Pt.cells, Pt.slots] at X' e1 e2 h1 h2 h3 st hcl
    subst h1; subst h2; subst h3
    exact Or.inr ⟨q, (T.setVm vm₁).calling g' mk As.toArray, t, U', L, E, ce, hT, X', hL, e1, e2, hq, hce, hcv, vx_cls hW₁ hcl, st⟩
end
end VXH
theorem vx_ofWH {l : Launch} {y : MethodName} {ws ws' : List Cond} {rm : Room} {Pc : Array Value → State → Prop} {Qc : Array Value → State → Outcome → State → Prop} {XC : String → State → State → Prop} {mc ms : Nat} {free : Addr → Prop} {cc : ByteArray} {maxL : Nat} {ret : Option FieldType} {hh : List (Nat × Nat × Nat × Nat)}
    (hy : plainName y.cls = true) (hw : ws = Cond.codeWith y cc maxL ret hh :: ws')
    (body : ∀ p e s m args below meth c s₁, BodyLoose p l y (headSpec ws rm) cc maxL ret e s m args below meth c s₁ → c.maxLocals = maxL → Pc args s →
      W p l e (headSpec ws rm).room s m args below meth c s.heap [] 0 0 (vx_MQ below Qc XC args s mc ms free) (entryFrame m args maxL)) : vx_Met l y ws rm Pc Qc XC mc ms free := by
  refine MetFree.of_bodyS (code := cc) (maxLocals := maxL) (ret := ret) hy ?_ ?_
  · intro args s m h hn
    obtain ⟨m9, meth, c, hn9, h1, h2, h3, h4, -, h5, h6, -⟩ := Cond.codeWith_spec (atoms_spec (ws := ws) h _ (by rw [hw]; exact List.mem_cons_self))
    cases hn.symm.trans hn9
    exact ⟨meth, c, h1, h2, h3, h4, h5, h6⟩
  · intro p e s m args below meth c s₁ B hml hP _
    have hh0 : s₁.heap = s.heap := by rw [B.state]; rfl
    obtain ⟨t, a1, o, b1, b2, b3⟩ := body p e s m args below meth c s₁ B hml hP s₁ hh0 (Stand.of_body B)
    exact ⟨t, o, a1, b1, b2, b3⟩
/-! ===== END ===== -/

/-! ===== BEGIN printed: names, fields, word lists, decode rows ===== -/
end
section
def RX0 : String := "DeskStack$Decimal"
def TX0 : u_T := fun k => match k with
  | _ => ("", "", "", false)
def tyX0 : Nat → FieldType := fun k => match k with
  | _ => .int
abbrev wsX00 : List Cond := u_ws RX0 TX0 0
theorem nmX0 : ∀ a, a < 0 → ∀ b, b < 0 → a ≠ b → (TX0 a).2.1 ≠ (TX0 b).2.1 := by decide +kernel
theorem tyX0_ok : ∀ k, k < 0 → parseFieldDescriptor (TX0 k).2.2.1 = some (tyX0 k) := by decide +kernel
abbrev cX0_sum : ByteArray := prog_2_method_2_code
def yX0_sum : MethodName := ⟨RX0, "sum", "(JIJI)J"⟩
abbrev cX0_order : ByteArray := prog_2_method_3_code
def yX0_order : MethodName := ⟨RX0, "order", "(JIJI)I"⟩
abbrev cX0_times : ByteArray := prog_2_method_4_code
def yX0_times : MethodName := ⟨RX0, "times", "(JJ)J"⟩
abbrev cX0_quotient : ByteArray := prog_2_method_5_code
def yX0_quotient : MethodName := ⟨RX0, "quotient", "(JIJII)J"⟩
abbrev cX0_remainder : ByteArray := prog_2_method_6_code
def yX0_remainder : MethodName := ⟨RX0, "remainder", "(JIJII)J"⟩
abbrev cX0_root : ByteArray := prog_2_method_7_code
def yX0_root : MethodName := ⟨RX0, "root", "(JII)J"⟩
abbrev cX0_asPlaces : ByteArray := prog_2_method_8_code
def yX0_asPlaces : MethodName := ⟨RX0, "asPlaces", "(JI)I"⟩
abbrev cX0_cutOff : ByteArray := prog_2_method_9_code
def yX0_cutOff : MethodName := ⟨RX0, "cutOff", "(JI)J"⟩
abbrev cX0_raise : ByteArray := prog_2_method_10_code
def yX0_raise : MethodName := ⟨RX0, "raise", "(JI)J"⟩
abbrev cX0_powerOfTen : ByteArray := prog_2_method_11_code
def yX0_powerOfTen : MethodName := ⟨RX0, "powerOfTen", "(I)J"⟩
abbrev cX0_divide : ByteArray := prog_2_method_12_code
def yX0_divide : MethodName := ⟨RX0, "divide", "(JJ)J"⟩
abbrev cX0_fitting : ByteArray := prog_2_method_13_code
def yX0_fitting : MethodName := ⟨RX0, "fitting", "(J)J"⟩
def RX1 : String := "DeskStack$Nest"
def TX1 : u_T := fun k => match k with
  | 0 => ("DeskStack$Nest", "rows", "[LDeskStack$Row;", true)
  | 1 => ("DeskStack$Nest", "positions", "[I", true)
  | 2 => ("DeskStack$Nest", "ends", "[I", true)
  | _ => ("DeskStack$Nest", "count", "I", false)
def tyX1 : Nat → FieldType := fun k => match k with
  | 0 => .array (.object "DeskStack$Row")
  | 1 => .array .int
  | 2 => .array .int
  | _ => .int
abbrev wsX10 : List Cond := u_ws RX1 TX1 4
theorem nmX1 : ∀ a, a < 4 → ∀ b, b < 4 → a ≠ b → (TX1 a).2.1 ≠ (TX1 b).2.1 := by decide +kernel
theorem tyX1_ok : ∀ k, k < 4 → parseFieldDescriptor (TX1 k).2.2.1 = some (tyX1 k) := by decide +kernel
abbrev cX1_init : ByteArray := prog_3_method_1_code
def yX1_init : MethodName := ⟨RX1, "<init>", "()V"⟩
abbrev cX1_isUnderWay : ByteArray := prog_3_method_2_code
def yX1_isUnderWay : MethodName := ⟨RX1, "isUnderWay", "()Z"⟩
abbrev cX1_enter : ByteArray := prog_3_method_3_code
def yX1_enter : MethodName := ⟨RX1, "enter", "(LDeskStack$Row;II)V"⟩
abbrev cX1_enterMacro : ByteArray := prog_3_method_4_code
def yX1_enterMacro : MethodName := ⟨RX1, "enterMacro", "(LDeskStack$Row;II)V"⟩
abbrev cX1_leave : ByteArray := prog_3_method_5_code
def yX1_leave : MethodName := ⟨RX1, "leave", "()V"⟩
abbrev cX1_leaveAll : ByteArray := prog_3_method_6_code
def yX1_leaveAll : MethodName := ⟨RX1, "leaveAll", "()V"⟩
abbrev cX1_innermostRow : ByteArray := prog_3_method_7_code
def yX1_innermostRow : MethodName := ⟨RX1, "innermostRow", "()LDeskStack$Row;"⟩
abbrev cX1_position : ByteArray := prog_3_method_8_code
def yX1_position : MethodName := ⟨RX1, "position", "()I"⟩
abbrev cX1_look : ByteArray := prog_3_method_9_code
def yX1_look : MethodName := ⟨RX1, "look", "()I"⟩
abbrev cX1_pass : ByteArray := prog_3_method_10_code
def yX1_pass : MethodName := ⟨RX1, "pass", "()V"⟩
abbrev cX1_skipBlanks : ByteArray := prog_3_method_11_code
def yX1_skipBlanks : MethodName := ⟨RX1, "skipBlanks", "()V"⟩
def RX2 : String := "DeskStack$Row"
def TX2 : u_T := fun k => match k with
  | 0 => ("DeskStack$Row", "chars", "[B", true)
  | _ => ("DeskStack$Row", "size", "I", false)
def tyX2 : Nat → FieldType := fun k => match k with
  | 0 => .array .byte
  | _ => .int
abbrev wsX20 : List Cond := u_ws RX2 TX2 2
theorem nmX2 : ∀ a, a < 2 → ∀ b, b < 2 → a ≠ b → (TX2 a).2.1 ≠ (TX2 b).2.1 := by decide +kernel
theorem tyX2_ok : ∀ k, k < 2 → parseFieldDescriptor (TX2 k).2.2.1 = some (tyX2 k) := by decide +kernel
abbrev cX2_init : ByteArray := prog_4_method_1_code
def yX2_init : MethodName := ⟨RX2, "<init>", "()V"⟩
abbrev cX2_append : ByteArray := prog_4_method_2_code
def yX2_append : MethodName := ⟨RX2, "append", "(I)V"⟩
abbrev cX2_charAt : ByteArray := prog_4_method_3_code
def yX2_charAt : MethodName := ⟨RX2, "charAt", "(I)I"⟩
def RX3 : String := "DeskStack$Shelf"
def TX3 : u_T := fun k => match k with
  | 0 => ("DeskStack$Shelf", "values", "[J", true)
  | 1 => ("DeskStack$Shelf", "places", "[I", true)
  | 2 => ("DeskStack$Shelf", "rows", "[LDeskStack$Row;", true)
  | 3 => ("DeskStack$Shelf", "starts", "[I", true)
  | _ => ("DeskStack$Shelf", "count", "I", false)
def tyX3 : Nat → FieldType := fun k => match k with
  | 0 => .array .long
  | 1 => .array .int
  | 2 => .array (.object "DeskStack$Row")
  | 3 => .array .int
  | _ => .int
abbrev wsX30 : List Cond := u_ws RX3 TX3 5
theorem nmX3 : ∀ a, a < 5 → ∀ b, b < 5 → a ≠ b → (TX3 a).2.1 ≠ (TX3 b).2.1 := by decide +kernel
theorem tyX3_ok : ∀ k, k < 5 → parseFieldDescriptor (TX3 k).2.2.1 = some (tyX3 k) := by decide +kernel
abbrev cX3_init : ByteArray := prog_5_method_1_code
def yX3_init : MethodName := ⟨RX3, "<init>", "(I)V"⟩
abbrev cX3_isFull : ByteArray := prog_5_method_2_code
def yX3_isFull : MethodName := ⟨RX3, "isFull", "()Z"⟩
abbrev cX3_has : ByteArray := prog_5_method_3_code
def yX3_has : MethodName := ⟨RX3, "has", "(I)Z"⟩
abbrev cX3_slotBelowTop : ByteArray := prog_5_method_4_code
def yX3_slotBelowTop : MethodName := ⟨RX3, "slotBelowTop", "(I)I"⟩
abbrev cX3_valueAt : ByteArray := prog_5_method_5_code
def yX3_valueAt : MethodName := ⟨RX3, "valueAt", "(I)J"⟩
abbrev cX3_placesAt : ByteArray := prog_5_method_6_code
def yX3_placesAt : MethodName := ⟨RX3, "placesAt", "(I)I"⟩
abbrev cX3_rowAt : ByteArray := prog_5_method_7_code
def yX3_rowAt : MethodName := ⟨RX3, "rowAt", "(I)LDeskStack$Row;"⟩
abbrev cX3_startAt : ByteArray := prog_5_method_8_code
def yX3_startAt : MethodName := ⟨RX3, "startAt", "(I)I"⟩
abbrev cX3_putNumber : ByteArray := prog_5_method_9_code
def yX3_putNumber : MethodName := ⟨RX3, "putNumber", "(JI)V"⟩
abbrev cX3_putText : ByteArray := prog_5_method_10_code
def yX3_putText : MethodName := ⟨RX3, "putText", "(LDeskStack$Row;II)V"⟩
abbrev cX3_putTopOf : ByteArray := prog_5_method_11_code
def yX3_putTopOf : MethodName := ⟨RX3, "putTopOf", "(LDeskStack$Shelf;)V"⟩
abbrev cX3_put : ByteArray := prog_5_method_12_code
def yX3_put : MethodName := ⟨RX3, "put", "(JILDeskStack$Row;I)V"⟩
abbrev cX3_set : ByteArray := prog_5_method_13_code
def yX3_set : MethodName := ⟨RX3, "set", "(IJILDeskStack$Row;I)V"⟩
abbrev cX3_swapTopTwo : ByteArray := prog_5_method_14_code
def yX3_swapTopTwo : MethodName := ⟨RX3, "swapTopTwo", "()V"⟩
abbrev cX3_drop : ByteArray := prog_5_method_15_code
def yX3_drop : MethodName := ⟨RX3, "drop", "(I)V"⟩
abbrev cX3_clear : ByteArray := prog_5_method_16_code
def yX3_clear : MethodName := ⟨RX3, "clear", "()V"⟩
def RX4 : String := "DeskStack"
def TX4 : u_T := fun k => match k with
  | 0 => ("DeskStack", "stack", "LDeskStack$Shelf;", true)
  | 1 => ("DeskStack", "registers", "[LDeskStack$Shelf;", true)
  | 2 => ("DeskStack", "printer", "LDeskStack$Shelf;", true)
  | 3 => ("DeskStack", "texts", "LDeskStack$Nest;", true)
  | 4 => ("DeskStack", "program", "LDeskStack$Row;", false)
  | 5 => ("DeskStack", "keptPlaces", "I", false)
  | _ => ("DeskStack", "commandsDone", "I", false)
def tyX4 : Nat → FieldType := fun k => match k with
  | 0 => .object "DeskStack$Shelf"
  | 1 => .array (.object "DeskStack$Shelf")
  | 2 => .object "DeskStack$Shelf"
  | 3 => .object "DeskStack$Nest"
  | 4 => .object "DeskStack$Row"
  | 5 => .int
  | _ => .int
abbrev wsX40 : List Cond := u_ws RX4 TX4 7
theorem nmX4 : ∀ a, a < 7 → ∀ b, b < 7 → a ≠ b → (TX4 a).2.1 ≠ (TX4 b).2.1 := by decide +kernel
theorem tyX4_ok : ∀ k, k < 7 → parseFieldDescriptor (TX4 k).2.2.1 = some (tyX4 k) := by decide +kernel
abbrev cX4_init : ByteArray := prog_1_method_1_code
def yX4_init : MethodName := ⟨RX4, "<init>", "()V"⟩
abbrev cX4_write : ByteArray := prog_1_method_2_code
def yX4_write : MethodName := ⟨RX4, "write", "(J)I"⟩
abbrev cX4_erase : ByteArray := prog_1_method_3_code
def yX4_erase : MethodName := ⟨RX4, "erase", "()I"⟩
abbrev cX4_run : ByteArray := prog_1_method_4_code
def yX4_run : MethodName := ⟨RX4, "run", "(I)I"⟩
abbrev cX4_cost : ByteArray := prog_1_method_5_code
def yX4_cost : MethodName := ⟨RX4, "cost", "()I"⟩
abbrev cX4_prints : ByteArray := prog_1_method_6_code
def yX4_prints : MethodName := ⟨RX4, "prints", "()I"⟩
abbrev cX4_printed : ByteArray := prog_1_method_7_code
def yX4_printed : MethodName := ⟨RX4, "printed", "(I)J"⟩
abbrev cX4_places : ByteArray := prog_1_method_8_code
def yX4_places : MethodName := ⟨RX4, "places", "(I)I"⟩
abbrev cX4_depth : ByteArray := prog_1_method_9_code
def yX4_depth : MethodName := ⟨RX4, "depth", "()I"⟩
abbrev cX4_item : ByteArray := prog_1_method_10_code
def yX4_item : MethodName := ⟨RX4, "item", "(I)J"⟩
abbrev cX4_scale : ByteArray := prog_1_method_11_code
def yX4_scale : MethodName := ⟨RX4, "scale", "(I)I"⟩
abbrev cX4_held : ByteArray := prog_1_method_12_code
def yX4_held : MethodName := ⟨RX4, "held", "(I)I"⟩
abbrev cX4_precision : ByteArray := prog_1_method_13_code
def yX4_precision : MethodName := ⟨RX4, "precision", "()I"⟩
abbrev cX4_reset : ByteArray := prog_1_method_14_code
def yX4_reset : MethodName := ⟨RX4, "reset", "()V"⟩
abbrev cX4_charOf : ByteArray := prog_1_method_15_code
def yX4_charOf : MethodName := ⟨RX4, "charOf", "(JI)I"⟩
abbrev cX4_registerNumbered : ByteArray := prog_1_method_16_code
def yX4_registerNumbered : MethodName := ⟨RX4, "registerNumbered", "(I)LDeskStack$Shelf;"⟩
abbrev cX4_doCommand : ByteArray := prog_1_method_17_code
def yX4_doCommand : MethodName := ⟨RX4, "doCommand", "()V"⟩
abbrev cX4_isDigit : ByteArray := prog_1_method_18_code
def yX4_isDigit : MethodName := ⟨RX4, "isDigit", "(I)Z"⟩
abbrev cX4_beginsNumber : ByteArray := prog_1_method_19_code
def yX4_beginsNumber : MethodName := ⟨RX4, "beginsNumber", "(I)Z"⟩
abbrev cX4_putWrittenNumber : ByteArray := prog_1_method_20_code
def yX4_putWrittenNumber : MethodName := ⟨RX4, "putWrittenNumber", "()V"⟩
abbrev cX4_putWrittenText : ByteArray := prog_1_method_21_code
def yX4_putWrittenText : MethodName := ⟨RX4, "putWrittenText", "()V"⟩
abbrev cX4_needItems : ByteArray := prog_1_method_22_code
def yX4_needItems : MethodName := ⟨RX4, "needItems", "(I)V"⟩
abbrev cX4_needNumbers : ByteArray := prog_1_method_23_code
def yX4_needNumbers : MethodName := ⟨RX4, "needNumbers", "(I)V"⟩
abbrev cX4_calculate : ByteArray := prog_1_method_24_code
def yX4_calculate : MethodName := ⟨RX4, "calculate", "(I)V"⟩
abbrev cX4_changeNumber : ByteArray := prog_1_method_25_code
def yX4_changeNumber : MethodName := ⟨RX4, "changeNumber", "(I)V"⟩
abbrev cX4_arrangeStack : ByteArray := prog_1_method_26_code
def yX4_arrangeStack : MethodName := ⟨RX4, "arrangeStack", "(I)V"⟩
abbrev cX4_registerOfLetter : ByteArray := prog_1_method_27_code
def yX4_registerOfLetter : MethodName := ⟨RX4, "registerOfLetter", "()LDeskStack$Shelf;"⟩
abbrev cX4_needHeld : ByteArray := prog_1_method_28_code
def yX4_needHeld : MethodName := ⟨RX4, "needHeld", "(LDeskStack$Shelf;)V"⟩
abbrev cX4_moveToOrFromRegister : ByteArray := prog_1_method_29_code
def yX4_moveToOrFromRegister : MethodName := ⟨RX4, "moveToOrFromRegister", "(I)V"⟩
abbrev cX4_runTop : ByteArray := prog_1_method_30_code
def yX4_runTop : MethodName := ⟨RX4, "runTop", "()V"⟩
abbrev cX4_runIfOrdered : ByteArray := prog_1_method_31_code
def yX4_runIfOrdered : MethodName := ⟨RX4, "runIfOrdered", "(I)V"⟩
def RX5 : String := "DeskStackModel"
def TX5 : u_T := fun k => match k with
  | 0 => ("DeskStackModel", "program", "[I", true)
  | 1 => ("DeskStackModel", "length", "I", false)
  | 2 => ("DeskStackModel", "value", "[J", true)
  | 3 => ("DeskStackModel", "places", "[I", true)
  | 4 => ("DeskStackModel", "letters", "[I", true)
  | 5 => ("DeskStackModel", "depth", "I", false)
  | 6 => ("DeskStackModel", "precision", "I", false)
  | 7 => ("DeskStackModel", "held", "[I", true)
  | 8 => ("DeskStackModel", "text", "[I", true)
  | 9 => ("DeskStackModel", "size", "[I", true)
  | 10 => ("DeskStackModel", "at", "[I", true)
  | 11 => ("DeskStackModel", "levels", "I", false)
  | 12 => ("DeskStackModel", "shown", "[J", true)
  | 13 => ("DeskStackModel", "shownPlaces", "[I", true)
  | 14 => ("DeskStackModel", "prints", "I", false)
  | 15 => ("DeskStackModel", "cost", "I", false)
  | 16 => ("DeskStackModel", "fault", "I", false)
  | 17 => ("DeskStackModel", "thrown", "I", false)
  | 18 => ("DeskStackModel", "over", "Z", false)
  | 19 => ("DeskStackModel", "m", "J", false)
  | _ => ("DeskStackModel", "s", "I", false)
def tyX5 : Nat → FieldType := fun k => match k with
  | 0 => .array .int
  | 1 => .int
  | 2 => .array .long
  | 3 => .array .int
  | 4 => .array .int
  | 5 => .int
  | 6 => .int
  | 7 => .array .int
  | 8 => .array .int
  | 9 => .array .int
  | 10 => .array .int
  | 11 => .int
  | 12 => .array .long
  | 13 => .array .int
  | 14 => .int
  | 15 => .int
  | 16 => .int
  | 17 => .int
  | 18 => .boolean
  | 19 => .long
  | _ => .int
abbrev wsX50 : List Cond := u_ws RX5 TX5 21
theorem nmX5 : ∀ a, a < 21 → ∀ b, b < 21 → a ≠ b → (TX5 a).2.1 ≠ (TX5 b).2.1 := by decide +kernel
theorem tyX5_ok : ∀ k, k < 21 → parseFieldDescriptor (TX5 k).2.2.1 = some (tyX5 k) := by decide +kernel
abbrev cX5_init : ByteArray := prog_7_method_1_code
def yX5_init : MethodName := ⟨RX5, "<init>", "()V"⟩
abbrev cX5_thrown : ByteArray := prog_7_method_2_code
def yX5_thrown : MethodName := ⟨RX5, "thrown", "()I"⟩
abbrev cX5_within : ByteArray := prog_7_method_3_code
def yX5_within : MethodName := ⟨RX5, "within", "(JJJ)Z"⟩
abbrev cX5_write : ByteArray := prog_7_method_4_code
def yX5_write : MethodName := ⟨RX5, "write", "(J)I"⟩
abbrev cX5_erase : ByteArray := prog_7_method_5_code
def yX5_erase : MethodName := ⟨RX5, "erase", "()I"⟩
abbrev cX5_copy : ByteArray := prog_7_method_6_code
def yX5_copy : MethodName := ⟨RX5, "copy", "(II)V"⟩
abbrev cX5_fail : ByteArray := prog_7_method_7_code
def yX5_fail : MethodName := ⟨RX5, "fail", "(I)Z"⟩
abbrev cX5_have : ByteArray := prog_7_method_8_code
def yX5_have : MethodName := ⟨RX5, "have", "(I)Z"⟩
abbrev cX5_numbers : ByteArray := prog_7_method_9_code
def yX5_numbers : MethodName := ⟨RX5, "numbers", "(I)Z"⟩
abbrev cX5_room : ByteArray := prog_7_method_10_code
def yX5_room : MethodName := ⟨RX5, "room", "()Z"⟩
abbrev cX5_put : ByteArray := prog_7_method_11_code
def yX5_put : MethodName := ⟨RX5, "put", "(IJI)V"⟩
abbrev cX5_register : ByteArray := prog_7_method_12_code
def yX5_register : MethodName := ⟨RX5, "register", "(I)I"⟩
abbrev cX5_topOf : ByteArray := prog_7_method_13_code
def yX5_topOf : MethodName := ⟨RX5, "topOf", "(I)I"⟩
abbrev cX5_isBig : ByteArray := prog_7_method_14_code
def yX5_isBig : MethodName := ⟨RX5, "isBig", "(J)Z"⟩
abbrev cX5_raised : ByteArray := prog_7_method_15_code
def yX5_raised : MethodName := ⟨RX5, "raised", "(JI)J"⟩
abbrev cX5_cut : ByteArray := prog_7_method_16_code
def yX5_cut : MethodName := ⟨RX5, "cut", "(JI)J"⟩
abbrev cX5_product : ByteArray := prog_7_method_17_code
def yX5_product : MethodName := ⟨RX5, "product", "(JJ)J"⟩
abbrev cX5_greater : ByteArray := prog_7_method_18_code
def yX5_greater : MethodName := ⟨RX5, "greater", "(II)I"⟩
abbrev cX5_sum : ByteArray := prog_7_method_19_code
def yX5_sum : MethodName := ⟨RX5, "sum", "(Z)Z"⟩
abbrev cX5_times : ByteArray := prog_7_method_20_code
def yX5_times : MethodName := ⟨RX5, "times", "()Z"⟩
abbrev cX5_quotient : ByteArray := prog_7_method_21_code
def yX5_quotient : MethodName := ⟨RX5, "quotient", "()Z"⟩
abbrev cX5_rest : ByteArray := prog_7_method_22_code
def yX5_rest : MethodName := ⟨RX5, "rest", "()Z"⟩
abbrev cX5_root : ByteArray := prog_7_method_23_code
def yX5_root : MethodName := ⟨RX5, "root", "()Z"⟩
abbrev cX5_charAt : ByteArray := prog_7_method_24_code
def yX5_charAt : MethodName := ⟨RX5, "charAt", "(II)I"⟩
abbrev cX5_isNothing : ByteArray := prog_7_method_25_code
def yX5_isNothing : MethodName := ⟨RX5, "isNothing", "(I)Z"⟩
abbrev cX5_isDone : ByteArray := prog_7_method_26_code
def yX5_isDone : MethodName := ⟨RX5, "isDone", "(I)Z"⟩
abbrev cX5_mayRun : ByteArray := prog_7_method_27_code
def yX5_mayRun : MethodName := ⟨RX5, "mayRun", "(I)Z"⟩
abbrev cX5_begin : ByteArray := prog_7_method_28_code
def yX5_begin : MethodName := ⟨RX5, "begin", "(II)V"⟩
abbrev cX5_digits : ByteArray := prog_7_method_29_code
def yX5_digits : MethodName := ⟨RX5, "digits", "(I)Z"⟩
abbrev cX5_brackets : ByteArray := prog_7_method_30_code
def yX5_brackets : MethodName := ⟨RX5, "brackets", "(I)Z"⟩
abbrev cX5_calculates : ByteArray := prog_7_method_31_code
def yX5_calculates : MethodName := ⟨RX5, "calculates", "(I)Z"⟩
abbrev cX5_moves : ByteArray := prog_7_method_32_code
def yX5_moves : MethodName := ⟨RX5, "moves", "(I)Z"⟩
abbrev cX5_stores : ByteArray := prog_7_method_33_code
def yX5_stores : MethodName := ⟨RX5, "stores", "(II)Z"⟩
abbrev cX5_tests : ByteArray := prog_7_method_34_code
def yX5_tests : MethodName := ⟨RX5, "tests", "(III)Z"⟩
abbrev cX5_compared : ByteArray := prog_7_method_35_code
def yX5_compared : MethodName := ⟨RX5, "compared", "()Z"⟩
abbrev cX5_runs : ByteArray := prog_7_method_36_code
def yX5_runs : MethodName := ⟨RX5, "runs", "(I)Z"⟩
abbrev cX5_isOne : ByteArray := prog_7_method_37_code
def yX5_isOne : MethodName := ⟨RX5, "isOne", "(IIIII)Z"⟩
abbrev cX5_command : ByteArray := prog_7_method_38_code
def yX5_command : MethodName := ⟨RX5, "command", "(I)Z"⟩
abbrev cX5_run : ByteArray := prog_7_method_39_code
def yX5_run : MethodName := ⟨RX5, "run", "(I)I"⟩
abbrev cX5_cost : ByteArray := prog_7_method_40_code
def yX5_cost : MethodName := ⟨RX5, "cost", "()I"⟩
abbrev cX5_prints : ByteArray := prog_7_method_41_code
def yX5_prints : MethodName := ⟨RX5, "prints", "()I"⟩
abbrev cX5_printed : ByteArray := prog_7_method_42_code
def yX5_printed : MethodName := ⟨RX5, "printed", "(I)J"⟩
abbrev cX5_places : ByteArray := prog_7_method_43_code
def yX5_places : MethodName := ⟨RX5, "places", "(I)I"⟩
abbrev cX5_depth : ByteArray := prog_7_method_44_code
def yX5_depth : MethodName := ⟨RX5, "depth", "()I"⟩
abbrev cX5_item : ByteArray := prog_7_method_45_code
def yX5_item : MethodName := ⟨RX5, "item", "(I)J"⟩
abbrev cX5_scale : ByteArray := prog_7_method_46_code
def yX5_scale : MethodName := ⟨RX5, "scale", "(I)I"⟩
abbrev cX5_held : ByteArray := prog_7_method_47_code
def yX5_held : MethodName := ⟨RX5, "held", "(I)I"⟩
abbrev cX5_precision : ByteArray := prog_7_method_48_code
def yX5_precision : MethodName := ⟨RX5, "precision", "()I"⟩
abbrev cX5_reset : ByteArray := prog_7_method_49_code
def yX5_reset : MethodName := ⟨RX5, "reset", "()V"⟩
def RJ13 : String := "java/lang/Long"
def TJ13 : u_T := fun k => match k with
  | _ => ("", "", "", false)
def tyJ13 : Nat → FieldType := fun k => match k with
  | _ => .int
abbrev wsJ130 : List Cond := u_ws RJ13 TJ13 0
theorem nmJ13 : ∀ a, a < 0 → ∀ b, b < 0 → a ≠ b → (TJ13 a).2.1 ≠ (TJ13 b).2.1 := by decide +kernel
theorem tyJ13_ok : ∀ k, k < 0 → parseFieldDescriptor (TJ13 k).2.2.1 = some (tyJ13 k) := by decide +kernel
abbrev cJ13_compare_74951 : ByteArray := prog_13_method_42_code
def yJ13_compare_74951 : MethodName := ⟨RJ13, "compare", "(JJ)I"⟩
def RJ9 : String := "java/lang/Math"
def TJ9 : u_T := fun k => match k with
  | _ => ("", "", "", false)
def tyJ9 : Nat → FieldType := fun k => match k with
  | _ => .int
abbrev wsJ90 : List Cond := u_ws RJ9 TJ9 0
theorem nmJ9 : ∀ a, a < 0 → ∀ b, b < 0 → a ≠ b → (TJ9 a).2.1 ≠ (TJ9 b).2.1 := by decide +kernel
theorem tyJ9_ok : ∀ k, k < 0 → parseFieldDescriptor (TJ9 k).2.2.1 = some (tyJ9 k) := by decide +kernel
abbrev cJ9_abs_067f4 : ByteArray := prog_14_method_61_code
def yJ9_abs_067f4 : MethodName := ⟨RJ9, "abs", "(J)J"⟩
abbrev cJ9_max_7cf53 : ByteArray := prog_14_method_65_code
def yJ9_max_7cf53 : MethodName := ⟨RJ9, "max", "(II)I"⟩
abbrev cJ9_min_7cf53 : ByteArray := prog_14_method_69_code
def yJ9_min_7cf53 : MethodName := ⟨RJ9, "min", "(II)I"⟩
def RJ0 : String := "java/lang/String"
def TJ0 : u_T := fun k => match k with
  | _ => ("", "", "", false)
def tyJ0 : Nat → FieldType := fun k => match k with
  | _ => .int
abbrev wsJ00 : List Cond := u_ws RJ0 TJ0 0
theorem nmJ0 : ∀ a, a < 0 → ∀ b, b < 0 → a ≠ b → (TJ0 a).2.1 ≠ (TJ0 b).2.1 := by decide +kernel
theorem tyJ0_ok : ∀ k, k < 0 → parseFieldDescriptor (TJ0 k).2.2.1 = some (tyJ0 k) := by decide +kernel
def RL : String := "DeskStackLaw"
abbrev cL_run : ByteArray := method_3_code
def yL_run : MethodName := ⟨RL, "run", "(LDeskStack;I[J)I"⟩
abbrev cL_law : ByteArray := code
def yL_law : MethodName := ⟨RL, "law", "([I)Z"⟩
def wsX0_powerOfTen : List Cond := .code yX0_powerOfTen cX0_powerOfTen 1 (some .long) :: ([.fieldLink RX0 78 "DeskStack$Decimal" "POWERS" "[J", .methodLink RX0 9 Lib.Math.max.name, .static Lib.Math.max.name, .initialized "java/lang/Math", .code Lib.Math.max.name Lib.Math.max.code 2 (some .int), .methodLink RX0 82 Lib.Math.min.name, .static Lib.Math.min.name, .code Lib.Math.min.name Lib.Math.min.code 2 (some .int)])
def wsX0_times : List Cond := .code yX0_times cX0_times 4 (some .long) :: ([.classLink RX0 36 "java/lang/UnsupportedOperationException", .initialized "java/lang/UnsupportedOperationException", .methodLink RX0 31 Lib.MathLoose.abs_long.x, .static Lib.MathLoose.abs_long.x, .initialized "java/lang/Math", .code Lib.MathLoose.abs_long.x Lib.MathLoose.abs_long.code 2 (some .long), .constantLong RX0 34 (999999999999999999)] ++ (vx_atS RX0 40 "java/lang/UnsupportedOperationException" ["java/lang/RuntimeException", "java/lang/Exception"]).filter goodWord)
def wsX0_raise : List Cond := .code yX0_raise cX0_raise 3 (some .long) :: ([.methodLink RX0 74 yX0_powerOfTen, .static yX0_powerOfTen, .initialized RX0, .code yX0_powerOfTen cX0_powerOfTen 1 (some .long), .fieldLink RX0 78 "DeskStack$Decimal" "POWERS" "[J", .methodLink RX0 9 Lib.Math.max.name, .static Lib.Math.max.name, .initialized "java/lang/Math", .code Lib.Math.max.name Lib.Math.max.code 2 (some .int), .methodLink RX0 82 Lib.Math.min.name, .static Lib.Math.min.name, .code Lib.Math.min.name Lib.Math.min.code 2 (some .int), .methodLink RX0 58 yX0_times, .static yX0_times, .code yX0_times cX0_times 4 (some .long), .classLink RX0 36 "java/lang/UnsupportedOperationException", .initialized "java/lang/UnsupportedOperationException", .methodLink RX0 31 Lib.MathLoose.abs_long.x, .static Lib.MathLoose.abs_long.x, .code Lib.MathLoose.abs_long.x Lib.MathLoose.abs_long.code 2 (some .long), .constantLong RX0 34 (999999999999999999)] ++ (vx_atS RX0 40 "java/lang/UnsupportedOperationException" ["java/lang/RuntimeException", "java/lang/Exception"]).filter goodWord)
def wsX0_fitting : List Cond := .code yX0_fitting cX0_fitting 2 (some .long) :: ([.classLink RX0 36 "java/lang/UnsupportedOperationException", .initialized "java/lang/UnsupportedOperationException", .methodLink RX0 31 Lib.MathLoose.abs_long.x, .static Lib.MathLoose.abs_long.x, .initialized "java/lang/Math", .code Lib.MathLoose.abs_long.x Lib.MathLoose.abs_long.code 2 (some .long), .constantLong RX0 34 (999999999999999999)] ++ (vx_atS RX0 40 "java/lang/UnsupportedOperationException" ["java/lang/RuntimeException", "java/lang/Exception"]).filter goodWord)
def wsX0_sum_r1 : List Cond := [Cond.methodLink RX0 9 Lib.Math.max.name, Cond.static Lib.Math.max.name, Cond.initialized "java/lang/Math", Cond.code Lib.Math.max.name Lib.Math.max.code 2 (some .int), Cond.methodLink RX0 15 yX0_raise, Cond.static yX0_raise, Cond.initialized RX0, Cond.code yX0_raise cX0_raise 3 (some .long), Cond.methodLink RX0 74 yX0_powerOfTen, Cond.static yX0_powerOfTen, Cond.code yX0_powerOfTen cX0_powerOfTen 1 (some .long), Cond.fieldLink RX0 78 "DeskStack$Decimal" "POWERS" "[J", Cond.methodLink RX0 82 Lib.Math.min.name, Cond.static Lib.Math.min.name, Cond.code Lib.Math.min.name Lib.Math.min.code 2 (some .int), Cond.methodLink RX0 58 yX0_times, Cond.static yX0_times, Cond.code yX0_times cX0_times 4 (some .long), Cond.classLink RX0 36 "java/lang/UnsupportedOperationException", Cond.initialized "java/lang/UnsupportedOperationException", Cond.methodLink RX0 31 Lib.MathLoose.abs_long.x, Cond.static Lib.MathLoose.abs_long.x, Cond.code Lib.MathLoose.abs_long.x Lib.MathLoose.abs_long.code 2 (some .long), Cond.constantLong RX0 34 (999999999999999999)]
def wsX0_sum_r2 : List Cond := [Cond.methodLink RX0 21 yX0_fitting, Cond.static yX0_fitting, Cond.code yX0_fitting cX0_fitting 2 (some .long)]
def wsX0_sum : List Cond := .code yX0_sum cX0_sum 7 (some .long) :: ((wsX0_sum_r1 ++ wsX0_sum_r2) ++ (vx_atS RX0 40 "java/lang/UnsupportedOperationException" ["java/lang/RuntimeException", "java/lang/Exception"]).filter goodWord)
def wsJ13_compare_74951 : List Cond := .code yJ13_compare_74951 cJ13_compare_74951 4 (some .int) :: ([])
def wsX0_order_r1 : List Cond := [Cond.methodLink RX0 9 Lib.Math.max.name, Cond.static Lib.Math.max.name, Cond.initialized "java/lang/Math", Cond.code Lib.Math.max.name Lib.Math.max.code 2 (some .int), Cond.methodLink RX0 15 yX0_raise, Cond.static yX0_raise, Cond.initialized RX0, Cond.code yX0_raise cX0_raise 3 (some .long), Cond.methodLink RX0 74 yX0_powerOfTen, Cond.static yX0_powerOfTen, Cond.code yX0_powerOfTen cX0_powerOfTen 1 (some .long), Cond.fieldLink RX0 78 "DeskStack$Decimal" "POWERS" "[J", Cond.methodLink RX0 82 Lib.Math.min.name, Cond.static Lib.Math.min.name, Cond.code Lib.Math.min.name Lib.Math.min.code 2 (some .int), Cond.methodLink RX0 58 yX0_times, Cond.static yX0_times, Cond.code yX0_times cX0_times 4 (some .long), Cond.classLink RX0 36 "java/lang/UnsupportedOperationException", Cond.initialized "java/lang/UnsupportedOperationException", Cond.methodLink RX0 31 Lib.MathLoose.abs_long.x, Cond.static Lib.MathLoose.abs_long.x, Cond.code Lib.MathLoose.abs_long.x Lib.MathLoose.abs_long.code 2 (some .long), Cond.constantLong RX0 34 (999999999999999999)]
def wsX0_order_r2 : List Cond := [Cond.methodLink RX0 25 yJ13_compare_74951, Cond.static yJ13_compare_74951, Cond.initialized RJ13, Cond.code yJ13_compare_74951 cJ13_compare_74951 4 (some .int)]
def wsX0_order : List Cond := .code yX0_order cX0_order 7 (some .int) :: ((wsX0_order_r1 ++ wsX0_order_r2) ++ (vx_atS RX0 40 "java/lang/UnsupportedOperationException" ["java/lang/RuntimeException", "java/lang/Exception"]).filter goodWord)
def wsX0_divide : List Cond := .code yX0_divide cX0_divide 4 (some .long) :: ([])
def wsX0_quotient_r1 : List Cond := [Cond.classLink RX0 43 "java/lang/ArithmeticException", Cond.initialized "java/lang/ArithmeticException", Cond.methodLink RX0 15 yX0_raise, Cond.static yX0_raise, Cond.initialized RX0, Cond.code yX0_raise cX0_raise 3 (some .long), Cond.methodLink RX0 74 yX0_powerOfTen, Cond.static yX0_powerOfTen, Cond.code yX0_powerOfTen cX0_powerOfTen 1 (some .long), Cond.fieldLink RX0 78 "DeskStack$Decimal" "POWERS" "[J", Cond.methodLink RX0 9 Lib.Math.max.name, Cond.static Lib.Math.max.name, Cond.initialized "java/lang/Math", Cond.code Lib.Math.max.name Lib.Math.max.code 2 (some .int), Cond.methodLink RX0 82 Lib.Math.min.name, Cond.static Lib.Math.min.name, Cond.code Lib.Math.min.name Lib.Math.min.code 2 (some .int), Cond.methodLink RX0 58 yX0_times, Cond.static yX0_times, Cond.code yX0_times cX0_times 4 (some .long), Cond.classLink RX0 36 "java/lang/UnsupportedOperationException", Cond.initialized "java/lang/UnsupportedOperationException", Cond.methodLink RX0 31 Lib.MathLoose.abs_long.x, Cond.static Lib.MathLoose.abs_long.x]
def wsX0_quotient_r2 : List Cond := [Cond.code Lib.MathLoose.abs_long.x Lib.MathLoose.abs_long.code 2 (some .long), Cond.constantLong RX0 34 (999999999999999999), Cond.methodLink RX0 48 yX0_divide, Cond.static yX0_divide, Cond.code yX0_divide cX0_divide 4 (some .long)]
def wsX0_quotient : List Cond := .code yX0_quotient cX0_quotient 8 (some .long) :: ((wsX0_quotient_r1 ++ wsX0_quotient_r2) ++ (vx_atS RX0 47 "java/lang/ArithmeticException" ["java/lang/RuntimeException", "java/lang/Exception"]).filter goodWord ++ (vx_atS RX0 40 "java/lang/UnsupportedOperationException" ["java/lang/RuntimeException", "java/lang/Exception"]).filter goodWord)
def wsX0_remainder_r1 : List Cond := [Cond.classLink RX0 36 "java/lang/UnsupportedOperationException", Cond.initialized "java/lang/UnsupportedOperationException", Cond.methodLink RX0 9 Lib.Math.max.name, Cond.static Lib.Math.max.name, Cond.initialized "java/lang/Math", Cond.code Lib.Math.max.name Lib.Math.max.code 2 (some .int), Cond.methodLink RX0 52 yX0_quotient, Cond.static yX0_quotient, Cond.initialized RX0, Cond.code yX0_quotient cX0_quotient 8 (some .long), Cond.classLink RX0 43 "java/lang/ArithmeticException", Cond.initialized "java/lang/ArithmeticException", Cond.methodLink RX0 15 yX0_raise, Cond.static yX0_raise, Cond.code yX0_raise cX0_raise 3 (some .long), Cond.methodLink RX0 74 yX0_powerOfTen, Cond.static yX0_powerOfTen, Cond.code yX0_powerOfTen cX0_powerOfTen 1 (some .long), Cond.fieldLink RX0 78 "DeskStack$Decimal" "POWERS" "[J", Cond.methodLink RX0 82 Lib.Math.min.name, Cond.static Lib.Math.min.name, Cond.code Lib.Math.min.name Lib.Math.min.code 2 (some .int), Cond.methodLink RX0 58 yX0_times, Cond.static yX0_times]
def wsX0_remainder_r2 : List Cond := [Cond.code yX0_times cX0_times 4 (some .long), Cond.methodLink RX0 31 Lib.MathLoose.abs_long.x, Cond.static Lib.MathLoose.abs_long.x, Cond.code Lib.MathLoose.abs_long.x Lib.MathLoose.abs_long.code 2 (some .long), Cond.constantLong RX0 34 (999999999999999999), Cond.methodLink RX0 48 yX0_divide, Cond.static yX0_divide, Cond.code yX0_divide cX0_divide 4 (some .long), Cond.methodLink RX0 21 yX0_fitting, Cond.static yX0_fitting, Cond.code yX0_fitting cX0_fitting 2 (some .long)]
def wsX0_remainder : List Cond := .code yX0_remainder cX0_remainder 13 (some .long) :: ((wsX0_remainder_r1 ++ wsX0_remainder_r2) ++ (vx_atS RX0 40 "java/lang/UnsupportedOperationException" ["java/lang/RuntimeException", "java/lang/Exception"]).filter goodWord ++ (vx_atS RX0 47 "java/lang/ArithmeticException" ["java/lang/RuntimeException", "java/lang/Exception"]).filter goodWord)
def wsX0_root_r1 : List Cond := [Cond.classLink RX0 43 "java/lang/ArithmeticException", Cond.initialized "java/lang/ArithmeticException", Cond.constantLong RX0 63 (999999999), Cond.constantLong RX0 65 (2), Cond.methodLink RX0 15 yX0_raise, Cond.static yX0_raise, Cond.initialized RX0, Cond.code yX0_raise cX0_raise 3 (some .long), Cond.methodLink RX0 74 yX0_powerOfTen, Cond.static yX0_powerOfTen, Cond.code yX0_powerOfTen cX0_powerOfTen 1 (some .long), Cond.fieldLink RX0 78 "DeskStack$Decimal" "POWERS" "[J", Cond.methodLink RX0 9 Lib.Math.max.name, Cond.static Lib.Math.max.name, Cond.initialized "java/lang/Math", Cond.code Lib.Math.max.name Lib.Math.max.code 2 (some .int), Cond.methodLink RX0 82 Lib.Math.min.name, Cond.static Lib.Math.min.name, Cond.code Lib.Math.min.name Lib.Math.min.code 2 (some .int), Cond.methodLink RX0 58 yX0_times, Cond.static yX0_times, Cond.code yX0_times cX0_times 4 (some .long), Cond.classLink RX0 36 "java/lang/UnsupportedOperationException", Cond.initialized "java/lang/UnsupportedOperationException"]
def wsX0_root_r2 : List Cond := [Cond.methodLink RX0 31 Lib.MathLoose.abs_long.x, Cond.static Lib.MathLoose.abs_long.x, Cond.code Lib.MathLoose.abs_long.x Lib.MathLoose.abs_long.code 2 (some .long), Cond.constantLong RX0 34 (999999999999999999)]
def wsX0_root : List Cond := .code yX0_root cX0_root 13 (some .long) :: ((wsX0_root_r1 ++ wsX0_root_r2) ++ (vx_atS RX0 47 "java/lang/ArithmeticException" ["java/lang/RuntimeException", "java/lang/Exception"]).filter goodWord ++ (vx_atS RX0 40 "java/lang/UnsupportedOperationException" ["java/lang/RuntimeException", "java/lang/Exception"]).filter goodWord)
def wsX0_cutOff : List Cond := .code yX0_cutOff cX0_cutOff 3 (some .long) :: ([.methodLink RX0 74 yX0_powerOfTen, .static yX0_powerOfTen, .initialized RX0, .code yX0_powerOfTen cX0_powerOfTen 1 (some .long), .fieldLink RX0 78 "DeskStack$Decimal" "POWERS" "[J", .methodLink RX0 9 Lib.Math.max.name, .static Lib.Math.max.name, .initialized "java/lang/Math", .code Lib.Math.max.name Lib.Math.max.code 2 (some .int), .methodLink RX0 82 Lib.Math.min.name, .static Lib.Math.min.name, .code Lib.Math.min.name Lib.Math.min.code 2 (some .int), .methodLink RX0 48 yX0_divide, .static yX0_divide, .code yX0_divide cX0_divide 4 (some .long)])
def wsX0_asPlaces_r1 : List Cond := [Cond.classLink RX0 43 "java/lang/ArithmeticException", Cond.initialized "java/lang/ArithmeticException", Cond.constantLong RX0 70 (9), Cond.methodLink RX0 67 yX0_cutOff, Cond.static yX0_cutOff, Cond.initialized RX0, Cond.code yX0_cutOff cX0_cutOff 3 (some .long), Cond.methodLink RX0 74 yX0_powerOfTen, Cond.static yX0_powerOfTen, Cond.code yX0_powerOfTen cX0_powerOfTen 1 (some .long), Cond.fieldLink RX0 78 "DeskStack$Decimal" "POWERS" "[J", Cond.methodLink RX0 9 Lib.Math.max.name, Cond.static Lib.Math.max.name, Cond.initialized "java/lang/Math", Cond.code Lib.Math.max.name Lib.Math.max.code 2 (some .int), Cond.methodLink RX0 82 Lib.Math.min.name, Cond.static Lib.Math.min.name, Cond.code Lib.Math.min.name Lib.Math.min.code 2 (some .int), Cond.methodLink RX0 48 yX0_divide, Cond.static yX0_divide, Cond.code yX0_divide cX0_divide 4 (some .long), Cond.methodLink RX0 15 yX0_raise, Cond.static yX0_raise, Cond.code yX0_raise cX0_raise 3 (some .long)]
def wsX0_asPlaces_r2 : List Cond := [Cond.methodLink RX0 58 yX0_times, Cond.static yX0_times, Cond.code yX0_times cX0_times 4 (some .long), Cond.classLink RX0 36 "java/lang/UnsupportedOperationException", Cond.initialized "java/lang/UnsupportedOperationException", Cond.methodLink RX0 31 Lib.MathLoose.abs_long.x, Cond.static Lib.MathLoose.abs_long.x, Cond.code Lib.MathLoose.abs_long.x Lib.MathLoose.abs_long.code 2 (some .long), Cond.constantLong RX0 34 (999999999999999999)]
def wsX0_asPlaces : List Cond := .code yX0_asPlaces cX0_asPlaces 5 (some .int) :: ((wsX0_asPlaces_r1 ++ wsX0_asPlaces_r2) ++ (vx_atS RX0 47 "java/lang/ArithmeticException" ["java/lang/RuntimeException", "java/lang/Exception"]).filter goodWord ++ (vx_atS RX0 40 "java/lang/UnsupportedOperationException" ["java/lang/RuntimeException", "java/lang/Exception"]).filter goodWord)
def wsX1_init : List Cond := .code yX1_init cX1_init 1 none :: ([.methodLink RX1 3 objectInit, .instanceMethod objectInit, .code objectInit ⟨#[0xb1]⟩ 1 none, .classLink RX1 9 RX2, .fieldLink RX1 11 "DeskStack$Nest" "rows" "[LDeskStack$Row;", .arrayClass .int, .fieldLink RX1 17 "DeskStack$Nest" "positions" "[I", .fieldLink RX1 21 "DeskStack$Nest" "ends" "[I", .fieldLink RX1 24 "DeskStack$Nest" "count" "I"] ++ wsX10)
def wsX1_isUnderWay : List Cond := .code yX1_isUnderWay cX1_isUnderWay 1 (some .boolean) :: ([.fieldLink RX1 24 "DeskStack$Nest" "count" "I", .fieldLink RX1 11 "DeskStack$Nest" "rows" "[LDeskStack$Row;"] ++ wsX10)
def wsX1_enter : List Cond := .code yX1_enter cX1_enter 4 none :: ([.classLink RX1 28 "java/lang/UnsupportedOperationException", .initialized "java/lang/UnsupportedOperationException", .fieldLink RX1 24 "DeskStack$Nest" "count" "I", .fieldLink RX1 11 "DeskStack$Nest" "rows" "[LDeskStack$Row;", .fieldLink RX1 17 "DeskStack$Nest" "positions" "[I", .fieldLink RX1 21 "DeskStack$Nest" "ends" "[I"] ++ wsX10 ++ (vx_atS RX1 32 "java/lang/UnsupportedOperationException" ["java/lang/RuntimeException", "java/lang/Exception"]).filter goodWord)
def wsX2_charAt : List Cond := .code yX2_charAt cX2_charAt 2 (some .int) :: ([.fieldLink RX2 15 "DeskStack$Row" "size" "I", .fieldLink RX2 9 "DeskStack$Row" "chars" "[B"] ++ wsX20)
def wsX1_look : List Cond := .code yX1_look cX1_look 2 (some .int) :: ([.fieldLink RX1 17 "DeskStack$Nest" "positions" "[I", .fieldLink RX1 24 "DeskStack$Nest" "count" "I", .fieldLink RX1 21 "DeskStack$Nest" "ends" "[I", .fieldLink RX1 11 "DeskStack$Nest" "rows" "[LDeskStack$Row;", .methodLink RX1 55 yX1_isUnderWay, .instanceMethod yX1_isUnderWay, .selects RX1 yX1_isUnderWay yX1_isUnderWay, .initialized RX1, .code yX1_isUnderWay cX1_isUnderWay 1 (some .boolean), .methodLink RX1 59 yX2_charAt, .instanceMethod yX2_charAt, .selects RX2 yX2_charAt yX2_charAt, .initialized RX2, .code yX2_charAt cX2_charAt 2 (some .int), .fieldLink RX2 15 "DeskStack$Row" "size" "I", .fieldLink RX2 9 "DeskStack$Row" "chars" "[B"] ++ wsX10 ++ wsX20)
def wsX1_pass : List Cond := .code yX1_pass cX1_pass 1 none :: ([.fieldLink RX1 17 "DeskStack$Nest" "positions" "[I", .fieldLink RX1 24 "DeskStack$Nest" "count" "I", .methodLink RX1 55 yX1_isUnderWay, .instanceMethod yX1_isUnderWay, .selects RX1 yX1_isUnderWay yX1_isUnderWay, .initialized RX1, .code yX1_isUnderWay cX1_isUnderWay 1 (some .boolean), .fieldLink RX1 11 "DeskStack$Nest" "rows" "[LDeskStack$Row;"] ++ wsX10)
def wsX1_skipBlanks : List Cond := .code yX1_skipBlanks cX1_skipBlanks 2 none :: ([.methodLink RX1 38 yX1_look, .instanceMethod yX1_look, .selects RX1 yX1_look yX1_look, .initialized RX1, .code yX1_look cX1_look 2 (some .int), .fieldLink RX1 17 "DeskStack$Nest" "positions" "[I", .fieldLink RX1 24 "DeskStack$Nest" "count" "I", .fieldLink RX1 21 "DeskStack$Nest" "ends" "[I", .fieldLink RX1 11 "DeskStack$Nest" "rows" "[LDeskStack$Row;", .methodLink RX1 55 yX1_isUnderWay, .instanceMethod yX1_isUnderWay, .selects RX1 yX1_isUnderWay yX1_isUnderWay, .code yX1_isUnderWay cX1_isUnderWay 1 (some .boolean), .methodLink RX1 59 yX2_charAt, .instanceMethod yX2_charAt, .selects RX2 yX2_charAt yX2_charAt, .initialized RX2, .code yX2_charAt cX2_charAt 2 (some .int), .fieldLink RX2 15 "DeskStack$Row" "size" "I", .fieldLink RX2 9 "DeskStack$Row" "chars" "[B", .methodLink RX1 63 yX1_pass, .instanceMethod yX1_pass, .selects RX1 yX1_pass yX1_pass, .code yX1_pass cX1_pass 1 none] ++ wsX10 ++ wsX20)
def wsX1_leave : List Cond := .code yX1_leave cX1_leave 1 none :: ([.fieldLink RX1 24 "DeskStack$Nest" "count" "I", .methodLink RX1 49 Lib.Math.max.name, .static Lib.Math.max.name, .initialized "java/lang/Math", .code Lib.Math.max.name Lib.Math.max.code 2 (some .int)] ++ wsX10)
def wsX1_enterMacro_r1 : List Cond := [Cond.methodLink RX1 35 yX1_skipBlanks, Cond.instanceMethod yX1_skipBlanks, Cond.selects RX1 yX1_skipBlanks yX1_skipBlanks, Cond.initialized RX1, Cond.code yX1_skipBlanks cX1_skipBlanks 2 none, Cond.methodLink RX1 38 yX1_look, Cond.instanceMethod yX1_look, Cond.selects RX1 yX1_look yX1_look, Cond.code yX1_look cX1_look 2 (some .int), Cond.fieldLink RX1 17 "DeskStack$Nest" "positions" "[I", Cond.fieldLink RX1 24 "DeskStack$Nest" "count" "I", Cond.fieldLink RX1 21 "DeskStack$Nest" "ends" "[I", Cond.fieldLink RX1 11 "DeskStack$Nest" "rows" "[LDeskStack$Row;", Cond.methodLink RX1 55 yX1_isUnderWay, Cond.instanceMethod yX1_isUnderWay, Cond.selects RX1 yX1_isUnderWay yX1_isUnderWay, Cond.code yX1_isUnderWay cX1_isUnderWay 1 (some .boolean), Cond.methodLink RX1 59 yX2_charAt, Cond.instanceMethod yX2_charAt, Cond.selects RX2 yX2_charAt yX2_charAt, Cond.initialized RX2, Cond.code yX2_charAt cX2_charAt 2 (some .int), Cond.fieldLink RX2 15 "DeskStack$Row" "size" "I", Cond.fieldLink RX2 9 "DeskStack$Row" "chars" "[B"]
def wsX1_enterMacro_r2 : List Cond := [Cond.methodLink RX1 63 yX1_pass, Cond.instanceMethod yX1_pass, Cond.selects RX1 yX1_pass yX1_pass, Cond.code yX1_pass cX1_pass 1 none, Cond.methodLink RX1 42 yX1_leave, Cond.instanceMethod yX1_leave, Cond.selects RX1 yX1_leave yX1_leave, Cond.code yX1_leave cX1_leave 1 none, Cond.methodLink RX1 49 Lib.Math.max.name, Cond.static Lib.Math.max.name, Cond.initialized "java/lang/Math", Cond.code Lib.Math.max.name Lib.Math.max.code 2 (some .int), Cond.methodLink RX1 45 yX1_enter, Cond.instanceMethod yX1_enter, Cond.selects RX1 yX1_enter yX1_enter, Cond.code yX1_enter cX1_enter 4 none, Cond.classLink RX1 28 "java/lang/UnsupportedOperationException", Cond.initialized "java/lang/UnsupportedOperationException"]
def wsX1_enterMacro : List Cond := .code yX1_enterMacro cX1_enterMacro 4 none :: ((wsX1_enterMacro_r1 ++ wsX1_enterMacro_r2) ++ wsX10 ++ wsX20 ++ (vx_atS RX1 32 "java/lang/UnsupportedOperationException" ["java/lang/RuntimeException", "java/lang/Exception"]).filter goodWord)
def wsX1_leaveAll : List Cond := .code yX1_leaveAll cX1_leaveAll 1 none :: ([.fieldLink RX1 24 "DeskStack$Nest" "count" "I"] ++ wsX10)
def wsX1_innermostRow : List Cond := .code yX1_innermostRow cX1_innermostRow 1 (some (.object "DeskStack$Row")) :: ([.fieldLink RX1 11 "DeskStack$Nest" "rows" "[LDeskStack$Row;", .fieldLink RX1 24 "DeskStack$Nest" "count" "I", .methodLink RX1 55 yX1_isUnderWay, .instanceMethod yX1_isUnderWay, .selects RX1 yX1_isUnderWay yX1_isUnderWay, .initialized RX1, .code yX1_isUnderWay cX1_isUnderWay 1 (some .boolean)] ++ wsX10)
def wsX1_position : List Cond := .code yX1_position cX1_position 1 (some .int) :: ([.fieldLink RX1 17 "DeskStack$Nest" "positions" "[I", .fieldLink RX1 24 "DeskStack$Nest" "count" "I", .methodLink RX1 55 yX1_isUnderWay, .instanceMethod yX1_isUnderWay, .selects RX1 yX1_isUnderWay yX1_isUnderWay, .initialized RX1, .code yX1_isUnderWay cX1_isUnderWay 1 (some .boolean), .fieldLink RX1 11 "DeskStack$Nest" "rows" "[LDeskStack$Row;"] ++ wsX10)
def wsX2_init : List Cond := .code yX2_init cX2_init 1 none :: ([.methodLink RX2 3 objectInit, .instanceMethod objectInit, .code objectInit ⟨#[0xb1]⟩ 1 none, .arrayClass .byte, .fieldLink RX2 9 "DeskStack$Row" "chars" "[B", .fieldLink RX2 15 "DeskStack$Row" "size" "I"] ++ wsX20)
def wsX2_append : List Cond := .code yX2_append cX2_append 2 none :: ([.fieldLink RX2 15 "DeskStack$Row" "size" "I", .fieldLink RX2 9 "DeskStack$Row" "chars" "[B"] ++ wsX20)
def wsX3_init : List Cond := .code yX3_init cX3_init 3 none :: ([.methodLink RX3 3 objectInit, .instanceMethod objectInit, .code objectInit ⟨#[0xb1]⟩ 1 none, .arrayClass .long, .fieldLink RX3 9 "DeskStack$Shelf" "values" "[J", .arrayClass .int, .fieldLink RX3 15 "DeskStack$Shelf" "places" "[I", .classLink RX3 19 RX2, .fieldLink RX3 21 "DeskStack$Shelf" "rows" "[LDeskStack$Row;", .fieldLink RX3 25 "DeskStack$Shelf" "starts" "[I", .fieldLink RX3 28 "DeskStack$Shelf" "count" "I"] ++ wsX30)
def wsX3_isFull : List Cond := .code yX3_isFull cX3_isFull 1 (some .boolean) :: ([.fieldLink RX3 28 "DeskStack$Shelf" "count" "I", .fieldLink RX3 9 "DeskStack$Shelf" "values" "[J"] ++ wsX30)
def wsX3_has : List Cond := .code yX3_has cX3_has 2 (some .boolean) :: ([.fieldLink RX3 28 "DeskStack$Shelf" "count" "I", .fieldLink RX3 9 "DeskStack$Shelf" "values" "[J"] ++ wsX30)
def wsX3_slotBelowTop : List Cond := .code yX3_slotBelowTop cX3_slotBelowTop 2 (some .int) :: ([.fieldLink RX3 28 "DeskStack$Shelf" "count" "I"] ++ wsX30)
def wsX3_valueAt : List Cond := .code yX3_valueAt cX3_valueAt 2 (some .long) :: ([.fieldLink RX3 9 "DeskStack$Shelf" "values" "[J", .methodLink RX3 32 yX3_has, .instanceMethod yX3_has, .selects RX3 yX3_has yX3_has, .initialized RX3, .code yX3_has cX3_has 2 (some .boolean), .fieldLink RX3 28 "DeskStack$Shelf" "count" "I"] ++ wsX30)
def wsX3_placesAt : List Cond := .code yX3_placesAt cX3_placesAt 2 (some .int) :: ([.fieldLink RX3 15 "DeskStack$Shelf" "places" "[I", .methodLink RX3 32 yX3_has, .instanceMethod yX3_has, .selects RX3 yX3_has yX3_has, .initialized RX3, .code yX3_has cX3_has 2 (some .boolean), .fieldLink RX3 28 "DeskStack$Shelf" "count" "I", .fieldLink RX3 9 "DeskStack$Shelf" "values" "[J"] ++ wsX30)
def wsX3_rowAt : List Cond := .code yX3_rowAt cX3_rowAt 2 (some (.object "DeskStack$Row")) :: ([.fieldLink RX3 21 "DeskStack$Shelf" "rows" "[LDeskStack$Row;", .methodLink RX3 32 yX3_has, .instanceMethod yX3_has, .selects RX3 yX3_has yX3_has, .initialized RX3, .code yX3_has cX3_has 2 (some .boolean), .fieldLink RX3 28 "DeskStack$Shelf" "count" "I", .fieldLink RX3 9 "DeskStack$Shelf" "values" "[J"] ++ wsX30)
def wsX3_startAt : List Cond := .code yX3_startAt cX3_startAt 2 (some .int) :: ([.fieldLink RX3 25 "DeskStack$Shelf" "starts" "[I", .methodLink RX3 32 yX3_has, .instanceMethod yX3_has, .selects RX3 yX3_has yX3_has, .initialized RX3, .code yX3_has cX3_has 2 (some .boolean), .fieldLink RX3 28 "DeskStack$Shelf" "count" "I", .fieldLink RX3 9 "DeskStack$Shelf" "values" "[J"] ++ wsX30)
def wsX3_set : List Cond := .code yX3_set cX3_set 7 none :: ([.fieldLink RX3 9 "DeskStack$Shelf" "values" "[J", .fieldLink RX3 15 "DeskStack$Shelf" "places" "[I", .fieldLink RX3 21 "DeskStack$Shelf" "rows" "[LDeskStack$Row;", .fieldLink RX3 25 "DeskStack$Shelf" "starts" "[I", .methodLink RX3 32 yX3_has, .instanceMethod yX3_has, .selects RX3 yX3_has yX3_has, .initialized RX3, .code yX3_has cX3_has 2 (some .boolean), .fieldLink RX3 28 "DeskStack$Shelf" "count" "I"] ++ wsX30)
def wsX3_put : List Cond := .code yX3_put cX3_put 6 none :: ([.classLink RX3 62 "java/lang/UnsupportedOperationException", .initialized "java/lang/UnsupportedOperationException", .fieldLink RX3 28 "DeskStack$Shelf" "count" "I", .methodLink RX3 58 yX3_isFull, .instanceMethod yX3_isFull, .selects RX3 yX3_isFull yX3_isFull, .initialized RX3, .code yX3_isFull cX3_isFull 1 (some .boolean), .fieldLink RX3 9 "DeskStack$Shelf" "values" "[J", .methodLink RX3 69 yX3_set, .instanceMethod yX3_set, .selects RX3 yX3_set yX3_set, .code yX3_set cX3_set 7 none, .fieldLink RX3 15 "DeskStack$Shelf" "places" "[I", .fieldLink RX3 21 "DeskStack$Shelf" "rows" "[LDeskStack$Row;", .fieldLink RX3 25 "DeskStack$Shelf" "starts" "[I", .methodLink RX3 32 yX3_has, .instanceMethod yX3_has, .selects RX3 yX3_has yX3_has, .code yX3_has cX3_has 2 (some .boolean)] ++ wsX30 ++ (vx_atS RX3 66 "java/lang/UnsupportedOperationException" ["java/lang/RuntimeException", "java/lang/Exception"]).filter goodWord)
def wsX3_putNumber : List Cond := .code yX3_putNumber cX3_putNumber 4 none :: ([.methodLink RX3 36 yX3_put, .instanceMethod yX3_put, .selects RX3 yX3_put yX3_put, .initialized RX3, .code yX3_put cX3_put 6 none, .classLink RX3 62 "java/lang/UnsupportedOperationException", .initialized "java/lang/UnsupportedOperationException", .fieldLink RX3 28 "DeskStack$Shelf" "count" "I", .methodLink RX3 58 yX3_isFull, .instanceMethod yX3_isFull, .selects RX3 yX3_isFull yX3_isFull, .code yX3_isFull cX3_isFull 1 (some .boolean), .fieldLink RX3 9 "DeskStack$Shelf" "values" "[J", .methodLink RX3 69 yX3_set, .instanceMethod yX3_set, .selects RX3 yX3_set yX3_set, .code yX3_set cX3_set 7 none, .fieldLink RX3 15 "DeskStack$Shelf" "places" "[I", .fieldLink RX3 21 "DeskStack$Shelf" "rows" "[LDeskStack$Row;", .fieldLink RX3 25 "DeskStack$Shelf" "starts" "[I", .methodLink RX3 32 yX3_has, .instanceMethod yX3_has, .selects RX3 yX3_has yX3_has, .code yX3_has cX3_has 2 (some .boolean)] ++ wsX30 ++ (vx_atS RX3 66 "java/lang/UnsupportedOperationException" ["java/lang/RuntimeException", "java/lang/Exception"]).filter goodWord)
def wsX3_putText : List Cond := .code yX3_putText cX3_putText 4 none :: ([.methodLink RX3 36 yX3_put, .instanceMethod yX3_put, .selects RX3 yX3_put yX3_put, .initialized RX3, .code yX3_put cX3_put 6 none, .classLink RX3 62 "java/lang/UnsupportedOperationException", .initialized "java/lang/UnsupportedOperationException", .fieldLink RX3 28 "DeskStack$Shelf" "count" "I", .methodLink RX3 58 yX3_isFull, .instanceMethod yX3_isFull, .selects RX3 yX3_isFull yX3_isFull, .code yX3_isFull cX3_isFull 1 (some .boolean), .fieldLink RX3 9 "DeskStack$Shelf" "values" "[J", .methodLink RX3 69 yX3_set, .instanceMethod yX3_set, .selects RX3 yX3_set yX3_set, .code yX3_set cX3_set 7 none, .fieldLink RX3 15 "DeskStack$Shelf" "places" "[I", .fieldLink RX3 21 "DeskStack$Shelf" "rows" "[LDeskStack$Row;", .fieldLink RX3 25 "DeskStack$Shelf" "starts" "[I", .methodLink RX3 32 yX3_has, .instanceMethod yX3_has, .selects RX3 yX3_has yX3_has, .code yX3_has cX3_has 2 (some .boolean)] ++ wsX30 ++ (vx_atS RX3 66 "java/lang/UnsupportedOperationException" ["java/lang/RuntimeException", "java/lang/Exception"]).filter goodWord)
def wsX3_putTopOf_r1 : List Cond := [Cond.methodLink RX3 40 yX3_slotBelowTop, Cond.instanceMethod yX3_slotBelowTop, Cond.selects RX3 yX3_slotBelowTop yX3_slotBelowTop, Cond.initialized RX3, Cond.code yX3_slotBelowTop cX3_slotBelowTop 2 (some .int), Cond.fieldLink RX3 28 "DeskStack$Shelf" "count" "I", Cond.methodLink RX3 44 yX3_valueAt, Cond.instanceMethod yX3_valueAt, Cond.selects RX3 yX3_valueAt yX3_valueAt, Cond.code yX3_valueAt cX3_valueAt 2 (some .long), Cond.fieldLink RX3 9 "DeskStack$Shelf" "values" "[J", Cond.methodLink RX3 32 yX3_has, Cond.instanceMethod yX3_has, Cond.selects RX3 yX3_has yX3_has, Cond.code yX3_has cX3_has 2 (some .boolean), Cond.methodLink RX3 48 yX3_placesAt, Cond.instanceMethod yX3_placesAt, Cond.selects RX3 yX3_placesAt yX3_placesAt, Cond.code yX3_placesAt cX3_placesAt 2 (some .int), Cond.fieldLink RX3 15 "DeskStack$Shelf" "places" "[I", Cond.methodLink RX3 51 yX3_rowAt, Cond.instanceMethod yX3_rowAt, Cond.selects RX3 yX3_rowAt yX3_rowAt, Cond.code yX3_rowAt cX3_rowAt 2 (some (.object "DeskStack$Row"))]
def wsX3_putTopOf_r2 : List Cond := [Cond.fieldLink RX3 21 "DeskStack$Shelf" "rows" "[LDeskStack$Row;", Cond.methodLink RX3 55 yX3_startAt, Cond.instanceMethod yX3_startAt, Cond.selects RX3 yX3_startAt yX3_startAt, Cond.code yX3_startAt cX3_startAt 2 (some .int), Cond.fieldLink RX3 25 "DeskStack$Shelf" "starts" "[I", Cond.methodLink RX3 36 yX3_put, Cond.instanceMethod yX3_put, Cond.selects RX3 yX3_put yX3_put, Cond.code yX3_put cX3_put 6 none, Cond.classLink RX3 62 "java/lang/UnsupportedOperationException", Cond.initialized "java/lang/UnsupportedOperationException", Cond.methodLink RX3 58 yX3_isFull, Cond.instanceMethod yX3_isFull, Cond.selects RX3 yX3_isFull yX3_isFull, Cond.code yX3_isFull cX3_isFull 1 (some .boolean), Cond.methodLink RX3 69 yX3_set, Cond.instanceMethod yX3_set, Cond.selects RX3 yX3_set yX3_set, Cond.code yX3_set cX3_set 7 none]
def wsX3_putTopOf : List Cond := .code yX3_putTopOf cX3_putTopOf 3 none :: ((wsX3_putTopOf_r1 ++ wsX3_putTopOf_r2) ++ wsX30 ++ (vx_atS RX3 66 "java/lang/UnsupportedOperationException" ["java/lang/RuntimeException", "java/lang/Exception"]).filter goodWord)
def wsX3_swapTopTwo_r1 : List Cond := [Cond.methodLink RX3 40 yX3_slotBelowTop, Cond.instanceMethod yX3_slotBelowTop, Cond.selects RX3 yX3_slotBelowTop yX3_slotBelowTop, Cond.initialized RX3, Cond.code yX3_slotBelowTop cX3_slotBelowTop 2 (some .int), Cond.fieldLink RX3 28 "DeskStack$Shelf" "count" "I", Cond.methodLink RX3 44 yX3_valueAt, Cond.instanceMethod yX3_valueAt, Cond.selects RX3 yX3_valueAt yX3_valueAt, Cond.code yX3_valueAt cX3_valueAt 2 (some .long), Cond.fieldLink RX3 9 "DeskStack$Shelf" "values" "[J", Cond.methodLink RX3 32 yX3_has, Cond.instanceMethod yX3_has, Cond.selects RX3 yX3_has yX3_has, Cond.code yX3_has cX3_has 2 (some .boolean), Cond.methodLink RX3 48 yX3_placesAt, Cond.instanceMethod yX3_placesAt, Cond.selects RX3 yX3_placesAt yX3_placesAt, Cond.code yX3_placesAt cX3_placesAt 2 (some .int), Cond.fieldLink RX3 15 "DeskStack$Shelf" "places" "[I", Cond.methodLink RX3 51 yX3_rowAt, Cond.instanceMethod yX3_rowAt, Cond.selects RX3 yX3_rowAt yX3_rowAt, Cond.code yX3_rowAt cX3_rowAt 2 (some (.object "DeskStack$Row"))]
def wsX3_swapTopTwo_r2 : List Cond := [Cond.fieldLink RX3 21 "DeskStack$Shelf" "rows" "[LDeskStack$Row;", Cond.methodLink RX3 55 yX3_startAt, Cond.instanceMethod yX3_startAt, Cond.selects RX3 yX3_startAt yX3_startAt, Cond.code yX3_startAt cX3_startAt 2 (some .int), Cond.fieldLink RX3 25 "DeskStack$Shelf" "starts" "[I", Cond.methodLink RX3 69 yX3_set, Cond.instanceMethod yX3_set, Cond.selects RX3 yX3_set yX3_set, Cond.code yX3_set cX3_set 7 none]
def wsX3_swapTopTwo : List Cond := .code yX3_swapTopTwo cX3_swapTopTwo 8 none :: ((wsX3_swapTopTwo_r1 ++ wsX3_swapTopTwo_r2) ++ wsX30)
def wsX3_drop : List Cond := .code yX3_drop cX3_drop 2 none :: ([.fieldLink RX3 28 "DeskStack$Shelf" "count" "I", .methodLink RX3 73 Lib.Math.max.name, .static Lib.Math.max.name, .initialized "java/lang/Math", .code Lib.Math.max.name Lib.Math.max.code 2 (some .int)] ++ wsX30)
def wsX3_clear : List Cond := .code yX3_clear cX3_clear 1 none :: ([.fieldLink RX3 28 "DeskStack$Shelf" "count" "I"] ++ wsX30)
def wsX4_init_r1 : List Cond := [Cond.methodLink RX4 1 objectInit, Cond.instanceMethod objectInit, Cond.code objectInit ⟨#[0xb1]⟩ 1 none, Cond.classLink RX4 7 RX3, Cond.instantiable RX3 5, Cond.initialized RX3, Cond.fieldLink RX4 14 "DeskStack" "stack" "LDeskStack$Shelf;", Cond.fieldLink RX4 18 "DeskStack" "registers" "[LDeskStack$Shelf;", Cond.fieldLink RX4 22 "DeskStack" "printer" "LDeskStack$Shelf;", Cond.classLink RX4 25 RX1, Cond.instantiable RX1 4, Cond.initialized RX1, Cond.fieldLink RX4 28 "DeskStack" "texts" "LDeskStack$Nest;", Cond.classLink RX4 32 RX2, Cond.instantiable RX2 2, Cond.initialized RX2, Cond.fieldLink RX4 35 "DeskStack" "program" "LDeskStack$Row;", Cond.fieldLink RX4 39 "DeskStack" "keptPlaces" "I", Cond.fieldLink RX4 43 "DeskStack" "commandsDone" "I", Cond.methodLink RX4 11 yX3_init, Cond.instanceMethod yX3_init, Cond.code yX3_init cX3_init 3 none, Cond.methodLink RX3 3 objectInit, Cond.arrayClass .long]
def wsX4_init_r2 : List Cond := [Cond.fieldLink RX3 9 "DeskStack$Shelf" "values" "[J", Cond.arrayClass .int, Cond.fieldLink RX3 15 "DeskStack$Shelf" "places" "[I", Cond.classLink RX3 19 RX2, Cond.fieldLink RX3 21 "DeskStack$Shelf" "rows" "[LDeskStack$Row;", Cond.fieldLink RX3 25 "DeskStack$Shelf" "starts" "[I", Cond.fieldLink RX3 28 "DeskStack$Shelf" "count" "I", Cond.methodLink RX4 27 yX1_init, Cond.instanceMethod yX1_init, Cond.code yX1_init cX1_init 1 none, Cond.methodLink RX1 3 objectInit, Cond.classLink RX1 9 RX2, Cond.fieldLink RX1 11 "DeskStack$Nest" "rows" "[LDeskStack$Row;", Cond.fieldLink RX1 17 "DeskStack$Nest" "positions" "[I", Cond.fieldLink RX1 21 "DeskStack$Nest" "ends" "[I", Cond.fieldLink RX1 24 "DeskStack$Nest" "count" "I", Cond.methodLink RX4 34 yX2_init, Cond.instanceMethod yX2_init, Cond.code yX2_init cX2_init 1 none, Cond.methodLink RX2 3 objectInit, Cond.arrayClass .byte, Cond.fieldLink RX2 9 "DeskStack$Row" "chars" "[B", Cond.fieldLink RX2 15 "DeskStack$Row" "size" "I"]
def wsX4_init : List Cond := .code yX4_init cX4_init 2 none :: ((wsX4_init_r1 ++ wsX4_init_r2) ++ wsX30 ++ wsX40 ++ wsX10 ++ wsX20)
def wsX4_charOf : List Cond := .code yX4_charOf cX4_charOf 3 (some .int) :: ([])
def wsX4_write : List Cond := .code yX4_write cX4_write 5 (some .int) :: ([.fieldLink RX4 35 "DeskStack" "program" "LDeskStack$Row;", .fieldLink RX4 50 "DeskStack$Row" "size" "I", .methodLink RX4 46 yX4_charOf, .static yX4_charOf, .initialized RX4, .code yX4_charOf cX4_charOf 3 (some .int), .methodLink RX4 53 yX2_append, .instanceMethod yX2_append, .selects RX2 yX2_append yX2_append, .initialized RX2, .code yX2_append cX2_append 2 none, .fieldLink RX2 15 "DeskStack$Row" "size" "I", .fieldLink RX2 9 "DeskStack$Row" "chars" "[B"] ++ wsX40 ++ wsX20)
def wsX4_erase : List Cond := .code yX4_erase cX4_erase 2 (some .int) :: ([.fieldLink RX4 35 "DeskStack" "program" "LDeskStack$Row;", .fieldLink RX4 50 "DeskStack$Row" "size" "I", .classLink RX4 32 RX2, .instantiable RX2 2, .initialized RX2, .methodLink RX4 34 yX2_init, .instanceMethod yX2_init, .code yX2_init cX2_init 1 none, .methodLink RX2 3 objectInit, .instanceMethod objectInit, .code objectInit ⟨#[0xb1]⟩ 1 none, .arrayClass .byte, .fieldLink RX2 9 "DeskStack$Row" "chars" "[B", .fieldLink RX2 15 "DeskStack$Row" "size" "I"] ++ wsX40 ++ wsX20)
def wsX4_isDigit : List Cond := .code yX4_isDigit cX4_isDigit 1 (some .boolean) :: ([])
def wsX4_beginsNumber : List Cond := .code yX4_beginsNumber cX4_beginsNumber 1 (some .boolean) :: ([.methodLink RX4 142 yX4_isDigit, .static yX4_isDigit, .initialized RX4, .code yX4_isDigit cX4_isDigit 1 (some .boolean)])
def wsX4_putWrittenNumber_r1 : List Cond := [Cond.classLink RX4 56 "java/lang/IllegalArgumentException", Cond.initialized "java/lang/IllegalArgumentException", Cond.fieldLink RX4 28 "DeskStack" "texts" "LDeskStack$Nest;", Cond.constantLong RX4 145 (10), Cond.fieldLink RX4 14 "DeskStack" "stack" "LDeskStack$Shelf;", Cond.methodLink RX4 80 yX1_look, Cond.instanceMethod yX1_look, Cond.selects RX1 yX1_look yX1_look, Cond.initialized RX1, Cond.code yX1_look cX1_look 2 (some .int), Cond.fieldLink RX1 17 "DeskStack$Nest" "positions" "[I", Cond.fieldLink RX1 24 "DeskStack$Nest" "count" "I", Cond.fieldLink RX1 21 "DeskStack$Nest" "ends" "[I", Cond.fieldLink RX1 11 "DeskStack$Nest" "rows" "[LDeskStack$Row;", Cond.methodLink RX1 55 yX1_isUnderWay, Cond.instanceMethod yX1_isUnderWay, Cond.selects RX1 yX1_isUnderWay yX1_isUnderWay, Cond.code yX1_isUnderWay cX1_isUnderWay 1 (some .boolean), Cond.methodLink RX1 59 yX2_charAt, Cond.instanceMethod yX2_charAt, Cond.selects RX2 yX2_charAt yX2_charAt, Cond.initialized RX2, Cond.code yX2_charAt cX2_charAt 2 (some .int), Cond.fieldLink RX2 15 "DeskStack$Row" "size" "I"]
def wsX4_putWrittenNumber_r2 : List Cond := [Cond.fieldLink RX2 9 "DeskStack$Row" "chars" "[B", Cond.methodLink RX4 118 yX1_pass, Cond.instanceMethod yX1_pass, Cond.selects RX1 yX1_pass yX1_pass, Cond.code yX1_pass cX1_pass 1 none, Cond.methodLink RX4 142 yX4_isDigit, Cond.static yX4_isDigit, Cond.initialized RX4, Cond.code yX4_isDigit cX4_isDigit 1 (some .boolean), Cond.methodLink RX4 149 yX3_putNumber, Cond.instanceMethod yX3_putNumber, Cond.selects RX3 yX3_putNumber yX3_putNumber, Cond.initialized RX3, Cond.code yX3_putNumber cX3_putNumber 4 none, Cond.methodLink RX3 36 yX3_put, Cond.instanceMethod yX3_put, Cond.selects RX3 yX3_put yX3_put, Cond.code yX3_put cX3_put 6 none, Cond.classLink RX3 62 "java/lang/UnsupportedOperationException", Cond.initialized "java/lang/UnsupportedOperationException", Cond.fieldLink RX3 28 "DeskStack$Shelf" "count" "I", Cond.methodLink RX3 58 yX3_isFull, Cond.instanceMethod yX3_isFull, Cond.selects RX3 yX3_isFull yX3_isFull]
def wsX4_putWrittenNumber_r3 : List Cond := [Cond.code yX3_isFull cX3_isFull 1 (some .boolean), Cond.fieldLink RX3 9 "DeskStack$Shelf" "values" "[J", Cond.methodLink RX3 69 yX3_set, Cond.instanceMethod yX3_set, Cond.selects RX3 yX3_set yX3_set, Cond.code yX3_set cX3_set 7 none, Cond.fieldLink RX3 15 "DeskStack$Shelf" "places" "[I", Cond.fieldLink RX3 21 "DeskStack$Shelf" "rows" "[LDeskStack$Row;", Cond.fieldLink RX3 25 "DeskStack$Shelf" "starts" "[I", Cond.methodLink RX3 32 yX3_has, Cond.instanceMethod yX3_has, Cond.selects RX3 yX3_has yX3_has, Cond.code yX3_has cX3_has 2 (some .boolean)]
def wsX4_putWrittenNumber : List Cond := .code yX4_putWrittenNumber cX4_putWrittenNumber 9 none :: ((wsX4_putWrittenNumber_r1 ++ (wsX4_putWrittenNumber_r2 ++ wsX4_putWrittenNumber_r3)) ++ wsX40 ++ wsX10 ++ wsX20 ++ wsX30 ++ (vx_atS RX4 60 "java/lang/IllegalArgumentException" ["java/lang/RuntimeException", "java/lang/Exception"]).filter goodWord ++ (vx_atS RX3 66 "java/lang/UnsupportedOperationException" ["java/lang/RuntimeException", "java/lang/Exception"]).filter goodWord)
def wsX4_putWrittenText_r1 : List Cond := [Cond.classLink RX4 56 "java/lang/IllegalArgumentException", Cond.initialized "java/lang/IllegalArgumentException", Cond.fieldLink RX4 28 "DeskStack" "texts" "LDeskStack$Nest;", Cond.fieldLink RX4 14 "DeskStack" "stack" "LDeskStack$Shelf;", Cond.methodLink RX4 153 yX1_innermostRow, Cond.instanceMethod yX1_innermostRow, Cond.selects RX1 yX1_innermostRow yX1_innermostRow, Cond.initialized RX1, Cond.code yX1_innermostRow cX1_innermostRow 1 (some (.object "DeskStack$Row")), Cond.fieldLink RX1 11 "DeskStack$Nest" "rows" "[LDeskStack$Row;", Cond.fieldLink RX1 24 "DeskStack$Nest" "count" "I", Cond.methodLink RX1 55 yX1_isUnderWay, Cond.instanceMethod yX1_isUnderWay, Cond.selects RX1 yX1_isUnderWay yX1_isUnderWay, Cond.code yX1_isUnderWay cX1_isUnderWay 1 (some .boolean), Cond.methodLink RX4 157 yX1_position, Cond.instanceMethod yX1_position, Cond.selects RX1 yX1_position yX1_position, Cond.code yX1_position cX1_position 1 (some .int), Cond.fieldLink RX1 17 "DeskStack$Nest" "positions" "[I", Cond.methodLink RX4 80 yX1_look, Cond.instanceMethod yX1_look, Cond.selects RX1 yX1_look yX1_look, Cond.code yX1_look cX1_look 2 (some .int)]
def wsX4_putWrittenText_r2 : List Cond := [Cond.fieldLink RX1 21 "DeskStack$Nest" "ends" "[I", Cond.methodLink RX1 59 yX2_charAt, Cond.instanceMethod yX2_charAt, Cond.selects RX2 yX2_charAt yX2_charAt, Cond.initialized RX2, Cond.code yX2_charAt cX2_charAt 2 (some .int), Cond.fieldLink RX2 15 "DeskStack$Row" "size" "I", Cond.fieldLink RX2 9 "DeskStack$Row" "chars" "[B", Cond.methodLink RX4 118 yX1_pass, Cond.instanceMethod yX1_pass, Cond.selects RX1 yX1_pass yX1_pass, Cond.code yX1_pass cX1_pass 1 none, Cond.methodLink RX4 162 yX3_putText, Cond.instanceMethod yX3_putText, Cond.selects RX3 yX3_putText yX3_putText, Cond.initialized RX3, Cond.code yX3_putText cX3_putText 4 none, Cond.methodLink RX3 36 yX3_put, Cond.instanceMethod yX3_put, Cond.selects RX3 yX3_put yX3_put, Cond.code yX3_put cX3_put 6 none, Cond.classLink RX3 62 "java/lang/UnsupportedOperationException", Cond.initialized "java/lang/UnsupportedOperationException", Cond.fieldLink RX3 28 "DeskStack$Shelf" "count" "I"]
def wsX4_putWrittenText_r3 : List Cond := [Cond.methodLink RX3 58 yX3_isFull, Cond.instanceMethod yX3_isFull, Cond.selects RX3 yX3_isFull yX3_isFull, Cond.code yX3_isFull cX3_isFull 1 (some .boolean), Cond.fieldLink RX3 9 "DeskStack$Shelf" "values" "[J", Cond.methodLink RX3 69 yX3_set, Cond.instanceMethod yX3_set, Cond.selects RX3 yX3_set yX3_set, Cond.code yX3_set cX3_set 7 none, Cond.fieldLink RX3 15 "DeskStack$Shelf" "places" "[I", Cond.fieldLink RX3 21 "DeskStack$Shelf" "rows" "[LDeskStack$Row;", Cond.fieldLink RX3 25 "DeskStack$Shelf" "starts" "[I", Cond.methodLink RX3 32 yX3_has, Cond.instanceMethod yX3_has, Cond.selects RX3 yX3_has yX3_has, Cond.code yX3_has cX3_has 2 (some .boolean)]
def wsX4_putWrittenText : List Cond := .code yX4_putWrittenText cX4_putWrittenText 6 none :: ((wsX4_putWrittenText_r1 ++ (wsX4_putWrittenText_r2 ++ wsX4_putWrittenText_r3)) ++ wsX40 ++ wsX10 ++ wsX20 ++ wsX30 ++ (vx_atS RX4 60 "java/lang/IllegalArgumentException" ["java/lang/RuntimeException", "java/lang/Exception"]).filter goodWord ++ (vx_atS RX3 66 "java/lang/UnsupportedOperationException" ["java/lang/RuntimeException", "java/lang/Exception"]).filter goodWord)
def wsX4_needItems : List Cond := .code yX4_needItems cX4_needItems 2 none :: ([.classLink RX4 165 "java/lang/IllegalStateException", .initialized "java/lang/IllegalStateException", .fieldLink RX4 14 "DeskStack" "stack" "LDeskStack$Shelf;", .fieldLink RX4 95 "DeskStack$Shelf" "count" "I"] ++ wsX40 ++ wsX30 ++ (vx_atS RX4 169 "java/lang/IllegalStateException" ["java/lang/RuntimeException", "java/lang/Exception"]).filter goodWord)
def wsX4_needNumbers_r1 : List Cond := [Cond.classLink RX4 177 "java/lang/IndexOutOfBoundsException", Cond.initialized "java/lang/IndexOutOfBoundsException", Cond.fieldLink RX4 14 "DeskStack" "stack" "LDeskStack$Shelf;", Cond.methodLink RX4 170 yX4_needItems, Cond.instanceMethod yX4_needItems, Cond.selects RX4 yX4_needItems yX4_needItems, Cond.initialized RX4, Cond.code yX4_needItems cX4_needItems 2 none, Cond.classLink RX4 165 "java/lang/IllegalStateException", Cond.initialized "java/lang/IllegalStateException", Cond.fieldLink RX4 95 "DeskStack$Shelf" "count" "I", Cond.methodLink RX4 104 yX3_slotBelowTop, Cond.instanceMethod yX3_slotBelowTop, Cond.selects RX3 yX3_slotBelowTop yX3_slotBelowTop, Cond.initialized RX3, Cond.code yX3_slotBelowTop cX3_slotBelowTop 2 (some .int), Cond.fieldLink RX3 28 "DeskStack$Shelf" "count" "I", Cond.methodLink RX4 173 yX3_rowAt, Cond.instanceMethod yX3_rowAt, Cond.selects RX3 yX3_rowAt yX3_rowAt, Cond.code yX3_rowAt cX3_rowAt 2 (some (.object "DeskStack$Row")), Cond.fieldLink RX3 21 "DeskStack$Shelf" "rows" "[LDeskStack$Row;", Cond.methodLink RX3 32 yX3_has, Cond.instanceMethod yX3_has]
def wsX4_needNumbers_r2 : List Cond := [Cond.selects RX3 yX3_has yX3_has, Cond.code yX3_has cX3_has 2 (some .boolean), Cond.fieldLink RX3 9 "DeskStack$Shelf" "values" "[J"]
def wsX4_needNumbers : List Cond := .code yX4_needNumbers cX4_needNumbers 3 none :: ((wsX4_needNumbers_r1 ++ wsX4_needNumbers_r2) ++ wsX40 ++ wsX30 ++ (vx_atS RX4 181 "java/lang/IndexOutOfBoundsException" ["java/lang/RuntimeException", "java/lang/Exception"]).filter goodWord ++ (vx_atS RX4 169 "java/lang/IllegalStateException" ["java/lang/RuntimeException", "java/lang/Exception"]).filter goodWord)
def wsX4_calculate_r1 : List Cond := [Cond.fieldLink RX4 14 "DeskStack" "stack" "LDeskStack$Shelf;", Cond.methodLink RX4 185 Lib.Math.max.name, Cond.static Lib.Math.max.name, Cond.initialized "java/lang/Math", Cond.code Lib.Math.max.name Lib.Math.max.code 2 (some .int), Cond.fieldLink RX4 39 "DeskStack" "keptPlaces" "I", Cond.methodLink RX4 197 Lib.Math.min.name, Cond.static Lib.Math.min.name, Cond.code Lib.Math.min.name Lib.Math.min.code 2 (some .int), Cond.methodLink RX4 182 yX4_needNumbers, Cond.instanceMethod yX4_needNumbers, Cond.selects RX4 yX4_needNumbers yX4_needNumbers, Cond.initialized RX4, Cond.code yX4_needNumbers cX4_needNumbers 3 none, Cond.classLink RX4 177 "java/lang/IndexOutOfBoundsException", Cond.initialized "java/lang/IndexOutOfBoundsException", Cond.methodLink RX4 170 yX4_needItems, Cond.instanceMethod yX4_needItems, Cond.selects RX4 yX4_needItems yX4_needItems, Cond.code yX4_needItems cX4_needItems 2 none, Cond.classLink RX4 165 "java/lang/IllegalStateException", Cond.initialized "java/lang/IllegalStateException", Cond.fieldLink RX4 95 "DeskStack$Shelf" "count" "I", Cond.methodLink RX4 104 yX3_slotBelowTop]
def wsX4_calculate_r2 : List Cond := [Cond.instanceMethod yX3_slotBelowTop, Cond.selects RX3 yX3_slotBelowTop yX3_slotBelowTop, Cond.initialized RX3, Cond.code yX3_slotBelowTop cX3_slotBelowTop 2 (some .int), Cond.fieldLink RX3 28 "DeskStack$Shelf" "count" "I", Cond.methodLink RX4 173 yX3_rowAt, Cond.instanceMethod yX3_rowAt, Cond.selects RX3 yX3_rowAt yX3_rowAt, Cond.code yX3_rowAt cX3_rowAt 2 (some (.object "DeskStack$Row")), Cond.fieldLink RX3 21 "DeskStack$Shelf" "rows" "[LDeskStack$Row;", Cond.methodLink RX3 32 yX3_has, Cond.instanceMethod yX3_has, Cond.selects RX3 yX3_has yX3_has, Cond.code yX3_has cX3_has 2 (some .boolean), Cond.fieldLink RX3 9 "DeskStack$Shelf" "values" "[J", Cond.methodLink RX4 96 yX3_valueAt, Cond.instanceMethod yX3_valueAt, Cond.selects RX3 yX3_valueAt yX3_valueAt, Cond.code yX3_valueAt cX3_valueAt 2 (some .long), Cond.methodLink RX4 100 yX3_placesAt, Cond.instanceMethod yX3_placesAt, Cond.selects RX3 yX3_placesAt yX3_placesAt, Cond.code yX3_placesAt cX3_placesAt 2 (some .int), Cond.fieldLink RX3 15 "DeskStack$Shelf" "places" "[I"]
def wsX4_calculate_r3 : List Cond := [Cond.methodLink RX4 191 yX0_sum, Cond.static yX0_sum, Cond.initialized RX0, Cond.code yX0_sum cX0_sum 7 (some .long), Cond.methodLink RX0 9 Lib.Math.max.name, Cond.methodLink RX0 15 yX0_raise, Cond.static yX0_raise, Cond.code yX0_raise cX0_raise 3 (some .long), Cond.methodLink RX0 74 yX0_powerOfTen, Cond.static yX0_powerOfTen, Cond.code yX0_powerOfTen cX0_powerOfTen 1 (some .long), Cond.fieldLink RX0 78 "DeskStack$Decimal" "POWERS" "[J", Cond.methodLink RX0 82 Lib.Math.min.name, Cond.methodLink RX0 58 yX0_times, Cond.static yX0_times, Cond.code yX0_times cX0_times 4 (some .long), Cond.classLink RX0 36 "java/lang/UnsupportedOperationException", Cond.initialized "java/lang/UnsupportedOperationException", Cond.methodLink RX0 31 Lib.MathLoose.abs_long.x, Cond.static Lib.MathLoose.abs_long.x, Cond.code Lib.MathLoose.abs_long.x Lib.MathLoose.abs_long.code 2 (some .long), Cond.constantLong RX0 34 (999999999999999999), Cond.methodLink RX0 21 yX0_fitting, Cond.static yX0_fitting]
def wsX4_calculate_r4 : List Cond := [Cond.code yX0_fitting cX0_fitting 2 (some .long), Cond.methodLink RX4 200 yX0_times, Cond.methodLink RX4 204 yX0_cutOff, Cond.static yX0_cutOff, Cond.code yX0_cutOff cX0_cutOff 3 (some .long), Cond.methodLink RX0 48 yX0_divide, Cond.static yX0_divide, Cond.code yX0_divide cX0_divide 4 (some .long), Cond.methodLink RX4 208 yX0_quotient, Cond.static yX0_quotient, Cond.code yX0_quotient cX0_quotient 8 (some .long), Cond.classLink RX0 43 "java/lang/ArithmeticException", Cond.initialized "java/lang/ArithmeticException", Cond.methodLink RX4 212 yX0_remainder, Cond.static yX0_remainder, Cond.code yX0_remainder cX0_remainder 13 (some .long), Cond.methodLink RX0 52 yX0_quotient, Cond.methodLink RX4 215 yX3_drop, Cond.instanceMethod yX3_drop, Cond.selects RX3 yX3_drop yX3_drop, Cond.code yX3_drop cX3_drop 2 none, Cond.methodLink RX3 73 Lib.Math.max.name, Cond.methodLink RX4 149 yX3_putNumber, Cond.instanceMethod yX3_putNumber]
def wsX4_calculate_r5 : List Cond := [Cond.selects RX3 yX3_putNumber yX3_putNumber, Cond.code yX3_putNumber cX3_putNumber 4 none, Cond.methodLink RX3 36 yX3_put, Cond.instanceMethod yX3_put, Cond.selects RX3 yX3_put yX3_put, Cond.code yX3_put cX3_put 6 none, Cond.classLink RX3 62 "java/lang/UnsupportedOperationException", Cond.methodLink RX3 58 yX3_isFull, Cond.instanceMethod yX3_isFull, Cond.selects RX3 yX3_isFull yX3_isFull, Cond.code yX3_isFull cX3_isFull 1 (some .boolean), Cond.methodLink RX3 69 yX3_set, Cond.instanceMethod yX3_set, Cond.selects RX3 yX3_set yX3_set, Cond.code yX3_set cX3_set 7 none, Cond.fieldLink RX3 25 "DeskStack$Shelf" "starts" "[I"]
def wsX4_calculate : List Cond := .code yX4_calculate cX4_calculate 12 none :: ((wsX4_calculate_r1 ++ (wsX4_calculate_r2 ++ (wsX4_calculate_r3 ++ (wsX4_calculate_r4 ++ wsX4_calculate_r5)))) ++ wsX40 ++ wsX30 ++ (vx_atS RX4 181 "java/lang/IndexOutOfBoundsException" ["java/lang/RuntimeException", "java/lang/Exception"]).filter goodWord ++ (vx_atS RX4 169 "java/lang/IllegalStateException" ["java/lang/RuntimeException", "java/lang/Exception"]).filter goodWord ++ (vx_atS RX0 40 "java/lang/UnsupportedOperationException" ["java/lang/RuntimeException", "java/lang/Exception"]).filter goodWord ++ (vx_atS RX0 47 "java/lang/ArithmeticException" ["java/lang/RuntimeException", "java/lang/Exception"]).filter goodWord ++ (vx_atS RX3 66 "java/lang/UnsupportedOperationException" ["java/lang/RuntimeException", "java/lang/Exception"]).filter goodWord)
def wsX4_changeNumber_r1 : List Cond := [Cond.fieldLink RX4 14 "DeskStack" "stack" "LDeskStack$Shelf;", Cond.fieldLink RX4 39 "DeskStack" "keptPlaces" "I", Cond.methodLink RX4 185 Lib.Math.max.name, Cond.static Lib.Math.max.name, Cond.initialized "java/lang/Math", Cond.code Lib.Math.max.name Lib.Math.max.code 2 (some .int), Cond.methodLink RX4 182 yX4_needNumbers, Cond.instanceMethod yX4_needNumbers, Cond.selects RX4 yX4_needNumbers yX4_needNumbers, Cond.initialized RX4, Cond.code yX4_needNumbers cX4_needNumbers 3 none, Cond.classLink RX4 177 "java/lang/IndexOutOfBoundsException", Cond.initialized "java/lang/IndexOutOfBoundsException", Cond.methodLink RX4 170 yX4_needItems, Cond.instanceMethod yX4_needItems, Cond.selects RX4 yX4_needItems yX4_needItems, Cond.code yX4_needItems cX4_needItems 2 none, Cond.classLink RX4 165 "java/lang/IllegalStateException", Cond.initialized "java/lang/IllegalStateException", Cond.fieldLink RX4 95 "DeskStack$Shelf" "count" "I", Cond.methodLink RX4 104 yX3_slotBelowTop, Cond.instanceMethod yX3_slotBelowTop, Cond.selects RX3 yX3_slotBelowTop yX3_slotBelowTop, Cond.initialized RX3]
def wsX4_changeNumber_r2 : List Cond := [Cond.code yX3_slotBelowTop cX3_slotBelowTop 2 (some .int), Cond.fieldLink RX3 28 "DeskStack$Shelf" "count" "I", Cond.methodLink RX4 173 yX3_rowAt, Cond.instanceMethod yX3_rowAt, Cond.selects RX3 yX3_rowAt yX3_rowAt, Cond.code yX3_rowAt cX3_rowAt 2 (some (.object "DeskStack$Row")), Cond.fieldLink RX3 21 "DeskStack$Shelf" "rows" "[LDeskStack$Row;", Cond.methodLink RX3 32 yX3_has, Cond.instanceMethod yX3_has, Cond.selects RX3 yX3_has yX3_has, Cond.code yX3_has cX3_has 2 (some .boolean), Cond.fieldLink RX3 9 "DeskStack$Shelf" "values" "[J", Cond.methodLink RX4 96 yX3_valueAt, Cond.instanceMethod yX3_valueAt, Cond.selects RX3 yX3_valueAt yX3_valueAt, Cond.code yX3_valueAt cX3_valueAt 2 (some .long), Cond.methodLink RX4 100 yX3_placesAt, Cond.instanceMethod yX3_placesAt, Cond.selects RX3 yX3_placesAt yX3_placesAt, Cond.code yX3_placesAt cX3_placesAt 2 (some .int), Cond.fieldLink RX3 15 "DeskStack$Shelf" "places" "[I", Cond.methodLink RX4 218 yX0_asPlaces, Cond.static yX0_asPlaces, Cond.initialized RX0]
def wsX4_changeNumber_r3 : List Cond := [Cond.code yX0_asPlaces cX0_asPlaces 5 (some .int), Cond.classLink RX0 43 "java/lang/ArithmeticException", Cond.initialized "java/lang/ArithmeticException", Cond.constantLong RX0 70 (9), Cond.methodLink RX0 67 yX0_cutOff, Cond.static yX0_cutOff, Cond.code yX0_cutOff cX0_cutOff 3 (some .long), Cond.methodLink RX0 74 yX0_powerOfTen, Cond.static yX0_powerOfTen, Cond.code yX0_powerOfTen cX0_powerOfTen 1 (some .long), Cond.fieldLink RX0 78 "DeskStack$Decimal" "POWERS" "[J", Cond.methodLink RX0 9 Lib.Math.max.name, Cond.methodLink RX0 82 Lib.Math.min.name, Cond.static Lib.Math.min.name, Cond.code Lib.Math.min.name Lib.Math.min.code 2 (some .int), Cond.methodLink RX0 48 yX0_divide, Cond.static yX0_divide, Cond.code yX0_divide cX0_divide 4 (some .long), Cond.methodLink RX0 15 yX0_raise, Cond.static yX0_raise, Cond.code yX0_raise cX0_raise 3 (some .long), Cond.methodLink RX0 58 yX0_times, Cond.static yX0_times, Cond.code yX0_times cX0_times 4 (some .long)]
def wsX4_changeNumber_r4 : List Cond := [Cond.classLink RX0 36 "java/lang/UnsupportedOperationException", Cond.initialized "java/lang/UnsupportedOperationException", Cond.methodLink RX0 31 Lib.MathLoose.abs_long.x, Cond.static Lib.MathLoose.abs_long.x, Cond.code Lib.MathLoose.abs_long.x Lib.MathLoose.abs_long.code 2 (some .long), Cond.constantLong RX0 34 (999999999999999999), Cond.methodLink RX4 215 yX3_drop, Cond.instanceMethod yX3_drop, Cond.selects RX3 yX3_drop yX3_drop, Cond.code yX3_drop cX3_drop 2 none, Cond.methodLink RX3 73 Lib.Math.max.name, Cond.methodLink RX4 221 yX0_root, Cond.static yX0_root, Cond.code yX0_root cX0_root 13 (some .long), Cond.constantLong RX0 63 (999999999), Cond.constantLong RX0 65 (2), Cond.methodLink RX4 149 yX3_putNumber, Cond.instanceMethod yX3_putNumber, Cond.selects RX3 yX3_putNumber yX3_putNumber, Cond.code yX3_putNumber cX3_putNumber 4 none, Cond.methodLink RX3 36 yX3_put, Cond.instanceMethod yX3_put, Cond.selects RX3 yX3_put yX3_put, Cond.code yX3_put cX3_put 6 none]
def wsX4_changeNumber_r5 : List Cond := [Cond.classLink RX3 62 "java/lang/UnsupportedOperationException", Cond.methodLink RX3 58 yX3_isFull, Cond.instanceMethod yX3_isFull, Cond.selects RX3 yX3_isFull yX3_isFull, Cond.code yX3_isFull cX3_isFull 1 (some .boolean), Cond.methodLink RX3 69 yX3_set, Cond.instanceMethod yX3_set, Cond.selects RX3 yX3_set yX3_set, Cond.code yX3_set cX3_set 7 none, Cond.fieldLink RX3 25 "DeskStack$Shelf" "starts" "[I"]
def wsX4_changeNumber : List Cond := .code yX4_changeNumber cX4_changeNumber 8 none :: ((wsX4_changeNumber_r1 ++ (wsX4_changeNumber_r2 ++ (wsX4_changeNumber_r3 ++ (wsX4_changeNumber_r4 ++ wsX4_changeNumber_r5)))) ++ wsX40 ++ wsX30 ++ (vx_atS RX4 181 "java/lang/IndexOutOfBoundsException" ["java/lang/RuntimeException", "java/lang/Exception"]).filter goodWord ++ (vx_atS RX4 169 "java/lang/IllegalStateException" ["java/lang/RuntimeException", "java/lang/Exception"]).filter goodWord ++ (vx_atS RX0 47 "java/lang/ArithmeticException" ["java/lang/RuntimeException", "java/lang/Exception"]).filter goodWord ++ (vx_atS RX0 40 "java/lang/UnsupportedOperationException" ["java/lang/RuntimeException", "java/lang/Exception"]).filter goodWord ++ (vx_atS RX3 66 "java/lang/UnsupportedOperationException" ["java/lang/RuntimeException", "java/lang/Exception"]).filter goodWord)
def wsX4_registerNumbered : List Cond := .code yX4_registerNumbered cX4_registerNumbered 2 (some (.object "DeskStack$Shelf")) :: ([.fieldLink RX4 18 "DeskStack" "registers" "[LDeskStack$Shelf;"] ++ wsX40)
def wsX4_registerOfLetter_r1 : List Cond := [Cond.classLink RX4 56 "java/lang/IllegalArgumentException", Cond.initialized "java/lang/IllegalArgumentException", Cond.fieldLink RX4 28 "DeskStack" "texts" "LDeskStack$Nest;", Cond.methodLink RX4 80 yX1_look, Cond.instanceMethod yX1_look, Cond.selects RX1 yX1_look yX1_look, Cond.initialized RX1, Cond.code yX1_look cX1_look 2 (some .int), Cond.fieldLink RX1 17 "DeskStack$Nest" "positions" "[I", Cond.fieldLink RX1 24 "DeskStack$Nest" "count" "I", Cond.fieldLink RX1 21 "DeskStack$Nest" "ends" "[I", Cond.fieldLink RX1 11 "DeskStack$Nest" "rows" "[LDeskStack$Row;", Cond.methodLink RX1 55 yX1_isUnderWay, Cond.instanceMethod yX1_isUnderWay, Cond.selects RX1 yX1_isUnderWay yX1_isUnderWay, Cond.code yX1_isUnderWay cX1_isUnderWay 1 (some .boolean), Cond.methodLink RX1 59 yX2_charAt, Cond.instanceMethod yX2_charAt, Cond.selects RX2 yX2_charAt yX2_charAt, Cond.initialized RX2, Cond.code yX2_charAt cX2_charAt 2 (some .int), Cond.fieldLink RX2 15 "DeskStack$Row" "size" "I", Cond.fieldLink RX2 9 "DeskStack$Row" "chars" "[B", Cond.methodLink RX4 107 yX4_registerNumbered]
def wsX4_registerOfLetter_r2 : List Cond := [Cond.instanceMethod yX4_registerNumbered, Cond.selects RX4 yX4_registerNumbered yX4_registerNumbered, Cond.initialized RX4, Cond.code yX4_registerNumbered cX4_registerNumbered 2 (some (.object "DeskStack$Shelf")), Cond.fieldLink RX4 18 "DeskStack" "registers" "[LDeskStack$Shelf;", Cond.methodLink RX4 118 yX1_pass, Cond.instanceMethod yX1_pass, Cond.selects RX1 yX1_pass yX1_pass, Cond.code yX1_pass cX1_pass 1 none]
def wsX4_registerOfLetter : List Cond := .code yX4_registerOfLetter cX4_registerOfLetter 2 (some (.object "DeskStack$Shelf")) :: ((wsX4_registerOfLetter_r1 ++ wsX4_registerOfLetter_r2) ++ wsX40 ++ wsX10 ++ wsX20 ++ (vx_atS RX4 60 "java/lang/IllegalArgumentException" ["java/lang/RuntimeException", "java/lang/Exception"]).filter goodWord)
def wsX4_needHeld : List Cond := .code yX4_needHeld cX4_needHeld 1 none :: ([.classLink RX4 165 "java/lang/IllegalStateException", .initialized "java/lang/IllegalStateException", .fieldLink RX4 95 "DeskStack$Shelf" "count" "I"] ++ wsX30 ++ (vx_atS RX4 169 "java/lang/IllegalStateException" ["java/lang/RuntimeException", "java/lang/Exception"]).filter goodWord)
def wsX4_moveToOrFromRegister_r1 : List Cond := [Cond.fieldLink RX4 14 "DeskStack" "stack" "LDeskStack$Shelf;", Cond.methodLink RX4 242 yX4_registerOfLetter, Cond.instanceMethod yX4_registerOfLetter, Cond.selects RX4 yX4_registerOfLetter yX4_registerOfLetter, Cond.initialized RX4, Cond.code yX4_registerOfLetter cX4_registerOfLetter 2 (some (.object "DeskStack$Shelf")), Cond.classLink RX4 56 "java/lang/IllegalArgumentException", Cond.initialized "java/lang/IllegalArgumentException", Cond.fieldLink RX4 28 "DeskStack" "texts" "LDeskStack$Nest;", Cond.methodLink RX4 80 yX1_look, Cond.instanceMethod yX1_look, Cond.selects RX1 yX1_look yX1_look, Cond.initialized RX1, Cond.code yX1_look cX1_look 2 (some .int), Cond.fieldLink RX1 17 "DeskStack$Nest" "positions" "[I", Cond.fieldLink RX1 24 "DeskStack$Nest" "count" "I", Cond.fieldLink RX1 21 "DeskStack$Nest" "ends" "[I", Cond.fieldLink RX1 11 "DeskStack$Nest" "rows" "[LDeskStack$Row;", Cond.methodLink RX1 55 yX1_isUnderWay, Cond.instanceMethod yX1_isUnderWay, Cond.selects RX1 yX1_isUnderWay yX1_isUnderWay, Cond.code yX1_isUnderWay cX1_isUnderWay 1 (some .boolean), Cond.methodLink RX1 59 yX2_charAt, Cond.instanceMethod yX2_charAt]
def wsX4_moveToOrFromRegister_r2 : List Cond := [Cond.selects RX2 yX2_charAt yX2_charAt, Cond.initialized RX2, Cond.code yX2_charAt cX2_charAt 2 (some .int), Cond.fieldLink RX2 15 "DeskStack$Row" "size" "I", Cond.fieldLink RX2 9 "DeskStack$Row" "chars" "[B", Cond.methodLink RX4 107 yX4_registerNumbered, Cond.instanceMethod yX4_registerNumbered, Cond.selects RX4 yX4_registerNumbered yX4_registerNumbered, Cond.code yX4_registerNumbered cX4_registerNumbered 2 (some (.object "DeskStack$Shelf")), Cond.fieldLink RX4 18 "DeskStack" "registers" "[LDeskStack$Shelf;", Cond.methodLink RX4 118 yX1_pass, Cond.instanceMethod yX1_pass, Cond.selects RX1 yX1_pass yX1_pass, Cond.code yX1_pass cX1_pass 1 none, Cond.methodLink RX4 170 yX4_needItems, Cond.instanceMethod yX4_needItems, Cond.selects RX4 yX4_needItems yX4_needItems, Cond.code yX4_needItems cX4_needItems 2 none, Cond.classLink RX4 165 "java/lang/IllegalStateException", Cond.initialized "java/lang/IllegalStateException", Cond.fieldLink RX4 95 "DeskStack$Shelf" "count" "I", Cond.methodLink RX4 215 yX3_drop, Cond.instanceMethod yX3_drop, Cond.selects RX3 yX3_drop yX3_drop]
def wsX4_moveToOrFromRegister_r3 : List Cond := [Cond.initialized RX3, Cond.code yX3_drop cX3_drop 2 none, Cond.fieldLink RX3 28 "DeskStack$Shelf" "count" "I", Cond.methodLink RX3 73 Lib.Math.max.name, Cond.static Lib.Math.max.name, Cond.initialized "java/lang/Math", Cond.code Lib.Math.max.name Lib.Math.max.code 2 (some .int), Cond.methodLink RX4 225 yX3_putTopOf, Cond.instanceMethod yX3_putTopOf, Cond.selects RX3 yX3_putTopOf yX3_putTopOf, Cond.code yX3_putTopOf cX3_putTopOf 3 none, Cond.methodLink RX3 40 yX3_slotBelowTop, Cond.instanceMethod yX3_slotBelowTop, Cond.selects RX3 yX3_slotBelowTop yX3_slotBelowTop, Cond.code yX3_slotBelowTop cX3_slotBelowTop 2 (some .int), Cond.methodLink RX3 44 yX3_valueAt, Cond.instanceMethod yX3_valueAt, Cond.selects RX3 yX3_valueAt yX3_valueAt, Cond.code yX3_valueAt cX3_valueAt 2 (some .long), Cond.fieldLink RX3 9 "DeskStack$Shelf" "values" "[J", Cond.methodLink RX3 32 yX3_has, Cond.instanceMethod yX3_has, Cond.selects RX3 yX3_has yX3_has, Cond.code yX3_has cX3_has 2 (some .boolean)]
def wsX4_moveToOrFromRegister_r4 : List Cond := [Cond.methodLink RX3 48 yX3_placesAt, Cond.instanceMethod yX3_placesAt, Cond.selects RX3 yX3_placesAt yX3_placesAt, Cond.code yX3_placesAt cX3_placesAt 2 (some .int), Cond.fieldLink RX3 15 "DeskStack$Shelf" "places" "[I", Cond.methodLink RX3 51 yX3_rowAt, Cond.instanceMethod yX3_rowAt, Cond.selects RX3 yX3_rowAt yX3_rowAt, Cond.code yX3_rowAt cX3_rowAt 2 (some (.object "DeskStack$Row")), Cond.fieldLink RX3 21 "DeskStack$Shelf" "rows" "[LDeskStack$Row;", Cond.methodLink RX3 55 yX3_startAt, Cond.instanceMethod yX3_startAt, Cond.selects RX3 yX3_startAt yX3_startAt, Cond.code yX3_startAt cX3_startAt 2 (some .int), Cond.fieldLink RX3 25 "DeskStack$Shelf" "starts" "[I", Cond.methodLink RX3 36 yX3_put, Cond.instanceMethod yX3_put, Cond.selects RX3 yX3_put yX3_put, Cond.code yX3_put cX3_put 6 none, Cond.classLink RX3 62 "java/lang/UnsupportedOperationException", Cond.initialized "java/lang/UnsupportedOperationException", Cond.methodLink RX3 58 yX3_isFull, Cond.instanceMethod yX3_isFull, Cond.selects RX3 yX3_isFull yX3_isFull]
def wsX4_moveToOrFromRegister_r5 : List Cond := [Cond.code yX3_isFull cX3_isFull 1 (some .boolean), Cond.methodLink RX3 69 yX3_set, Cond.instanceMethod yX3_set, Cond.selects RX3 yX3_set yX3_set, Cond.code yX3_set cX3_set 7 none, Cond.methodLink RX4 246 yX4_needHeld, Cond.static yX4_needHeld, Cond.code yX4_needHeld cX4_needHeld 1 none]
def wsX4_moveToOrFromRegister : List Cond := .code yX4_moveToOrFromRegister cX4_moveToOrFromRegister 3 none :: ((wsX4_moveToOrFromRegister_r1 ++ (wsX4_moveToOrFromRegister_r2 ++ (wsX4_moveToOrFromRegister_r3 ++ (wsX4_moveToOrFromRegister_r4 ++ wsX4_moveToOrFromRegister_r5)))) ++ wsX40 ++ wsX10 ++ wsX20 ++ wsX30 ++ (vx_atS RX4 60 "java/lang/IllegalArgumentException" ["java/lang/RuntimeException", "java/lang/Exception"]).filter goodWord ++ (vx_atS RX4 169 "java/lang/IllegalStateException" ["java/lang/RuntimeException", "java/lang/Exception"]).filter goodWord ++ (vx_atS RX3 66 "java/lang/UnsupportedOperationException" ["java/lang/RuntimeException", "java/lang/Exception"]).filter goodWord)
def wsX4_runIfOrdered_r1 : List Cond := [Cond.classLink RX4 177 "java/lang/IndexOutOfBoundsException", Cond.initialized "java/lang/IndexOutOfBoundsException", Cond.fieldLink RX4 14 "DeskStack" "stack" "LDeskStack$Shelf;", Cond.fieldLink RX4 28 "DeskStack" "texts" "LDeskStack$Nest;", Cond.methodLink RX4 242 yX4_registerOfLetter, Cond.instanceMethod yX4_registerOfLetter, Cond.selects RX4 yX4_registerOfLetter yX4_registerOfLetter, Cond.initialized RX4, Cond.code yX4_registerOfLetter cX4_registerOfLetter 2 (some (.object "DeskStack$Shelf")), Cond.classLink RX4 56 "java/lang/IllegalArgumentException", Cond.initialized "java/lang/IllegalArgumentException", Cond.methodLink RX4 80 yX1_look, Cond.instanceMethod yX1_look, Cond.selects RX1 yX1_look yX1_look, Cond.initialized RX1, Cond.code yX1_look cX1_look 2 (some .int), Cond.fieldLink RX1 17 "DeskStack$Nest" "positions" "[I", Cond.fieldLink RX1 24 "DeskStack$Nest" "count" "I", Cond.fieldLink RX1 21 "DeskStack$Nest" "ends" "[I", Cond.fieldLink RX1 11 "DeskStack$Nest" "rows" "[LDeskStack$Row;", Cond.methodLink RX1 55 yX1_isUnderWay, Cond.instanceMethod yX1_isUnderWay, Cond.selects RX1 yX1_isUnderWay yX1_isUnderWay, Cond.code yX1_isUnderWay cX1_isUnderWay 1 (some .boolean)]
def wsX4_runIfOrdered_r2 : List Cond := [Cond.methodLink RX1 59 yX2_charAt, Cond.instanceMethod yX2_charAt, Cond.selects RX2 yX2_charAt yX2_charAt, Cond.initialized RX2, Cond.code yX2_charAt cX2_charAt 2 (some .int), Cond.fieldLink RX2 15 "DeskStack$Row" "size" "I", Cond.fieldLink RX2 9 "DeskStack$Row" "chars" "[B", Cond.methodLink RX4 107 yX4_registerNumbered, Cond.instanceMethod yX4_registerNumbered, Cond.selects RX4 yX4_registerNumbered yX4_registerNumbered, Cond.code yX4_registerNumbered cX4_registerNumbered 2 (some (.object "DeskStack$Shelf")), Cond.fieldLink RX4 18 "DeskStack" "registers" "[LDeskStack$Shelf;", Cond.methodLink RX4 118 yX1_pass, Cond.instanceMethod yX1_pass, Cond.selects RX1 yX1_pass yX1_pass, Cond.code yX1_pass cX1_pass 1 none, Cond.methodLink RX4 182 yX4_needNumbers, Cond.instanceMethod yX4_needNumbers, Cond.selects RX4 yX4_needNumbers yX4_needNumbers, Cond.code yX4_needNumbers cX4_needNumbers 3 none, Cond.methodLink RX4 170 yX4_needItems, Cond.instanceMethod yX4_needItems, Cond.selects RX4 yX4_needItems yX4_needItems, Cond.code yX4_needItems cX4_needItems 2 none]
def wsX4_runIfOrdered_r3 : List Cond := [Cond.classLink RX4 165 "java/lang/IllegalStateException", Cond.initialized "java/lang/IllegalStateException", Cond.fieldLink RX4 95 "DeskStack$Shelf" "count" "I", Cond.methodLink RX4 104 yX3_slotBelowTop, Cond.instanceMethod yX3_slotBelowTop, Cond.selects RX3 yX3_slotBelowTop yX3_slotBelowTop, Cond.initialized RX3, Cond.code yX3_slotBelowTop cX3_slotBelowTop 2 (some .int), Cond.fieldLink RX3 28 "DeskStack$Shelf" "count" "I", Cond.methodLink RX4 173 yX3_rowAt, Cond.instanceMethod yX3_rowAt, Cond.selects RX3 yX3_rowAt yX3_rowAt, Cond.code yX3_rowAt cX3_rowAt 2 (some (.object "DeskStack$Row")), Cond.fieldLink RX3 21 "DeskStack$Shelf" "rows" "[LDeskStack$Row;", Cond.methodLink RX3 32 yX3_has, Cond.instanceMethod yX3_has, Cond.selects RX3 yX3_has yX3_has, Cond.code yX3_has cX3_has 2 (some .boolean), Cond.fieldLink RX3 9 "DeskStack$Shelf" "values" "[J", Cond.methodLink RX4 96 yX3_valueAt, Cond.instanceMethod yX3_valueAt, Cond.selects RX3 yX3_valueAt yX3_valueAt, Cond.code yX3_valueAt cX3_valueAt 2 (some .long), Cond.methodLink RX4 100 yX3_placesAt]
def wsX4_runIfOrdered_r4 : List Cond := [Cond.instanceMethod yX3_placesAt, Cond.selects RX3 yX3_placesAt yX3_placesAt, Cond.code yX3_placesAt cX3_placesAt 2 (some .int), Cond.fieldLink RX3 15 "DeskStack$Shelf" "places" "[I", Cond.methodLink RX4 255 yX0_order, Cond.static yX0_order, Cond.initialized RX0, Cond.code yX0_order cX0_order 7 (some .int), Cond.methodLink RX0 9 Lib.Math.max.name, Cond.static Lib.Math.max.name, Cond.initialized "java/lang/Math", Cond.code Lib.Math.max.name Lib.Math.max.code 2 (some .int), Cond.methodLink RX0 15 yX0_raise, Cond.static yX0_raise, Cond.code yX0_raise cX0_raise 3 (some .long), Cond.methodLink RX0 74 yX0_powerOfTen, Cond.static yX0_powerOfTen, Cond.code yX0_powerOfTen cX0_powerOfTen 1 (some .long), Cond.fieldLink RX0 78 "DeskStack$Decimal" "POWERS" "[J", Cond.methodLink RX0 82 Lib.Math.min.name, Cond.static Lib.Math.min.name, Cond.code Lib.Math.min.name Lib.Math.min.code 2 (some .int), Cond.methodLink RX0 58 yX0_times, Cond.static yX0_times]
def wsX4_runIfOrdered_r5 : List Cond := [Cond.code yX0_times cX0_times 4 (some .long), Cond.classLink RX0 36 "java/lang/UnsupportedOperationException", Cond.initialized "java/lang/UnsupportedOperationException", Cond.methodLink RX0 31 Lib.MathLoose.abs_long.x, Cond.static Lib.MathLoose.abs_long.x, Cond.code Lib.MathLoose.abs_long.x Lib.MathLoose.abs_long.code 2 (some .long), Cond.constantLong RX0 34 (999999999999999999), Cond.methodLink RX0 25 yJ13_compare_74951, Cond.static yJ13_compare_74951, Cond.initialized RJ13, Cond.code yJ13_compare_74951 cJ13_compare_74951 4 (some .int), Cond.methodLink RX4 246 yX4_needHeld, Cond.static yX4_needHeld, Cond.code yX4_needHeld cX4_needHeld 1 none, Cond.methodLink RX4 249 yX3_startAt, Cond.instanceMethod yX3_startAt, Cond.selects RX3 yX3_startAt yX3_startAt, Cond.code yX3_startAt cX3_startAt 2 (some .int), Cond.fieldLink RX3 25 "DeskStack$Shelf" "starts" "[I", Cond.methodLink RX4 252 yX1_enterMacro, Cond.instanceMethod yX1_enterMacro, Cond.selects RX1 yX1_enterMacro yX1_enterMacro, Cond.code yX1_enterMacro cX1_enterMacro 4 none, Cond.methodLink RX1 35 yX1_skipBlanks]
def wsX4_runIfOrdered_r6 : List Cond := [Cond.instanceMethod yX1_skipBlanks, Cond.selects RX1 yX1_skipBlanks yX1_skipBlanks, Cond.code yX1_skipBlanks cX1_skipBlanks 2 none, Cond.methodLink RX1 38 yX1_look, Cond.methodLink RX1 63 yX1_pass, Cond.methodLink RX1 42 yX1_leave, Cond.instanceMethod yX1_leave, Cond.selects RX1 yX1_leave yX1_leave, Cond.code yX1_leave cX1_leave 1 none, Cond.methodLink RX1 49 Lib.Math.max.name, Cond.methodLink RX1 45 yX1_enter, Cond.instanceMethod yX1_enter, Cond.selects RX1 yX1_enter yX1_enter, Cond.code yX1_enter cX1_enter 4 none, Cond.classLink RX1 28 "java/lang/UnsupportedOperationException", Cond.methodLink RX4 215 yX3_drop, Cond.instanceMethod yX3_drop, Cond.selects RX3 yX3_drop yX3_drop, Cond.code yX3_drop cX3_drop 2 none, Cond.methodLink RX3 73 Lib.Math.max.name]
def wsX4_runIfOrdered : List Cond := .code yX4_runIfOrdered cX4_runIfOrdered 9 none :: ((wsX4_runIfOrdered_r1 ++ (wsX4_runIfOrdered_r2 ++ (wsX4_runIfOrdered_r3 ++ (wsX4_runIfOrdered_r4 ++ (wsX4_runIfOrdered_r5 ++ wsX4_runIfOrdered_r6))))) ++ wsX40 ++ wsX10 ++ wsX20 ++ wsX30 ++ (vx_atS RX4 181 "java/lang/IndexOutOfBoundsException" ["java/lang/RuntimeException", "java/lang/Exception"]).filter goodWord ++ (vx_atS RX4 60 "java/lang/IllegalArgumentException" ["java/lang/RuntimeException", "java/lang/Exception"]).filter goodWord ++ (vx_atS RX4 169 "java/lang/IllegalStateException" ["java/lang/RuntimeException", "java/lang/Exception"]).filter goodWord ++ (vx_atS RX0 40 "java/lang/UnsupportedOperationException" ["java/lang/RuntimeException", "java/lang/Exception"]).filter goodWord ++ (vx_atS RX1 32 "java/lang/UnsupportedOperationException" ["java/lang/RuntimeException", "java/lang/Exception"]).filter goodWord)
def wsX4_runTop_r1 : List Cond := [Cond.fieldLink RX4 14 "DeskStack" "stack" "LDeskStack$Shelf;", Cond.fieldLink RX4 28 "DeskStack" "texts" "LDeskStack$Nest;", Cond.methodLink RX4 170 yX4_needItems, Cond.instanceMethod yX4_needItems, Cond.selects RX4 yX4_needItems yX4_needItems, Cond.initialized RX4, Cond.code yX4_needItems cX4_needItems 2 none, Cond.classLink RX4 165 "java/lang/IllegalStateException", Cond.initialized "java/lang/IllegalStateException", Cond.fieldLink RX4 95 "DeskStack$Shelf" "count" "I", Cond.methodLink RX4 104 yX3_slotBelowTop, Cond.instanceMethod yX3_slotBelowTop, Cond.selects RX3 yX3_slotBelowTop yX3_slotBelowTop, Cond.initialized RX3, Cond.code yX3_slotBelowTop cX3_slotBelowTop 2 (some .int), Cond.fieldLink RX3 28 "DeskStack$Shelf" "count" "I", Cond.methodLink RX4 173 yX3_rowAt, Cond.instanceMethod yX3_rowAt, Cond.selects RX3 yX3_rowAt yX3_rowAt, Cond.code yX3_rowAt cX3_rowAt 2 (some (.object "DeskStack$Row")), Cond.fieldLink RX3 21 "DeskStack$Shelf" "rows" "[LDeskStack$Row;", Cond.methodLink RX3 32 yX3_has, Cond.instanceMethod yX3_has, Cond.selects RX3 yX3_has yX3_has]
def wsX4_runTop_r2 : List Cond := [Cond.code yX3_has cX3_has 2 (some .boolean), Cond.fieldLink RX3 9 "DeskStack$Shelf" "values" "[J", Cond.methodLink RX4 249 yX3_startAt, Cond.instanceMethod yX3_startAt, Cond.selects RX3 yX3_startAt yX3_startAt, Cond.code yX3_startAt cX3_startAt 2 (some .int), Cond.fieldLink RX3 25 "DeskStack$Shelf" "starts" "[I", Cond.methodLink RX4 96 yX3_valueAt, Cond.instanceMethod yX3_valueAt, Cond.selects RX3 yX3_valueAt yX3_valueAt, Cond.code yX3_valueAt cX3_valueAt 2 (some .long), Cond.methodLink RX4 252 yX1_enterMacro, Cond.instanceMethod yX1_enterMacro, Cond.selects RX1 yX1_enterMacro yX1_enterMacro, Cond.initialized RX1, Cond.code yX1_enterMacro cX1_enterMacro 4 none, Cond.methodLink RX1 35 yX1_skipBlanks, Cond.instanceMethod yX1_skipBlanks, Cond.selects RX1 yX1_skipBlanks yX1_skipBlanks, Cond.code yX1_skipBlanks cX1_skipBlanks 2 none, Cond.methodLink RX1 38 yX1_look, Cond.instanceMethod yX1_look, Cond.selects RX1 yX1_look yX1_look, Cond.code yX1_look cX1_look 2 (some .int)]
def wsX4_runTop_r3 : List Cond := [Cond.fieldLink RX1 17 "DeskStack$Nest" "positions" "[I", Cond.fieldLink RX1 24 "DeskStack$Nest" "count" "I", Cond.fieldLink RX1 21 "DeskStack$Nest" "ends" "[I", Cond.fieldLink RX1 11 "DeskStack$Nest" "rows" "[LDeskStack$Row;", Cond.methodLink RX1 55 yX1_isUnderWay, Cond.instanceMethod yX1_isUnderWay, Cond.selects RX1 yX1_isUnderWay yX1_isUnderWay, Cond.code yX1_isUnderWay cX1_isUnderWay 1 (some .boolean), Cond.methodLink RX1 59 yX2_charAt, Cond.instanceMethod yX2_charAt, Cond.selects RX2 yX2_charAt yX2_charAt, Cond.initialized RX2, Cond.code yX2_charAt cX2_charAt 2 (some .int), Cond.fieldLink RX2 15 "DeskStack$Row" "size" "I", Cond.fieldLink RX2 9 "DeskStack$Row" "chars" "[B", Cond.methodLink RX1 63 yX1_pass, Cond.instanceMethod yX1_pass, Cond.selects RX1 yX1_pass yX1_pass, Cond.code yX1_pass cX1_pass 1 none, Cond.methodLink RX1 42 yX1_leave, Cond.instanceMethod yX1_leave, Cond.selects RX1 yX1_leave yX1_leave, Cond.code yX1_leave cX1_leave 1 none, Cond.methodLink RX1 49 Lib.Math.max.name]
def wsX4_runTop_r4 : List Cond := [Cond.static Lib.Math.max.name, Cond.initialized "java/lang/Math", Cond.code Lib.Math.max.name Lib.Math.max.code 2 (some .int), Cond.methodLink RX1 45 yX1_enter, Cond.instanceMethod yX1_enter, Cond.selects RX1 yX1_enter yX1_enter, Cond.code yX1_enter cX1_enter 4 none, Cond.classLink RX1 28 "java/lang/UnsupportedOperationException", Cond.initialized "java/lang/UnsupportedOperationException", Cond.methodLink RX4 215 yX3_drop, Cond.instanceMethod yX3_drop, Cond.selects RX3 yX3_drop yX3_drop, Cond.code yX3_drop cX3_drop 2 none, Cond.methodLink RX3 73 Lib.Math.max.name]
def wsX4_runTop : List Cond := .code yX4_runTop cX4_runTop 3 none :: ((wsX4_runTop_r1 ++ (wsX4_runTop_r2 ++ (wsX4_runTop_r3 ++ wsX4_runTop_r4))) ++ wsX40 ++ wsX30 ++ wsX10 ++ wsX20 ++ (vx_atS RX4 169 "java/lang/IllegalStateException" ["java/lang/RuntimeException", "java/lang/Exception"]).filter goodWord ++ (vx_atS RX1 32 "java/lang/UnsupportedOperationException" ["java/lang/RuntimeException", "java/lang/Exception"]).filter goodWord)
def wsX4_arrangeStack_r1 : List Cond := [Cond.classLink RX4 56 "java/lang/IllegalArgumentException", Cond.initialized "java/lang/IllegalArgumentException", Cond.fieldLink RX4 14 "DeskStack" "stack" "LDeskStack$Shelf;", Cond.fieldLink RX4 95 "DeskStack$Shelf" "count" "I", Cond.fieldLink RX4 39 "DeskStack" "keptPlaces" "I", Cond.fieldLink RX4 22 "DeskStack" "printer" "LDeskStack$Shelf;", Cond.methodLink RX4 170 yX4_needItems, Cond.instanceMethod yX4_needItems, Cond.selects RX4 yX4_needItems yX4_needItems, Cond.initialized RX4, Cond.code yX4_needItems cX4_needItems 2 none, Cond.classLink RX4 165 "java/lang/IllegalStateException", Cond.initialized "java/lang/IllegalStateException", Cond.methodLink RX4 225 yX3_putTopOf, Cond.instanceMethod yX3_putTopOf, Cond.selects RX3 yX3_putTopOf yX3_putTopOf, Cond.initialized RX3, Cond.code yX3_putTopOf cX3_putTopOf 3 none, Cond.methodLink RX3 40 yX3_slotBelowTop, Cond.instanceMethod yX3_slotBelowTop, Cond.selects RX3 yX3_slotBelowTop yX3_slotBelowTop, Cond.code yX3_slotBelowTop cX3_slotBelowTop 2 (some .int), Cond.fieldLink RX3 28 "DeskStack$Shelf" "count" "I", Cond.methodLink RX3 44 yX3_valueAt]
def wsX4_arrangeStack_r2 : List Cond := [Cond.instanceMethod yX3_valueAt, Cond.selects RX3 yX3_valueAt yX3_valueAt, Cond.code yX3_valueAt cX3_valueAt 2 (some .long), Cond.fieldLink RX3 9 "DeskStack$Shelf" "values" "[J", Cond.methodLink RX3 32 yX3_has, Cond.instanceMethod yX3_has, Cond.selects RX3 yX3_has yX3_has, Cond.code yX3_has cX3_has 2 (some .boolean), Cond.methodLink RX3 48 yX3_placesAt, Cond.instanceMethod yX3_placesAt, Cond.selects RX3 yX3_placesAt yX3_placesAt, Cond.code yX3_placesAt cX3_placesAt 2 (some .int), Cond.fieldLink RX3 15 "DeskStack$Shelf" "places" "[I", Cond.methodLink RX3 51 yX3_rowAt, Cond.instanceMethod yX3_rowAt, Cond.selects RX3 yX3_rowAt yX3_rowAt, Cond.code yX3_rowAt cX3_rowAt 2 (some (.object "DeskStack$Row")), Cond.fieldLink RX3 21 "DeskStack$Shelf" "rows" "[LDeskStack$Row;", Cond.methodLink RX3 55 yX3_startAt, Cond.instanceMethod yX3_startAt, Cond.selects RX3 yX3_startAt yX3_startAt, Cond.code yX3_startAt cX3_startAt 2 (some .int), Cond.fieldLink RX3 25 "DeskStack$Shelf" "starts" "[I", Cond.methodLink RX3 36 yX3_put]
def wsX4_arrangeStack_r3 : List Cond := [Cond.instanceMethod yX3_put, Cond.selects RX3 yX3_put yX3_put, Cond.code yX3_put cX3_put 6 none, Cond.classLink RX3 62 "java/lang/UnsupportedOperationException", Cond.initialized "java/lang/UnsupportedOperationException", Cond.methodLink RX3 58 yX3_isFull, Cond.instanceMethod yX3_isFull, Cond.selects RX3 yX3_isFull yX3_isFull, Cond.code yX3_isFull cX3_isFull 1 (some .boolean), Cond.methodLink RX3 69 yX3_set, Cond.instanceMethod yX3_set, Cond.selects RX3 yX3_set yX3_set, Cond.code yX3_set cX3_set 7 none, Cond.methodLink RX4 229 yX3_swapTopTwo, Cond.instanceMethod yX3_swapTopTwo, Cond.selects RX3 yX3_swapTopTwo yX3_swapTopTwo, Cond.code yX3_swapTopTwo cX3_swapTopTwo 8 none, Cond.methodLink RX4 215 yX3_drop, Cond.instanceMethod yX3_drop, Cond.selects RX3 yX3_drop yX3_drop, Cond.code yX3_drop cX3_drop 2 none, Cond.methodLink RX3 73 Lib.Math.max.name, Cond.static Lib.Math.max.name, Cond.initialized "java/lang/Math"]
def wsX4_arrangeStack_r4 : List Cond := [Cond.code Lib.Math.max.name Lib.Math.max.code 2 (some .int), Cond.methodLink RX4 63 yX3_clear, Cond.instanceMethod yX3_clear, Cond.selects RX3 yX3_clear yX3_clear, Cond.code yX3_clear cX3_clear 1 none, Cond.methodLink RX4 149 yX3_putNumber, Cond.instanceMethod yX3_putNumber, Cond.selects RX3 yX3_putNumber yX3_putNumber, Cond.code yX3_putNumber cX3_putNumber 4 none, Cond.methodLink RX4 232 yX3_isFull]
def wsX4_arrangeStack : List Cond := .code yX4_arrangeStack cX4_arrangeStack 2 none :: ((wsX4_arrangeStack_r1 ++ (wsX4_arrangeStack_r2 ++ (wsX4_arrangeStack_r3 ++ wsX4_arrangeStack_r4))) ++ wsX40 ++ wsX30 ++ (vx_atS RX4 60 "java/lang/IllegalArgumentException" ["java/lang/RuntimeException", "java/lang/Exception"]).filter goodWord ++ (vx_atS RX4 169 "java/lang/IllegalStateException" ["java/lang/RuntimeException", "java/lang/Exception"]).filter goodWord ++ (vx_atS RX3 66 "java/lang/UnsupportedOperationException" ["java/lang/RuntimeException", "java/lang/Exception"]).filter goodWord)
def wsX4_doCommand_r1 : List Cond := [Cond.fieldLink RX4 28 "DeskStack" "texts" "LDeskStack$Nest;", Cond.methodLink RX4 80 yX1_look, Cond.instanceMethod yX1_look, Cond.selects RX1 yX1_look yX1_look, Cond.initialized RX1, Cond.code yX1_look cX1_look 2 (some .int), Cond.fieldLink RX1 17 "DeskStack$Nest" "positions" "[I", Cond.fieldLink RX1 24 "DeskStack$Nest" "count" "I", Cond.fieldLink RX1 21 "DeskStack$Nest" "ends" "[I", Cond.fieldLink RX1 11 "DeskStack$Nest" "rows" "[LDeskStack$Row;", Cond.methodLink RX1 55 yX1_isUnderWay, Cond.instanceMethod yX1_isUnderWay, Cond.selects RX1 yX1_isUnderWay yX1_isUnderWay, Cond.code yX1_isUnderWay cX1_isUnderWay 1 (some .boolean), Cond.methodLink RX1 59 yX2_charAt, Cond.instanceMethod yX2_charAt, Cond.selects RX2 yX2_charAt yX2_charAt, Cond.initialized RX2, Cond.code yX2_charAt cX2_charAt 2 (some .int), Cond.fieldLink RX2 15 "DeskStack$Row" "size" "I", Cond.fieldLink RX2 9 "DeskStack$Row" "chars" "[B", Cond.methodLink RX4 111 yX4_beginsNumber, Cond.static yX4_beginsNumber, Cond.initialized RX4]
def wsX4_doCommand_r2 : List Cond := [Cond.code yX4_beginsNumber cX4_beginsNumber 1 (some .boolean), Cond.methodLink RX4 142 yX4_isDigit, Cond.static yX4_isDigit, Cond.code yX4_isDigit cX4_isDigit 1 (some .boolean), Cond.methodLink RX4 115 yX4_putWrittenNumber, Cond.instanceMethod yX4_putWrittenNumber, Cond.selects RX4 yX4_putWrittenNumber yX4_putWrittenNumber, Cond.code yX4_putWrittenNumber cX4_putWrittenNumber 9 none, Cond.classLink RX4 56 "java/lang/IllegalArgumentException", Cond.initialized "java/lang/IllegalArgumentException", Cond.constantLong RX4 145 (10), Cond.fieldLink RX4 14 "DeskStack" "stack" "LDeskStack$Shelf;", Cond.methodLink RX4 118 yX1_pass, Cond.instanceMethod yX1_pass, Cond.selects RX1 yX1_pass yX1_pass, Cond.code yX1_pass cX1_pass 1 none, Cond.methodLink RX4 149 yX3_putNumber, Cond.instanceMethod yX3_putNumber, Cond.selects RX3 yX3_putNumber yX3_putNumber, Cond.initialized RX3, Cond.code yX3_putNumber cX3_putNumber 4 none, Cond.methodLink RX3 36 yX3_put, Cond.instanceMethod yX3_put, Cond.selects RX3 yX3_put yX3_put]
def wsX4_doCommand_r3 : List Cond := [Cond.code yX3_put cX3_put 6 none, Cond.classLink RX3 62 "java/lang/UnsupportedOperationException", Cond.initialized "java/lang/UnsupportedOperationException", Cond.fieldLink RX3 28 "DeskStack$Shelf" "count" "I", Cond.methodLink RX3 58 yX3_isFull, Cond.instanceMethod yX3_isFull, Cond.selects RX3 yX3_isFull yX3_isFull, Cond.code yX3_isFull cX3_isFull 1 (some .boolean), Cond.fieldLink RX3 9 "DeskStack$Shelf" "values" "[J", Cond.methodLink RX3 69 yX3_set, Cond.instanceMethod yX3_set, Cond.selects RX3 yX3_set yX3_set, Cond.code yX3_set cX3_set 7 none, Cond.fieldLink RX3 15 "DeskStack$Shelf" "places" "[I", Cond.fieldLink RX3 21 "DeskStack$Shelf" "rows" "[LDeskStack$Row;", Cond.fieldLink RX3 25 "DeskStack$Shelf" "starts" "[I", Cond.methodLink RX3 32 yX3_has, Cond.instanceMethod yX3_has, Cond.selects RX3 yX3_has yX3_has, Cond.code yX3_has cX3_has 2 (some .boolean), Cond.methodLink RX4 121 yX4_putWrittenText, Cond.instanceMethod yX4_putWrittenText, Cond.selects RX4 yX4_putWrittenText yX4_putWrittenText, Cond.code yX4_putWrittenText cX4_putWrittenText 6 none]
def wsX4_doCommand_r4 : List Cond := [Cond.methodLink RX4 153 yX1_innermostRow, Cond.instanceMethod yX1_innermostRow, Cond.selects RX1 yX1_innermostRow yX1_innermostRow, Cond.code yX1_innermostRow cX1_innermostRow 1 (some (.object "DeskStack$Row")), Cond.methodLink RX4 157 yX1_position, Cond.instanceMethod yX1_position, Cond.selects RX1 yX1_position yX1_position, Cond.code yX1_position cX1_position 1 (some .int), Cond.methodLink RX4 162 yX3_putText, Cond.instanceMethod yX3_putText, Cond.selects RX3 yX3_putText yX3_putText, Cond.code yX3_putText cX3_putText 4 none, Cond.methodLink RX4 124 yX4_calculate, Cond.instanceMethod yX4_calculate, Cond.selects RX4 yX4_calculate yX4_calculate, Cond.code yX4_calculate cX4_calculate 12 none, Cond.methodLink RX4 185 Lib.Math.max.name, Cond.static Lib.Math.max.name, Cond.initialized "java/lang/Math", Cond.code Lib.Math.max.name Lib.Math.max.code 2 (some .int), Cond.fieldLink RX4 39 "DeskStack" "keptPlaces" "I", Cond.methodLink RX4 197 Lib.Math.min.name, Cond.static Lib.Math.min.name, Cond.code Lib.Math.min.name Lib.Math.min.code 2 (some .int)]
def wsX4_doCommand_r5 : List Cond := [Cond.methodLink RX4 182 yX4_needNumbers, Cond.instanceMethod yX4_needNumbers, Cond.selects RX4 yX4_needNumbers yX4_needNumbers, Cond.code yX4_needNumbers cX4_needNumbers 3 none, Cond.classLink RX4 177 "java/lang/IndexOutOfBoundsException", Cond.initialized "java/lang/IndexOutOfBoundsException", Cond.methodLink RX4 170 yX4_needItems, Cond.instanceMethod yX4_needItems, Cond.selects RX4 yX4_needItems yX4_needItems, Cond.code yX4_needItems cX4_needItems 2 none, Cond.classLink RX4 165 "java/lang/IllegalStateException", Cond.initialized "java/lang/IllegalStateException", Cond.fieldLink RX4 95 "DeskStack$Shelf" "count" "I", Cond.methodLink RX4 104 yX3_slotBelowTop, Cond.instanceMethod yX3_slotBelowTop, Cond.selects RX3 yX3_slotBelowTop yX3_slotBelowTop, Cond.code yX3_slotBelowTop cX3_slotBelowTop 2 (some .int), Cond.methodLink RX4 173 yX3_rowAt, Cond.instanceMethod yX3_rowAt, Cond.selects RX3 yX3_rowAt yX3_rowAt, Cond.code yX3_rowAt cX3_rowAt 2 (some (.object "DeskStack$Row")), Cond.methodLink RX4 96 yX3_valueAt, Cond.instanceMethod yX3_valueAt, Cond.selects RX3 yX3_valueAt yX3_valueAt]
def wsX4_doCommand_r6 : List Cond := [Cond.code yX3_valueAt cX3_valueAt 2 (some .long), Cond.methodLink RX4 100 yX3_placesAt, Cond.instanceMethod yX3_placesAt, Cond.selects RX3 yX3_placesAt yX3_placesAt, Cond.code yX3_placesAt cX3_placesAt 2 (some .int), Cond.methodLink RX4 191 yX0_sum, Cond.static yX0_sum, Cond.initialized RX0, Cond.code yX0_sum cX0_sum 7 (some .long), Cond.methodLink RX0 9 Lib.Math.max.name, Cond.methodLink RX0 15 yX0_raise, Cond.static yX0_raise, Cond.code yX0_raise cX0_raise 3 (some .long), Cond.methodLink RX0 74 yX0_powerOfTen, Cond.static yX0_powerOfTen, Cond.code yX0_powerOfTen cX0_powerOfTen 1 (some .long), Cond.fieldLink RX0 78 "DeskStack$Decimal" "POWERS" "[J", Cond.methodLink RX0 82 Lib.Math.min.name, Cond.methodLink RX0 58 yX0_times, Cond.static yX0_times, Cond.code yX0_times cX0_times 4 (some .long), Cond.classLink RX0 36 "java/lang/UnsupportedOperationException", Cond.methodLink RX0 31 Lib.MathLoose.abs_long.x, Cond.static Lib.MathLoose.abs_long.x]
def wsX4_doCommand_r7 : List Cond := [Cond.code Lib.MathLoose.abs_long.x Lib.MathLoose.abs_long.code 2 (some .long), Cond.constantLong RX0 34 (999999999999999999), Cond.methodLink RX0 21 yX0_fitting, Cond.static yX0_fitting, Cond.code yX0_fitting cX0_fitting 2 (some .long), Cond.methodLink RX4 200 yX0_times, Cond.methodLink RX4 204 yX0_cutOff, Cond.static yX0_cutOff, Cond.code yX0_cutOff cX0_cutOff 3 (some .long), Cond.methodLink RX0 48 yX0_divide, Cond.static yX0_divide, Cond.code yX0_divide cX0_divide 4 (some .long), Cond.methodLink RX4 208 yX0_quotient, Cond.static yX0_quotient, Cond.code yX0_quotient cX0_quotient 8 (some .long), Cond.classLink RX0 43 "java/lang/ArithmeticException", Cond.initialized "java/lang/ArithmeticException", Cond.methodLink RX4 212 yX0_remainder, Cond.static yX0_remainder, Cond.code yX0_remainder cX0_remainder 13 (some .long), Cond.methodLink RX0 52 yX0_quotient, Cond.methodLink RX4 215 yX3_drop, Cond.instanceMethod yX3_drop, Cond.selects RX3 yX3_drop yX3_drop]
def wsX4_doCommand_r8 : List Cond := [Cond.code yX3_drop cX3_drop 2 none, Cond.methodLink RX3 73 Lib.Math.max.name, Cond.methodLink RX4 127 yX4_changeNumber, Cond.instanceMethod yX4_changeNumber, Cond.selects RX4 yX4_changeNumber yX4_changeNumber, Cond.code yX4_changeNumber cX4_changeNumber 8 none, Cond.methodLink RX4 218 yX0_asPlaces, Cond.static yX0_asPlaces, Cond.code yX0_asPlaces cX0_asPlaces 5 (some .int), Cond.constantLong RX0 70 (9), Cond.methodLink RX0 67 yX0_cutOff, Cond.methodLink RX4 221 yX0_root, Cond.static yX0_root, Cond.code yX0_root cX0_root 13 (some .long), Cond.constantLong RX0 63 (999999999), Cond.constantLong RX0 65 (2), Cond.methodLink RX4 130 yX4_moveToOrFromRegister, Cond.instanceMethod yX4_moveToOrFromRegister, Cond.selects RX4 yX4_moveToOrFromRegister yX4_moveToOrFromRegister, Cond.code yX4_moveToOrFromRegister cX4_moveToOrFromRegister 3 none, Cond.methodLink RX4 242 yX4_registerOfLetter, Cond.instanceMethod yX4_registerOfLetter, Cond.selects RX4 yX4_registerOfLetter yX4_registerOfLetter, Cond.code yX4_registerOfLetter cX4_registerOfLetter 2 (some (.object "DeskStack$Shelf"))]
def wsX4_doCommand_r9 : List Cond := [Cond.methodLink RX4 107 yX4_registerNumbered, Cond.instanceMethod yX4_registerNumbered, Cond.selects RX4 yX4_registerNumbered yX4_registerNumbered, Cond.code yX4_registerNumbered cX4_registerNumbered 2 (some (.object "DeskStack$Shelf")), Cond.fieldLink RX4 18 "DeskStack" "registers" "[LDeskStack$Shelf;", Cond.methodLink RX4 225 yX3_putTopOf, Cond.instanceMethod yX3_putTopOf, Cond.selects RX3 yX3_putTopOf yX3_putTopOf, Cond.code yX3_putTopOf cX3_putTopOf 3 none, Cond.methodLink RX3 40 yX3_slotBelowTop, Cond.methodLink RX3 44 yX3_valueAt, Cond.methodLink RX3 48 yX3_placesAt, Cond.methodLink RX3 51 yX3_rowAt, Cond.methodLink RX3 55 yX3_startAt, Cond.instanceMethod yX3_startAt, Cond.selects RX3 yX3_startAt yX3_startAt, Cond.code yX3_startAt cX3_startAt 2 (some .int), Cond.methodLink RX4 246 yX4_needHeld, Cond.static yX4_needHeld, Cond.code yX4_needHeld cX4_needHeld 1 none, Cond.methodLink RX4 133 yX4_runIfOrdered, Cond.instanceMethod yX4_runIfOrdered, Cond.selects RX4 yX4_runIfOrdered yX4_runIfOrdered, Cond.code yX4_runIfOrdered cX4_runIfOrdered 9 none]
def wsX4_doCommand_r10 : List Cond := [Cond.methodLink RX4 255 yX0_order, Cond.static yX0_order, Cond.code yX0_order cX0_order 7 (some .int), Cond.methodLink RX0 25 yJ13_compare_74951, Cond.static yJ13_compare_74951, Cond.initialized RJ13, Cond.code yJ13_compare_74951 cJ13_compare_74951 4 (some .int), Cond.methodLink RX4 249 yX3_startAt, Cond.methodLink RX4 252 yX1_enterMacro, Cond.instanceMethod yX1_enterMacro, Cond.selects RX1 yX1_enterMacro yX1_enterMacro, Cond.code yX1_enterMacro cX1_enterMacro 4 none, Cond.methodLink RX1 35 yX1_skipBlanks, Cond.instanceMethod yX1_skipBlanks, Cond.selects RX1 yX1_skipBlanks yX1_skipBlanks, Cond.code yX1_skipBlanks cX1_skipBlanks 2 none, Cond.methodLink RX1 38 yX1_look, Cond.methodLink RX1 63 yX1_pass, Cond.methodLink RX1 42 yX1_leave, Cond.instanceMethod yX1_leave, Cond.selects RX1 yX1_leave yX1_leave, Cond.code yX1_leave cX1_leave 1 none, Cond.methodLink RX1 49 Lib.Math.max.name, Cond.methodLink RX1 45 yX1_enter]
def wsX4_doCommand_r11 : List Cond := [Cond.instanceMethod yX1_enter, Cond.selects RX1 yX1_enter yX1_enter, Cond.code yX1_enter cX1_enter 4 none, Cond.classLink RX1 28 "java/lang/UnsupportedOperationException", Cond.methodLink RX4 136 yX4_runTop, Cond.instanceMethod yX4_runTop, Cond.selects RX4 yX4_runTop yX4_runTop, Cond.code yX4_runTop cX4_runTop 3 none, Cond.methodLink RX4 66 yX1_leaveAll, Cond.instanceMethod yX1_leaveAll, Cond.selects RX1 yX1_leaveAll yX1_leaveAll, Cond.code yX1_leaveAll cX1_leaveAll 1 none, Cond.methodLink RX4 139 yX4_arrangeStack, Cond.instanceMethod yX4_arrangeStack, Cond.selects RX4 yX4_arrangeStack yX4_arrangeStack, Cond.code yX4_arrangeStack cX4_arrangeStack 2 none, Cond.fieldLink RX4 22 "DeskStack" "printer" "LDeskStack$Shelf;", Cond.methodLink RX4 229 yX3_swapTopTwo, Cond.instanceMethod yX3_swapTopTwo, Cond.selects RX3 yX3_swapTopTwo yX3_swapTopTwo, Cond.code yX3_swapTopTwo cX3_swapTopTwo 8 none, Cond.methodLink RX4 63 yX3_clear, Cond.instanceMethod yX3_clear, Cond.selects RX3 yX3_clear yX3_clear]
def wsX4_doCommand_r12 : List Cond := [Cond.code yX3_clear cX3_clear 1 none, Cond.methodLink RX4 232 yX3_isFull]
def wsX4_doCommand : List Cond := .code yX4_doCommand cX4_doCommand 2 none :: ((wsX4_doCommand_r1 ++ (wsX4_doCommand_r2 ++ (wsX4_doCommand_r3 ++ (wsX4_doCommand_r4 ++ (wsX4_doCommand_r5 ++ (wsX4_doCommand_r6 ++ (wsX4_doCommand_r7 ++ (wsX4_doCommand_r8 ++ (wsX4_doCommand_r9 ++ (wsX4_doCommand_r10 ++ (wsX4_doCommand_r11 ++ wsX4_doCommand_r12))))))))))) ++ wsX40 ++ wsX10 ++ wsX20 ++ wsX30 ++ (vx_atS RX4 60 "java/lang/IllegalArgumentException" ["java/lang/RuntimeException", "java/lang/Exception"]).filter goodWord ++ (vx_atS RX3 66 "java/lang/UnsupportedOperationException" ["java/lang/RuntimeException", "java/lang/Exception"]).filter goodWord ++ (vx_atS RX4 181 "java/lang/IndexOutOfBoundsException" ["java/lang/RuntimeException", "java/lang/Exception"]).filter goodWord ++ (vx_atS RX4 169 "java/lang/IllegalStateException" ["java/lang/RuntimeException", "java/lang/Exception"]).filter goodWord ++ (vx_atS RX0 40 "java/lang/UnsupportedOperationException" ["java/lang/RuntimeException", "java/lang/Exception"]).filter goodWord ++ (vx_atS RX0 47 "java/lang/ArithmeticException" ["java/lang/RuntimeException", "java/lang/Exception"]).filter goodWord ++ (vx_atS RX1 32 "java/lang/UnsupportedOperationException" ["java/lang/RuntimeException", "java/lang/Exception"]).filter goodWord)
def wsX4_run_r1 : List Cond := [Cond.classLink RX4 56 "java/lang/IllegalArgumentException", Cond.initialized "java/lang/IllegalArgumentException", Cond.classLink RX4 87 "java/lang/UnsupportedOperationException", Cond.initialized "java/lang/UnsupportedOperationException", Cond.fieldLink RX4 22 "DeskStack" "printer" "LDeskStack$Shelf;", Cond.fieldLink RX4 43 "DeskStack" "commandsDone" "I", Cond.fieldLink RX4 28 "DeskStack" "texts" "LDeskStack$Nest;", Cond.fieldLink RX4 35 "DeskStack" "program" "LDeskStack$Row;", Cond.fieldLink RX4 50 "DeskStack$Row" "size" "I", Cond.constant RX4 73 (1000000), Cond.fieldLink RX4 74 "DeskStack$Nest" "count" "I", Cond.methodLink RX4 63 yX3_clear, Cond.instanceMethod yX3_clear, Cond.selects RX3 yX3_clear yX3_clear, Cond.initialized RX3, Cond.code yX3_clear cX3_clear 1 none, Cond.fieldLink RX3 28 "DeskStack$Shelf" "count" "I", Cond.methodLink RX4 66 yX1_leaveAll, Cond.instanceMethod yX1_leaveAll, Cond.selects RX1 yX1_leaveAll yX1_leaveAll, Cond.initialized RX1, Cond.code yX1_leaveAll cX1_leaveAll 1 none, Cond.fieldLink RX1 24 "DeskStack$Nest" "count" "I", Cond.methodLink RX4 69 yX1_enter]
def wsX4_run_r2 : List Cond := [Cond.instanceMethod yX1_enter, Cond.selects RX1 yX1_enter yX1_enter, Cond.code yX1_enter cX1_enter 4 none, Cond.classLink RX1 28 "java/lang/UnsupportedOperationException", Cond.fieldLink RX1 11 "DeskStack$Nest" "rows" "[LDeskStack$Row;", Cond.fieldLink RX1 17 "DeskStack$Nest" "positions" "[I", Cond.fieldLink RX1 21 "DeskStack$Nest" "ends" "[I", Cond.methodLink RX4 77 yX1_skipBlanks, Cond.instanceMethod yX1_skipBlanks, Cond.selects RX1 yX1_skipBlanks yX1_skipBlanks, Cond.code yX1_skipBlanks cX1_skipBlanks 2 none, Cond.methodLink RX1 38 yX1_look, Cond.instanceMethod yX1_look, Cond.selects RX1 yX1_look yX1_look, Cond.code yX1_look cX1_look 2 (some .int), Cond.methodLink RX1 55 yX1_isUnderWay, Cond.instanceMethod yX1_isUnderWay, Cond.selects RX1 yX1_isUnderWay yX1_isUnderWay, Cond.code yX1_isUnderWay cX1_isUnderWay 1 (some .boolean), Cond.methodLink RX1 59 yX2_charAt, Cond.instanceMethod yX2_charAt, Cond.selects RX2 yX2_charAt yX2_charAt, Cond.initialized RX2, Cond.code yX2_charAt cX2_charAt 2 (some .int)]
def wsX4_run_r3 : List Cond := [Cond.fieldLink RX2 15 "DeskStack$Row" "size" "I", Cond.fieldLink RX2 9 "DeskStack$Row" "chars" "[B", Cond.methodLink RX1 63 yX1_pass, Cond.instanceMethod yX1_pass, Cond.selects RX1 yX1_pass yX1_pass, Cond.code yX1_pass cX1_pass 1 none, Cond.methodLink RX4 80 yX1_look, Cond.methodLink RX4 84 yX1_leave, Cond.instanceMethod yX1_leave, Cond.selects RX1 yX1_leave yX1_leave, Cond.code yX1_leave cX1_leave 1 none, Cond.methodLink RX1 49 Lib.Math.max.name, Cond.static Lib.Math.max.name, Cond.initialized "java/lang/Math", Cond.code Lib.Math.max.name Lib.Math.max.code 2 (some .int), Cond.methodLink RX4 92 yX4_doCommand, Cond.instanceMethod yX4_doCommand, Cond.selects RX4 yX4_doCommand yX4_doCommand, Cond.initialized RX4, Cond.code yX4_doCommand cX4_doCommand 2 none, Cond.methodLink RX4 111 yX4_beginsNumber, Cond.static yX4_beginsNumber, Cond.code yX4_beginsNumber cX4_beginsNumber 1 (some .boolean), Cond.methodLink RX4 142 yX4_isDigit]
def wsX4_run_r4 : List Cond := [Cond.static yX4_isDigit, Cond.code yX4_isDigit cX4_isDigit 1 (some .boolean), Cond.methodLink RX4 115 yX4_putWrittenNumber, Cond.instanceMethod yX4_putWrittenNumber, Cond.selects RX4 yX4_putWrittenNumber yX4_putWrittenNumber, Cond.code yX4_putWrittenNumber cX4_putWrittenNumber 9 none, Cond.constantLong RX4 145 (10), Cond.fieldLink RX4 14 "DeskStack" "stack" "LDeskStack$Shelf;", Cond.methodLink RX4 118 yX1_pass, Cond.methodLink RX4 149 yX3_putNumber, Cond.instanceMethod yX3_putNumber, Cond.selects RX3 yX3_putNumber yX3_putNumber, Cond.code yX3_putNumber cX3_putNumber 4 none, Cond.methodLink RX3 36 yX3_put, Cond.instanceMethod yX3_put, Cond.selects RX3 yX3_put yX3_put, Cond.code yX3_put cX3_put 6 none, Cond.classLink RX3 62 "java/lang/UnsupportedOperationException", Cond.methodLink RX3 58 yX3_isFull, Cond.instanceMethod yX3_isFull, Cond.selects RX3 yX3_isFull yX3_isFull, Cond.code yX3_isFull cX3_isFull 1 (some .boolean), Cond.fieldLink RX3 9 "DeskStack$Shelf" "values" "[J", Cond.methodLink RX3 69 yX3_set]
def wsX4_run_r5 : List Cond := [Cond.instanceMethod yX3_set, Cond.selects RX3 yX3_set yX3_set, Cond.code yX3_set cX3_set 7 none, Cond.fieldLink RX3 15 "DeskStack$Shelf" "places" "[I", Cond.fieldLink RX3 21 "DeskStack$Shelf" "rows" "[LDeskStack$Row;", Cond.fieldLink RX3 25 "DeskStack$Shelf" "starts" "[I", Cond.methodLink RX3 32 yX3_has, Cond.instanceMethod yX3_has, Cond.selects RX3 yX3_has yX3_has, Cond.code yX3_has cX3_has 2 (some .boolean), Cond.methodLink RX4 121 yX4_putWrittenText, Cond.instanceMethod yX4_putWrittenText, Cond.selects RX4 yX4_putWrittenText yX4_putWrittenText, Cond.code yX4_putWrittenText cX4_putWrittenText 6 none, Cond.methodLink RX4 153 yX1_innermostRow, Cond.instanceMethod yX1_innermostRow, Cond.selects RX1 yX1_innermostRow yX1_innermostRow, Cond.code yX1_innermostRow cX1_innermostRow 1 (some (.object "DeskStack$Row")), Cond.methodLink RX4 157 yX1_position, Cond.instanceMethod yX1_position, Cond.selects RX1 yX1_position yX1_position, Cond.code yX1_position cX1_position 1 (some .int), Cond.methodLink RX4 162 yX3_putText, Cond.instanceMethod yX3_putText]
def wsX4_run_r6 : List Cond := [Cond.selects RX3 yX3_putText yX3_putText, Cond.code yX3_putText cX3_putText 4 none, Cond.methodLink RX4 124 yX4_calculate, Cond.instanceMethod yX4_calculate, Cond.selects RX4 yX4_calculate yX4_calculate, Cond.code yX4_calculate cX4_calculate 12 none, Cond.methodLink RX4 185 Lib.Math.max.name, Cond.fieldLink RX4 39 "DeskStack" "keptPlaces" "I", Cond.methodLink RX4 197 Lib.Math.min.name, Cond.static Lib.Math.min.name, Cond.code Lib.Math.min.name Lib.Math.min.code 2 (some .int), Cond.methodLink RX4 182 yX4_needNumbers, Cond.instanceMethod yX4_needNumbers, Cond.selects RX4 yX4_needNumbers yX4_needNumbers, Cond.code yX4_needNumbers cX4_needNumbers 3 none, Cond.classLink RX4 177 "java/lang/IndexOutOfBoundsException", Cond.initialized "java/lang/IndexOutOfBoundsException", Cond.methodLink RX4 170 yX4_needItems, Cond.instanceMethod yX4_needItems, Cond.selects RX4 yX4_needItems yX4_needItems, Cond.code yX4_needItems cX4_needItems 2 none, Cond.classLink RX4 165 "java/lang/IllegalStateException", Cond.initialized "java/lang/IllegalStateException", Cond.fieldLink RX4 95 "DeskStack$Shelf" "count" "I"]
def wsX4_run_r7 : List Cond := [Cond.methodLink RX4 104 yX3_slotBelowTop, Cond.instanceMethod yX3_slotBelowTop, Cond.selects RX3 yX3_slotBelowTop yX3_slotBelowTop, Cond.code yX3_slotBelowTop cX3_slotBelowTop 2 (some .int), Cond.methodLink RX4 173 yX3_rowAt, Cond.instanceMethod yX3_rowAt, Cond.selects RX3 yX3_rowAt yX3_rowAt, Cond.code yX3_rowAt cX3_rowAt 2 (some (.object "DeskStack$Row")), Cond.methodLink RX4 96 yX3_valueAt, Cond.instanceMethod yX3_valueAt, Cond.selects RX3 yX3_valueAt yX3_valueAt, Cond.code yX3_valueAt cX3_valueAt 2 (some .long), Cond.methodLink RX4 100 yX3_placesAt, Cond.instanceMethod yX3_placesAt, Cond.selects RX3 yX3_placesAt yX3_placesAt, Cond.code yX3_placesAt cX3_placesAt 2 (some .int), Cond.methodLink RX4 191 yX0_sum, Cond.static yX0_sum, Cond.initialized RX0, Cond.code yX0_sum cX0_sum 7 (some .long), Cond.methodLink RX0 9 Lib.Math.max.name, Cond.methodLink RX0 15 yX0_raise, Cond.static yX0_raise, Cond.code yX0_raise cX0_raise 3 (some .long)]
def wsX4_run_r8 : List Cond := [Cond.methodLink RX0 74 yX0_powerOfTen, Cond.static yX0_powerOfTen, Cond.code yX0_powerOfTen cX0_powerOfTen 1 (some .long), Cond.fieldLink RX0 78 "DeskStack$Decimal" "POWERS" "[J", Cond.methodLink RX0 82 Lib.Math.min.name, Cond.methodLink RX0 58 yX0_times, Cond.static yX0_times, Cond.code yX0_times cX0_times 4 (some .long), Cond.classLink RX0 36 "java/lang/UnsupportedOperationException", Cond.methodLink RX0 31 Lib.MathLoose.abs_long.x, Cond.static Lib.MathLoose.abs_long.x, Cond.code Lib.MathLoose.abs_long.x Lib.MathLoose.abs_long.code 2 (some .long), Cond.constantLong RX0 34 (999999999999999999), Cond.methodLink RX0 21 yX0_fitting, Cond.static yX0_fitting, Cond.code yX0_fitting cX0_fitting 2 (some .long), Cond.methodLink RX4 200 yX0_times, Cond.methodLink RX4 204 yX0_cutOff, Cond.static yX0_cutOff, Cond.code yX0_cutOff cX0_cutOff 3 (some .long), Cond.methodLink RX0 48 yX0_divide, Cond.static yX0_divide, Cond.code yX0_divide cX0_divide 4 (some .long), Cond.methodLink RX4 208 yX0_quotient]
def wsX4_run_r9 : List Cond := [Cond.static yX0_quotient, Cond.code yX0_quotient cX0_quotient 8 (some .long), Cond.classLink RX0 43 "java/lang/ArithmeticException", Cond.initialized "java/lang/ArithmeticException", Cond.methodLink RX4 212 yX0_remainder, Cond.static yX0_remainder, Cond.code yX0_remainder cX0_remainder 13 (some .long), Cond.methodLink RX0 52 yX0_quotient, Cond.methodLink RX4 215 yX3_drop, Cond.instanceMethod yX3_drop, Cond.selects RX3 yX3_drop yX3_drop, Cond.code yX3_drop cX3_drop 2 none, Cond.methodLink RX3 73 Lib.Math.max.name, Cond.methodLink RX4 127 yX4_changeNumber, Cond.instanceMethod yX4_changeNumber, Cond.selects RX4 yX4_changeNumber yX4_changeNumber, Cond.code yX4_changeNumber cX4_changeNumber 8 none, Cond.methodLink RX4 218 yX0_asPlaces, Cond.static yX0_asPlaces, Cond.code yX0_asPlaces cX0_asPlaces 5 (some .int), Cond.constantLong RX0 70 (9), Cond.methodLink RX0 67 yX0_cutOff, Cond.methodLink RX4 221 yX0_root, Cond.static yX0_root]
def wsX4_run_r10 : List Cond := [Cond.code yX0_root cX0_root 13 (some .long), Cond.constantLong RX0 63 (999999999), Cond.constantLong RX0 65 (2), Cond.methodLink RX4 130 yX4_moveToOrFromRegister, Cond.instanceMethod yX4_moveToOrFromRegister, Cond.selects RX4 yX4_moveToOrFromRegister yX4_moveToOrFromRegister, Cond.code yX4_moveToOrFromRegister cX4_moveToOrFromRegister 3 none, Cond.methodLink RX4 242 yX4_registerOfLetter, Cond.instanceMethod yX4_registerOfLetter, Cond.selects RX4 yX4_registerOfLetter yX4_registerOfLetter, Cond.code yX4_registerOfLetter cX4_registerOfLetter 2 (some (.object "DeskStack$Shelf")), Cond.methodLink RX4 107 yX4_registerNumbered, Cond.instanceMethod yX4_registerNumbered, Cond.selects RX4 yX4_registerNumbered yX4_registerNumbered, Cond.code yX4_registerNumbered cX4_registerNumbered 2 (some (.object "DeskStack$Shelf")), Cond.fieldLink RX4 18 "DeskStack" "registers" "[LDeskStack$Shelf;", Cond.methodLink RX4 225 yX3_putTopOf, Cond.instanceMethod yX3_putTopOf, Cond.selects RX3 yX3_putTopOf yX3_putTopOf, Cond.code yX3_putTopOf cX3_putTopOf 3 none, Cond.methodLink RX3 40 yX3_slotBelowTop, Cond.methodLink RX3 44 yX3_valueAt, Cond.methodLink RX3 48 yX3_placesAt, Cond.methodLink RX3 51 yX3_rowAt]
def wsX4_run_r11 : List Cond := [Cond.methodLink RX3 55 yX3_startAt, Cond.instanceMethod yX3_startAt, Cond.selects RX3 yX3_startAt yX3_startAt, Cond.code yX3_startAt cX3_startAt 2 (some .int), Cond.methodLink RX4 246 yX4_needHeld, Cond.static yX4_needHeld, Cond.code yX4_needHeld cX4_needHeld 1 none, Cond.methodLink RX4 133 yX4_runIfOrdered, Cond.instanceMethod yX4_runIfOrdered, Cond.selects RX4 yX4_runIfOrdered yX4_runIfOrdered, Cond.code yX4_runIfOrdered cX4_runIfOrdered 9 none, Cond.methodLink RX4 255 yX0_order, Cond.static yX0_order, Cond.code yX0_order cX0_order 7 (some .int), Cond.methodLink RX0 25 yJ13_compare_74951, Cond.static yJ13_compare_74951, Cond.initialized RJ13, Cond.code yJ13_compare_74951 cJ13_compare_74951 4 (some .int), Cond.methodLink RX4 249 yX3_startAt, Cond.methodLink RX4 252 yX1_enterMacro, Cond.instanceMethod yX1_enterMacro, Cond.selects RX1 yX1_enterMacro yX1_enterMacro, Cond.code yX1_enterMacro cX1_enterMacro 4 none, Cond.methodLink RX1 35 yX1_skipBlanks]
def wsX4_run_r12 : List Cond := [Cond.methodLink RX1 42 yX1_leave, Cond.methodLink RX1 45 yX1_enter, Cond.methodLink RX4 136 yX4_runTop, Cond.instanceMethod yX4_runTop, Cond.selects RX4 yX4_runTop yX4_runTop, Cond.code yX4_runTop cX4_runTop 3 none, Cond.methodLink RX4 139 yX4_arrangeStack, Cond.instanceMethod yX4_arrangeStack, Cond.selects RX4 yX4_arrangeStack yX4_arrangeStack, Cond.code yX4_arrangeStack cX4_arrangeStack 2 none, Cond.methodLink RX4 229 yX3_swapTopTwo, Cond.instanceMethod yX3_swapTopTwo, Cond.selects RX3 yX3_swapTopTwo yX3_swapTopTwo, Cond.code yX3_swapTopTwo cX3_swapTopTwo 8 none, Cond.methodLink RX4 232 yX3_isFull]
def wsX4_run : List Cond := .code yX4_run cX4_run 3 (some .int) :: ((wsX4_run_r1 ++ (wsX4_run_r2 ++ (wsX4_run_r3 ++ (wsX4_run_r4 ++ (wsX4_run_r5 ++ (wsX4_run_r6 ++ (wsX4_run_r7 ++ (wsX4_run_r8 ++ (wsX4_run_r9 ++ (wsX4_run_r10 ++ (wsX4_run_r11 ++ wsX4_run_r12))))))))))) ++ wsX40 ++ wsX20 ++ wsX10 ++ wsX30 ++ (vx_atS RX4 60 "java/lang/IllegalArgumentException" ["java/lang/RuntimeException", "java/lang/Exception"]).filter goodWord ++ (vx_atS RX4 91 "java/lang/UnsupportedOperationException" ["java/lang/RuntimeException", "java/lang/Exception"]).filter goodWord ++ (vx_atS RX1 32 "java/lang/UnsupportedOperationException" ["java/lang/RuntimeException", "java/lang/Exception"]).filter goodWord ++ (vx_atS RX3 66 "java/lang/UnsupportedOperationException" ["java/lang/RuntimeException", "java/lang/Exception"]).filter goodWord ++ (vx_atS RX4 181 "java/lang/IndexOutOfBoundsException" ["java/lang/RuntimeException", "java/lang/Exception"]).filter goodWord ++ (vx_atS RX4 169 "java/lang/IllegalStateException" ["java/lang/RuntimeException", "java/lang/Exception"]).filter goodWord ++ (vx_atS RX0 40 "java/lang/UnsupportedOperationException" ["java/lang/RuntimeException", "java/lang/Exception"]).filter goodWord ++ (vx_atS RX0 47 "java/lang/ArithmeticException" ["java/lang/RuntimeException", "java/lang/Exception"]).filter goodWord)
def wsX4_cost : List Cond := .code yX4_cost cX4_cost 1 (some .int) :: ([.fieldLink RX4 43 "DeskStack" "commandsDone" "I"] ++ wsX40)
def wsX4_prints : List Cond := .code yX4_prints cX4_prints 1 (some .int) :: ([.fieldLink RX4 22 "DeskStack" "printer" "LDeskStack$Shelf;", .fieldLink RX4 95 "DeskStack$Shelf" "count" "I"] ++ wsX40 ++ wsX30)
def wsX4_printed : List Cond := .code yX4_printed cX4_printed 2 (some .long) :: ([.fieldLink RX4 22 "DeskStack" "printer" "LDeskStack$Shelf;", .methodLink RX4 96 yX3_valueAt, .instanceMethod yX3_valueAt, .selects RX3 yX3_valueAt yX3_valueAt, .initialized RX3, .code yX3_valueAt cX3_valueAt 2 (some .long), .fieldLink RX3 9 "DeskStack$Shelf" "values" "[J", .methodLink RX3 32 yX3_has, .instanceMethod yX3_has, .selects RX3 yX3_has yX3_has, .code yX3_has cX3_has 2 (some .boolean), .fieldLink RX3 28 "DeskStack$Shelf" "count" "I"] ++ wsX40 ++ wsX30)
def wsX4_places : List Cond := .code yX4_places cX4_places 2 (some .int) :: ([.fieldLink RX4 22 "DeskStack" "printer" "LDeskStack$Shelf;", .methodLink RX4 100 yX3_placesAt, .instanceMethod yX3_placesAt, .selects RX3 yX3_placesAt yX3_placesAt, .initialized RX3, .code yX3_placesAt cX3_placesAt 2 (some .int), .fieldLink RX3 15 "DeskStack$Shelf" "places" "[I", .methodLink RX3 32 yX3_has, .instanceMethod yX3_has, .selects RX3 yX3_has yX3_has, .code yX3_has cX3_has 2 (some .boolean), .fieldLink RX3 28 "DeskStack$Shelf" "count" "I", .fieldLink RX3 9 "DeskStack$Shelf" "values" "[J"] ++ wsX40 ++ wsX30)
def wsX4_depth : List Cond := .code yX4_depth cX4_depth 1 (some .int) :: ([.fieldLink RX4 14 "DeskStack" "stack" "LDeskStack$Shelf;", .fieldLink RX4 95 "DeskStack$Shelf" "count" "I"] ++ wsX40 ++ wsX30)
def wsX4_item : List Cond := .code yX4_item cX4_item 2 (some .long) :: ([.fieldLink RX4 14 "DeskStack" "stack" "LDeskStack$Shelf;", .methodLink RX4 104 yX3_slotBelowTop, .instanceMethod yX3_slotBelowTop, .selects RX3 yX3_slotBelowTop yX3_slotBelowTop, .initialized RX3, .code yX3_slotBelowTop cX3_slotBelowTop 2 (some .int), .fieldLink RX3 28 "DeskStack$Shelf" "count" "I", .methodLink RX4 96 yX3_valueAt, .instanceMethod yX3_valueAt, .selects RX3 yX3_valueAt yX3_valueAt, .code yX3_valueAt cX3_valueAt 2 (some .long), .fieldLink RX3 9 "DeskStack$Shelf" "values" "[J", .methodLink RX3 32 yX3_has, .instanceMethod yX3_has, .selects RX3 yX3_has yX3_has, .code yX3_has cX3_has 2 (some .boolean)] ++ wsX40 ++ wsX30)
def wsX4_scale : List Cond := .code yX4_scale cX4_scale 2 (some .int) :: ([.fieldLink RX4 14 "DeskStack" "stack" "LDeskStack$Shelf;", .methodLink RX4 104 yX3_slotBelowTop, .instanceMethod yX3_slotBelowTop, .selects RX3 yX3_slotBelowTop yX3_slotBelowTop, .initialized RX3, .code yX3_slotBelowTop cX3_slotBelowTop 2 (some .int), .fieldLink RX3 28 "DeskStack$Shelf" "count" "I", .methodLink RX4 100 yX3_placesAt, .instanceMethod yX3_placesAt, .selects RX3 yX3_placesAt yX3_placesAt, .code yX3_placesAt cX3_placesAt 2 (some .int), .fieldLink RX3 15 "DeskStack$Shelf" "places" "[I", .methodLink RX3 32 yX3_has, .instanceMethod yX3_has, .selects RX3 yX3_has yX3_has, .code yX3_has cX3_has 2 (some .boolean), .fieldLink RX3 9 "DeskStack$Shelf" "values" "[J"] ++ wsX40 ++ wsX30)
def wsX4_held : List Cond := .code yX4_held cX4_held 3 (some .int) :: ([.fieldLink RX4 95 "DeskStack$Shelf" "count" "I", .methodLink RX4 107 yX4_registerNumbered, .instanceMethod yX4_registerNumbered, .selects RX4 yX4_registerNumbered yX4_registerNumbered, .initialized RX4, .code yX4_registerNumbered cX4_registerNumbered 2 (some (.object "DeskStack$Shelf")), .fieldLink RX4 18 "DeskStack" "registers" "[LDeskStack$Shelf;"] ++ wsX30 ++ wsX40)
def wsX4_precision : List Cond := .code yX4_precision cX4_precision 1 (some .int) :: ([.fieldLink RX4 39 "DeskStack" "keptPlaces" "I"] ++ wsX40)
def wsX4_reset : List Cond := .code yX4_reset cX4_reset 3 none :: ([.fieldLink RX4 14 "DeskStack" "stack" "LDeskStack$Shelf;", .fieldLink RX4 22 "DeskStack" "printer" "LDeskStack$Shelf;", .fieldLink RX4 39 "DeskStack" "keptPlaces" "I", .methodLink RX4 63 yX3_clear, .instanceMethod yX3_clear, .selects RX3 yX3_clear yX3_clear, .initialized RX3, .code yX3_clear cX3_clear 1 none, .fieldLink RX3 28 "DeskStack$Shelf" "count" "I", .methodLink RX4 107 yX4_registerNumbered, .instanceMethod yX4_registerNumbered, .selects RX4 yX4_registerNumbered yX4_registerNumbered, .initialized RX4, .code yX4_registerNumbered cX4_registerNumbered 2 (some (.object "DeskStack$Shelf")), .fieldLink RX4 18 "DeskStack" "registers" "[LDeskStack$Shelf;"] ++ wsX40 ++ wsX30)
def wsX5_init : List Cond := .code yX5_init cX5_init 1 none :: ([.methodLink RX5 1 objectInit, .instanceMethod objectInit, .code objectInit ⟨#[0xb1]⟩ 1 none, .arrayClass .int, .fieldLink RX5 7 "DeskStackModel" "program" "[I", .arrayClass .long, .fieldLink RX5 13 "DeskStackModel" "value" "[J", .fieldLink RX5 17 "DeskStackModel" "places" "[I", .fieldLink RX5 20 "DeskStackModel" "letters" "[I", .fieldLink RX5 23 "DeskStackModel" "held" "[I", .fieldLink RX5 26 "DeskStackModel" "text" "[I", .fieldLink RX5 29 "DeskStackModel" "size" "[I", .fieldLink RX5 32 "DeskStackModel" "at" "[I", .fieldLink RX5 35 "DeskStackModel" "shown" "[J", .fieldLink RX5 38 "DeskStackModel" "shownPlaces" "[I"] ++ wsX50)
def wsX5_thrown : List Cond := .code yX5_thrown cX5_thrown 1 (some .int) :: ([.fieldLink RX5 41 "DeskStackModel" "thrown" "I"] ++ wsX50)
def wsX5_within : List Cond := .code yX5_within cX5_within 6 (some .boolean) :: ([])
def wsX5_write : List Cond := .code yX5_write cX5_write 6 (some .int) :: ([.fieldLink RX5 41 "DeskStackModel" "thrown" "I", .fieldLink RX5 45 "DeskStackModel" "length" "I", .fieldLink RX5 7 "DeskStackModel" "program" "[I"] ++ wsX50)
def wsX5_erase : List Cond := .code yX5_erase cX5_erase 2 (some .int) :: ([.fieldLink RX5 41 "DeskStackModel" "thrown" "I", .fieldLink RX5 45 "DeskStackModel" "length" "I"] ++ wsX50)
def wsX5_copy : List Cond := .code yX5_copy cX5_copy 4 none :: ([.fieldLink RX5 13 "DeskStackModel" "value" "[J", .fieldLink RX5 17 "DeskStackModel" "places" "[I", .fieldLink RX5 20 "DeskStackModel" "letters" "[I"] ++ wsX50)
def wsX5_fail : List Cond := .code yX5_fail cX5_fail 2 (some .boolean) :: ([.fieldLink RX5 48 "DeskStackModel" "fault" "I"] ++ wsX50)
def wsX5_have : List Cond := .code yX5_have cX5_have 2 (some .boolean) :: ([.fieldLink RX5 51 "DeskStackModel" "depth" "I", .methodLink RX5 54 yX5_fail, .instanceMethod yX5_fail, .selects RX5 yX5_fail yX5_fail, .initialized RX5, .code yX5_fail cX5_fail 2 (some .boolean), .fieldLink RX5 48 "DeskStackModel" "fault" "I"] ++ wsX50)
def wsX5_numbers : List Cond := .code yX5_numbers cX5_numbers 3 (some .boolean) :: ([.fieldLink RX5 17 "DeskStackModel" "places" "[I", .fieldLink RX5 51 "DeskStackModel" "depth" "I", .methodLink RX5 58 yX5_have, .instanceMethod yX5_have, .selects RX5 yX5_have yX5_have, .initialized RX5, .code yX5_have cX5_have 2 (some .boolean), .methodLink RX5 54 yX5_fail, .instanceMethod yX5_fail, .selects RX5 yX5_fail yX5_fail, .code yX5_fail cX5_fail 2 (some .boolean), .fieldLink RX5 48 "DeskStackModel" "fault" "I"] ++ wsX50)
def wsX5_room : List Cond := .code yX5_room cX5_room 1 (some .boolean) :: ([.fieldLink RX5 51 "DeskStackModel" "depth" "I", .methodLink RX5 54 yX5_fail, .instanceMethod yX5_fail, .selects RX5 yX5_fail yX5_fail, .initialized RX5, .code yX5_fail cX5_fail 2 (some .boolean), .fieldLink RX5 48 "DeskStackModel" "fault" "I"] ++ wsX50)
def wsX5_put : List Cond := .code yX5_put cX5_put 5 none :: ([.fieldLink RX5 51 "DeskStackModel" "depth" "I", .fieldLink RX5 13 "DeskStackModel" "value" "[J", .fieldLink RX5 17 "DeskStackModel" "places" "[I"] ++ wsX50)
def wsX5_register : List Cond := .code yX5_register cX5_register 1 (some .int) :: ([])
def wsX5_topOf : List Cond := .code yX5_topOf cX5_topOf 2 (some .int) :: ([.fieldLink RX5 23 "DeskStackModel" "held" "[I"] ++ wsX50)
def wsX5_isBig : List Cond := .code yX5_isBig cX5_isBig 2 (some .boolean) :: ([.constantLong RX5 61 (999999999999999999), .constantLong RX5 63 (-999999999999999999)])
def wsX5_raised : List Cond := .code yX5_raised cX5_raised 7 (some .long) :: ([.fieldLink RX5 48 "DeskStackModel" "fault" "I", .constantLong RX5 65 (99999999999999999), .constantLong RX5 67 (-99999999999999999), .constantLong RX5 69 (10)] ++ wsX50)
def wsX5_cut : List Cond := .code yX5_cut cX5_cut 6 (some .long) :: ([.constantLong RX5 69 (10)])
def wsX5_product : List Cond := .code yX5_product cX5_product 9 (some .long) :: ([.constantLong RX5 61 (999999999999999999), .fieldLink RX5 48 "DeskStackModel" "fault" "I"] ++ wsX50)
def wsX5_greater : List Cond := .code yX5_greater cX5_greater 2 (some .int) :: ([])
def wsX5_sum_r1 : List Cond := [Cond.fieldLink RX5 17 "DeskStackModel" "places" "[I", Cond.fieldLink RX5 51 "DeskStackModel" "depth" "I", Cond.fieldLink RX5 78 "DeskStackModel" "s" "I", Cond.fieldLink RX5 13 "DeskStackModel" "value" "[J", Cond.fieldLink RX5 48 "DeskStackModel" "fault" "I", Cond.fieldLink RX5 85 "DeskStackModel" "m" "J", Cond.methodLink RX5 71 yX5_numbers, Cond.instanceMethod yX5_numbers, Cond.selects RX5 yX5_numbers yX5_numbers, Cond.initialized RX5, Cond.code yX5_numbers cX5_numbers 3 (some .boolean), Cond.methodLink RX5 58 yX5_have, Cond.instanceMethod yX5_have, Cond.selects RX5 yX5_have yX5_have, Cond.code yX5_have cX5_have 2 (some .boolean), Cond.methodLink RX5 54 yX5_fail, Cond.instanceMethod yX5_fail, Cond.selects RX5 yX5_fail yX5_fail, Cond.code yX5_fail cX5_fail 2 (some .boolean), Cond.methodLink RX5 74 yX5_greater, Cond.static yX5_greater, Cond.code yX5_greater cX5_greater 2 (some .int), Cond.methodLink RX5 81 yX5_raised, Cond.instanceMethod yX5_raised]
def wsX5_sum_r2 : List Cond := [Cond.selects RX5 yX5_raised yX5_raised, Cond.code yX5_raised cX5_raised 7 (some .long), Cond.constantLong RX5 65 (99999999999999999), Cond.constantLong RX5 67 (-99999999999999999), Cond.constantLong RX5 69 (10), Cond.methodLink RX5 89 yX5_isBig, Cond.static yX5_isBig, Cond.code yX5_isBig cX5_isBig 2 (some .boolean), Cond.constantLong RX5 61 (999999999999999999), Cond.constantLong RX5 63 (-999999999999999999)]
def wsX5_sum : List Cond := .code yX5_sum cX5_sum 6 (some .boolean) :: ((wsX5_sum_r1 ++ wsX5_sum_r2) ++ wsX50)
def wsX5_times_r1 : List Cond := [Cond.fieldLink RX5 17 "DeskStackModel" "places" "[I", Cond.fieldLink RX5 51 "DeskStackModel" "depth" "I", Cond.fieldLink RX5 93 "DeskStackModel" "precision" "I", Cond.fieldLink RX5 78 "DeskStackModel" "s" "I", Cond.fieldLink RX5 13 "DeskStackModel" "value" "[J", Cond.fieldLink RX5 85 "DeskStackModel" "m" "J", Cond.fieldLink RX5 48 "DeskStackModel" "fault" "I", Cond.methodLink RX5 71 yX5_numbers, Cond.instanceMethod yX5_numbers, Cond.selects RX5 yX5_numbers yX5_numbers, Cond.initialized RX5, Cond.code yX5_numbers cX5_numbers 3 (some .boolean), Cond.methodLink RX5 58 yX5_have, Cond.instanceMethod yX5_have, Cond.selects RX5 yX5_have yX5_have, Cond.code yX5_have cX5_have 2 (some .boolean), Cond.methodLink RX5 54 yX5_fail, Cond.instanceMethod yX5_fail, Cond.selects RX5 yX5_fail yX5_fail, Cond.code yX5_fail cX5_fail 2 (some .boolean), Cond.methodLink RX5 74 yX5_greater, Cond.static yX5_greater, Cond.code yX5_greater cX5_greater 2 (some .int), Cond.methodLink RX5 96 yX5_product]
def wsX5_times_r2 : List Cond := [Cond.instanceMethod yX5_product, Cond.selects RX5 yX5_product yX5_product, Cond.code yX5_product cX5_product 9 (some .long), Cond.constantLong RX5 61 (999999999999999999), Cond.methodLink RX5 100 yX5_cut, Cond.static yX5_cut, Cond.code yX5_cut cX5_cut 6 (some .long), Cond.constantLong RX5 69 (10)]
def wsX5_times : List Cond := .code yX5_times cX5_times 3 (some .boolean) :: ((wsX5_times_r1 ++ wsX5_times_r2) ++ wsX50)
def wsX5_quotient_r1 : List Cond := [Cond.fieldLink RX5 13 "DeskStackModel" "value" "[J", Cond.fieldLink RX5 51 "DeskStackModel" "depth" "I", Cond.fieldLink RX5 93 "DeskStackModel" "precision" "I", Cond.fieldLink RX5 17 "DeskStackModel" "places" "[I", Cond.fieldLink RX5 48 "DeskStackModel" "fault" "I", Cond.fieldLink RX5 85 "DeskStackModel" "m" "J", Cond.fieldLink RX5 78 "DeskStackModel" "s" "I", Cond.methodLink RX5 71 yX5_numbers, Cond.instanceMethod yX5_numbers, Cond.selects RX5 yX5_numbers yX5_numbers, Cond.initialized RX5, Cond.code yX5_numbers cX5_numbers 3 (some .boolean), Cond.methodLink RX5 58 yX5_have, Cond.instanceMethod yX5_have, Cond.selects RX5 yX5_have yX5_have, Cond.code yX5_have cX5_have 2 (some .boolean), Cond.methodLink RX5 54 yX5_fail, Cond.instanceMethod yX5_fail, Cond.selects RX5 yX5_fail yX5_fail, Cond.code yX5_fail cX5_fail 2 (some .boolean), Cond.methodLink RX5 81 yX5_raised, Cond.instanceMethod yX5_raised, Cond.selects RX5 yX5_raised yX5_raised, Cond.code yX5_raised cX5_raised 7 (some .long)]
def wsX5_quotient_r2 : List Cond := [Cond.constantLong RX5 65 (99999999999999999), Cond.constantLong RX5 67 (-99999999999999999), Cond.constantLong RX5 69 (10)]
def wsX5_quotient : List Cond := .code yX5_quotient cX5_quotient 6 (some .boolean) :: ((wsX5_quotient_r1 ++ wsX5_quotient_r2) ++ wsX50)
def wsX5_rest_r1 : List Cond := [Cond.fieldLink RX5 93 "DeskStackModel" "precision" "I", Cond.fieldLink RX5 17 "DeskStackModel" "places" "[I", Cond.fieldLink RX5 51 "DeskStackModel" "depth" "I", Cond.fieldLink RX5 78 "DeskStackModel" "s" "I", Cond.fieldLink RX5 85 "DeskStackModel" "m" "J", Cond.fieldLink RX5 13 "DeskStackModel" "value" "[J", Cond.fieldLink RX5 48 "DeskStackModel" "fault" "I", Cond.methodLink RX5 103 yX5_quotient, Cond.instanceMethod yX5_quotient, Cond.selects RX5 yX5_quotient yX5_quotient, Cond.initialized RX5, Cond.code yX5_quotient cX5_quotient 6 (some .boolean), Cond.methodLink RX5 71 yX5_numbers, Cond.instanceMethod yX5_numbers, Cond.selects RX5 yX5_numbers yX5_numbers, Cond.code yX5_numbers cX5_numbers 3 (some .boolean), Cond.methodLink RX5 58 yX5_have, Cond.instanceMethod yX5_have, Cond.selects RX5 yX5_have yX5_have, Cond.code yX5_have cX5_have 2 (some .boolean), Cond.methodLink RX5 54 yX5_fail, Cond.instanceMethod yX5_fail, Cond.selects RX5 yX5_fail yX5_fail, Cond.code yX5_fail cX5_fail 2 (some .boolean)]
def wsX5_rest_r2 : List Cond := [Cond.methodLink RX5 81 yX5_raised, Cond.instanceMethod yX5_raised, Cond.selects RX5 yX5_raised yX5_raised, Cond.code yX5_raised cX5_raised 7 (some .long), Cond.constantLong RX5 65 (99999999999999999), Cond.constantLong RX5 67 (-99999999999999999), Cond.constantLong RX5 69 (10), Cond.methodLink RX5 74 yX5_greater, Cond.static yX5_greater, Cond.code yX5_greater cX5_greater 2 (some .int), Cond.methodLink RX5 96 yX5_product, Cond.instanceMethod yX5_product, Cond.selects RX5 yX5_product yX5_product, Cond.code yX5_product cX5_product 9 (some .long), Cond.constantLong RX5 61 (999999999999999999), Cond.methodLink RX5 89 yX5_isBig, Cond.static yX5_isBig, Cond.code yX5_isBig cX5_isBig 2 (some .boolean), Cond.constantLong RX5 63 (-999999999999999999)]
def wsX5_rest : List Cond := .code yX5_rest cX5_rest 7 (some .boolean) :: ((wsX5_rest_r1 ++ wsX5_rest_r2) ++ wsX50)
def wsX5_root_r1 : List Cond := [Cond.fieldLink RX5 13 "DeskStackModel" "value" "[J", Cond.fieldLink RX5 51 "DeskStackModel" "depth" "I", Cond.fieldLink RX5 93 "DeskStackModel" "precision" "I", Cond.fieldLink RX5 17 "DeskStackModel" "places" "[I", Cond.fieldLink RX5 78 "DeskStackModel" "s" "I", Cond.fieldLink RX5 48 "DeskStackModel" "fault" "I", Cond.constantLong RX5 107 (1000000000), Cond.constantLong RX5 109 (2), Cond.fieldLink RX5 85 "DeskStackModel" "m" "J", Cond.methodLink RX5 71 yX5_numbers, Cond.instanceMethod yX5_numbers, Cond.selects RX5 yX5_numbers yX5_numbers, Cond.initialized RX5, Cond.code yX5_numbers cX5_numbers 3 (some .boolean), Cond.methodLink RX5 58 yX5_have, Cond.instanceMethod yX5_have, Cond.selects RX5 yX5_have yX5_have, Cond.code yX5_have cX5_have 2 (some .boolean), Cond.methodLink RX5 54 yX5_fail, Cond.instanceMethod yX5_fail, Cond.selects RX5 yX5_fail yX5_fail, Cond.code yX5_fail cX5_fail 2 (some .boolean), Cond.methodLink RX5 74 yX5_greater, Cond.static yX5_greater]
def wsX5_root_r2 : List Cond := [Cond.code yX5_greater cX5_greater 2 (some .int), Cond.methodLink RX5 81 yX5_raised, Cond.instanceMethod yX5_raised, Cond.selects RX5 yX5_raised yX5_raised, Cond.code yX5_raised cX5_raised 7 (some .long), Cond.constantLong RX5 65 (99999999999999999), Cond.constantLong RX5 67 (-99999999999999999), Cond.constantLong RX5 69 (10)]
def wsX5_root : List Cond := .code yX5_root cX5_root 10 (some .boolean) :: ((wsX5_root_r1 ++ wsX5_root_r2) ++ wsX50)
def wsX5_charAt : List Cond := .code yX5_charAt cX5_charAt 3 (some .int) :: ([.fieldLink RX5 29 "DeskStackModel" "size" "[I", .fieldLink RX5 26 "DeskStackModel" "text" "[I"] ++ wsX50)
def wsX5_isNothing : List Cond := .code yX5_isNothing cX5_isNothing 2 (some .boolean) :: ([])
def wsX5_isDone : List Cond := .code yX5_isDone cX5_isDone 4 (some .boolean) :: ([.fieldLink RX5 111 "DeskStackModel" "levels" "I", .fieldLink RX5 29 "DeskStackModel" "size" "[I", .fieldLink RX5 26 "DeskStackModel" "text" "[I", .methodLink RX5 114 yX5_isNothing, .instanceMethod yX5_isNothing, .selects RX5 yX5_isNothing yX5_isNothing, .initialized RX5, .code yX5_isNothing cX5_isNothing 2 (some .boolean)] ++ wsX50)
def wsX5_mayRun : List Cond := .code yX5_mayRun cX5_mayRun 2 (some .boolean) :: ([.fieldLink RX5 111 "DeskStackModel" "levels" "I", .methodLink RX5 117 yX5_isDone, .instanceMethod yX5_isDone, .selects RX5 yX5_isDone yX5_isDone, .initialized RX5, .code yX5_isDone cX5_isDone 4 (some .boolean), .fieldLink RX5 29 "DeskStackModel" "size" "[I", .fieldLink RX5 26 "DeskStackModel" "text" "[I", .methodLink RX5 114 yX5_isNothing, .instanceMethod yX5_isNothing, .selects RX5 yX5_isNothing yX5_isNothing, .code yX5_isNothing cX5_isNothing 2 (some .boolean), .methodLink RX5 54 yX5_fail, .instanceMethod yX5_fail, .selects RX5 yX5_fail yX5_fail, .code yX5_fail cX5_fail 2 (some .boolean), .fieldLink RX5 48 "DeskStackModel" "fault" "I"] ++ wsX50)
def wsX5_begin : List Cond := .code yX5_begin cX5_begin 4 none :: ([.fieldLink RX5 32 "DeskStackModel" "at" "[I", .fieldLink RX5 111 "DeskStackModel" "levels" "I", .fieldLink RX5 29 "DeskStackModel" "size" "[I", .fieldLink RX5 13 "DeskStackModel" "value" "[J", .fieldLink RX5 26 "DeskStackModel" "text" "[I", .fieldLink RX5 20 "DeskStackModel" "letters" "[I", .methodLink RX5 117 yX5_isDone, .instanceMethod yX5_isDone, .selects RX5 yX5_isDone yX5_isDone, .initialized RX5, .code yX5_isDone cX5_isDone 4 (some .boolean), .methodLink RX5 114 yX5_isNothing, .instanceMethod yX5_isNothing, .selects RX5 yX5_isNothing yX5_isNothing, .code yX5_isNothing cX5_isNothing 2 (some .boolean)] ++ wsX50)
def wsX5_digits_r1 : List Cond := [Cond.fieldLink RX5 111 "DeskStackModel" "levels" "I", Cond.constantLong RX5 123 (48), Cond.constantLong RX5 125 (57), Cond.constantLong RX5 69 (10), Cond.fieldLink RX5 32 "DeskStackModel" "at" "[I", Cond.methodLink RX5 120 yX5_charAt, Cond.instanceMethod yX5_charAt, Cond.selects RX5 yX5_charAt yX5_charAt, Cond.initialized RX5, Cond.code yX5_charAt cX5_charAt 3 (some .int), Cond.fieldLink RX5 29 "DeskStackModel" "size" "[I", Cond.fieldLink RX5 26 "DeskStackModel" "text" "[I", Cond.methodLink RX5 127 yX5_within, Cond.static yX5_within, Cond.code yX5_within cX5_within 6 (some .boolean), Cond.methodLink RX5 54 yX5_fail, Cond.instanceMethod yX5_fail, Cond.selects RX5 yX5_fail yX5_fail, Cond.code yX5_fail cX5_fail 2 (some .boolean), Cond.fieldLink RX5 48 "DeskStackModel" "fault" "I", Cond.methodLink RX5 131 yX5_room, Cond.instanceMethod yX5_room, Cond.selects RX5 yX5_room yX5_room, Cond.code yX5_room cX5_room 1 (some .boolean)]
def wsX5_digits_r2 : List Cond := [Cond.fieldLink RX5 51 "DeskStackModel" "depth" "I", Cond.methodLink RX5 134 yX5_put, Cond.instanceMethod yX5_put, Cond.selects RX5 yX5_put yX5_put, Cond.code yX5_put cX5_put 5 none, Cond.fieldLink RX5 13 "DeskStackModel" "value" "[J", Cond.fieldLink RX5 17 "DeskStackModel" "places" "[I"]
def wsX5_digits : List Cond := .code yX5_digits cX5_digits 11 (some .boolean) :: ((wsX5_digits_r1 ++ wsX5_digits_r2) ++ wsX50)
def wsX5_brackets : List Cond := .code yX5_brackets cX5_brackets 7 (some .boolean) :: ([.fieldLink RX5 111 "DeskStackModel" "levels" "I", .fieldLink RX5 29 "DeskStackModel" "size" "[I", .fieldLink RX5 26 "DeskStackModel" "text" "[I", .fieldLink RX5 20 "DeskStackModel" "letters" "[I", .fieldLink RX5 51 "DeskStackModel" "depth" "I", .fieldLink RX5 32 "DeskStackModel" "at" "[I", .methodLink RX5 54 yX5_fail, .instanceMethod yX5_fail, .selects RX5 yX5_fail yX5_fail, .initialized RX5, .code yX5_fail cX5_fail 2 (some .boolean), .fieldLink RX5 48 "DeskStackModel" "fault" "I", .methodLink RX5 131 yX5_room, .instanceMethod yX5_room, .selects RX5 yX5_room yX5_room, .code yX5_room cX5_room 1 (some .boolean), .methodLink RX5 134 yX5_put, .instanceMethod yX5_put, .selects RX5 yX5_put yX5_put, .code yX5_put cX5_put 5 none, .fieldLink RX5 13 "DeskStackModel" "value" "[J", .fieldLink RX5 17 "DeskStackModel" "places" "[I"] ++ wsX50)
def wsX5_calculates_r1 : List Cond := [Cond.fieldLink RX5 13 "DeskStackModel" "value" "[J", Cond.fieldLink RX5 51 "DeskStackModel" "depth" "I", Cond.fieldLink RX5 17 "DeskStackModel" "places" "[I", Cond.constantLong RX5 151 (9), Cond.fieldLink RX5 93 "DeskStackModel" "precision" "I", Cond.fieldLink RX5 85 "DeskStackModel" "m" "J", Cond.fieldLink RX5 78 "DeskStackModel" "s" "I", Cond.methodLink RX5 138 yX5_sum, Cond.instanceMethod yX5_sum, Cond.selects RX5 yX5_sum yX5_sum, Cond.initialized RX5, Cond.code yX5_sum cX5_sum 6 (some .boolean), Cond.fieldLink RX5 48 "DeskStackModel" "fault" "I", Cond.methodLink RX5 71 yX5_numbers, Cond.instanceMethod yX5_numbers, Cond.selects RX5 yX5_numbers yX5_numbers, Cond.code yX5_numbers cX5_numbers 3 (some .boolean), Cond.methodLink RX5 58 yX5_have, Cond.instanceMethod yX5_have, Cond.selects RX5 yX5_have yX5_have, Cond.code yX5_have cX5_have 2 (some .boolean), Cond.methodLink RX5 54 yX5_fail, Cond.instanceMethod yX5_fail, Cond.selects RX5 yX5_fail yX5_fail]
def wsX5_calculates_r2 : List Cond := [Cond.code yX5_fail cX5_fail 2 (some .boolean), Cond.methodLink RX5 74 yX5_greater, Cond.static yX5_greater, Cond.code yX5_greater cX5_greater 2 (some .int), Cond.methodLink RX5 81 yX5_raised, Cond.instanceMethod yX5_raised, Cond.selects RX5 yX5_raised yX5_raised, Cond.code yX5_raised cX5_raised 7 (some .long), Cond.constantLong RX5 65 (99999999999999999), Cond.constantLong RX5 67 (-99999999999999999), Cond.constantLong RX5 69 (10), Cond.methodLink RX5 89 yX5_isBig, Cond.static yX5_isBig, Cond.code yX5_isBig cX5_isBig 2 (some .boolean), Cond.constantLong RX5 61 (999999999999999999), Cond.constantLong RX5 63 (-999999999999999999), Cond.methodLink RX5 142 yX5_times, Cond.instanceMethod yX5_times, Cond.selects RX5 yX5_times yX5_times, Cond.code yX5_times cX5_times 3 (some .boolean), Cond.methodLink RX5 96 yX5_product, Cond.instanceMethod yX5_product, Cond.selects RX5 yX5_product yX5_product, Cond.code yX5_product cX5_product 9 (some .long)]
def wsX5_calculates_r3 : List Cond := [Cond.methodLink RX5 100 yX5_cut, Cond.static yX5_cut, Cond.code yX5_cut cX5_cut 6 (some .long), Cond.methodLink RX5 103 yX5_quotient, Cond.instanceMethod yX5_quotient, Cond.selects RX5 yX5_quotient yX5_quotient, Cond.code yX5_quotient cX5_quotient 6 (some .boolean), Cond.methodLink RX5 145 yX5_rest, Cond.instanceMethod yX5_rest, Cond.selects RX5 yX5_rest yX5_rest, Cond.code yX5_rest cX5_rest 7 (some .boolean), Cond.methodLink RX5 148 yX5_root, Cond.instanceMethod yX5_root, Cond.selects RX5 yX5_root yX5_root, Cond.code yX5_root cX5_root 10 (some .boolean), Cond.constantLong RX5 107 (1000000000), Cond.constantLong RX5 109 (2), Cond.methodLink RX5 134 yX5_put, Cond.instanceMethod yX5_put, Cond.selects RX5 yX5_put yX5_put, Cond.code yX5_put cX5_put 5 none, Cond.methodLink RX5 127 yX5_within, Cond.static yX5_within, Cond.code yX5_within cX5_within 6 (some .boolean)]
def wsX5_calculates : List Cond := .code yX5_calculates cX5_calculates 8 (some .boolean) :: ((wsX5_calculates_r1 ++ (wsX5_calculates_r2 ++ wsX5_calculates_r3)) ++ wsX50)
def wsX5_moves_r1 : List Cond := [Cond.fieldLink RX5 51 "DeskStackModel" "depth" "I", Cond.fieldLink RX5 93 "DeskStackModel" "precision" "I", Cond.fieldLink RX5 157 "DeskStackModel" "prints" "I", Cond.fieldLink RX5 35 "DeskStackModel" "shown" "[J", Cond.fieldLink RX5 13 "DeskStackModel" "value" "[J", Cond.fieldLink RX5 38 "DeskStackModel" "shownPlaces" "[I", Cond.fieldLink RX5 17 "DeskStackModel" "places" "[I", Cond.methodLink RX5 131 yX5_room, Cond.instanceMethod yX5_room, Cond.selects RX5 yX5_room yX5_room, Cond.initialized RX5, Cond.code yX5_room cX5_room 1 (some .boolean), Cond.methodLink RX5 54 yX5_fail, Cond.instanceMethod yX5_fail, Cond.selects RX5 yX5_fail yX5_fail, Cond.code yX5_fail cX5_fail 2 (some .boolean), Cond.fieldLink RX5 48 "DeskStackModel" "fault" "I", Cond.methodLink RX5 134 yX5_put, Cond.instanceMethod yX5_put, Cond.selects RX5 yX5_put yX5_put, Cond.code yX5_put cX5_put 5 none, Cond.methodLink RX5 58 yX5_have, Cond.instanceMethod yX5_have, Cond.selects RX5 yX5_have yX5_have]
def wsX5_moves_r2 : List Cond := [Cond.code yX5_have cX5_have 2 (some .boolean), Cond.methodLink RX5 153 yX5_copy, Cond.instanceMethod yX5_copy, Cond.selects RX5 yX5_copy yX5_copy, Cond.code yX5_copy cX5_copy 4 none, Cond.fieldLink RX5 20 "DeskStackModel" "letters" "[I"]
def wsX5_moves : List Cond := .code yX5_moves cX5_moves 2 (some .boolean) :: ((wsX5_moves_r1 ++ wsX5_moves_r2) ++ wsX50)
def wsX5_stores_r1 : List Cond := [Cond.fieldLink RX5 23 "DeskStackModel" "held" "[I", Cond.fieldLink RX5 51 "DeskStackModel" "depth" "I", Cond.methodLink RX5 58 yX5_have, Cond.instanceMethod yX5_have, Cond.selects RX5 yX5_have yX5_have, Cond.initialized RX5, Cond.code yX5_have cX5_have 2 (some .boolean), Cond.methodLink RX5 54 yX5_fail, Cond.instanceMethod yX5_fail, Cond.selects RX5 yX5_fail yX5_fail, Cond.code yX5_fail cX5_fail 2 (some .boolean), Cond.fieldLink RX5 48 "DeskStackModel" "fault" "I", Cond.methodLink RX5 160 yX5_topOf, Cond.instanceMethod yX5_topOf, Cond.selects RX5 yX5_topOf yX5_topOf, Cond.code yX5_topOf cX5_topOf 2 (some .int), Cond.methodLink RX5 153 yX5_copy, Cond.instanceMethod yX5_copy, Cond.selects RX5 yX5_copy yX5_copy, Cond.code yX5_copy cX5_copy 4 none, Cond.fieldLink RX5 13 "DeskStackModel" "value" "[J", Cond.fieldLink RX5 17 "DeskStackModel" "places" "[I", Cond.fieldLink RX5 20 "DeskStackModel" "letters" "[I", Cond.methodLink RX5 131 yX5_room]
def wsX5_stores_r2 : List Cond := [Cond.instanceMethod yX5_room, Cond.selects RX5 yX5_room yX5_room, Cond.code yX5_room cX5_room 1 (some .boolean)]
def wsX5_stores : List Cond := .code yX5_stores cX5_stores 4 (some .boolean) :: ((wsX5_stores_r1 ++ wsX5_stores_r2) ++ wsX50)
def wsX5_compared : List Cond := .code yX5_compared cX5_compared 6 (some .boolean) :: ([.fieldLink RX5 17 "DeskStackModel" "places" "[I", .fieldLink RX5 51 "DeskStackModel" "depth" "I", .fieldLink RX5 13 "DeskStackModel" "value" "[J", .constantLong RX5 173 (-1), .fieldLink RX5 85 "DeskStackModel" "m" "J", .fieldLink RX5 48 "DeskStackModel" "fault" "I", .methodLink RX5 74 yX5_greater, .static yX5_greater, .initialized RX5, .code yX5_greater cX5_greater 2 (some .int), .methodLink RX5 81 yX5_raised, .instanceMethod yX5_raised, .selects RX5 yX5_raised yX5_raised, .code yX5_raised cX5_raised 7 (some .long), .constantLong RX5 65 (99999999999999999), .constantLong RX5 67 (-99999999999999999), .constantLong RX5 69 (10)] ++ wsX50)
def wsX5_tests_r1 : List Cond := [Cond.fieldLink RX5 85 "DeskStackModel" "m" "J", Cond.fieldLink RX5 51 "DeskStackModel" "depth" "I", Cond.fieldLink RX5 23 "DeskStackModel" "held" "[I", Cond.fieldLink RX5 17 "DeskStackModel" "places" "[I", Cond.methodLink RX5 71 yX5_numbers, Cond.instanceMethod yX5_numbers, Cond.selects RX5 yX5_numbers yX5_numbers, Cond.initialized RX5, Cond.code yX5_numbers cX5_numbers 3 (some .boolean), Cond.methodLink RX5 58 yX5_have, Cond.instanceMethod yX5_have, Cond.selects RX5 yX5_have yX5_have, Cond.code yX5_have cX5_have 2 (some .boolean), Cond.methodLink RX5 54 yX5_fail, Cond.instanceMethod yX5_fail, Cond.selects RX5 yX5_fail yX5_fail, Cond.code yX5_fail cX5_fail 2 (some .boolean), Cond.fieldLink RX5 48 "DeskStackModel" "fault" "I", Cond.methodLink RX5 164 yX5_compared, Cond.instanceMethod yX5_compared, Cond.selects RX5 yX5_compared yX5_compared, Cond.code yX5_compared cX5_compared 6 (some .boolean), Cond.fieldLink RX5 13 "DeskStackModel" "value" "[J", Cond.constantLong RX5 173 (-1)]
def wsX5_tests_r2 : List Cond := [Cond.methodLink RX5 74 yX5_greater, Cond.static yX5_greater, Cond.code yX5_greater cX5_greater 2 (some .int), Cond.methodLink RX5 81 yX5_raised, Cond.instanceMethod yX5_raised, Cond.selects RX5 yX5_raised yX5_raised, Cond.code yX5_raised cX5_raised 7 (some .long), Cond.constantLong RX5 65 (99999999999999999), Cond.constantLong RX5 67 (-99999999999999999), Cond.constantLong RX5 69 (10), Cond.methodLink RX5 160 yX5_topOf, Cond.instanceMethod yX5_topOf, Cond.selects RX5 yX5_topOf yX5_topOf, Cond.code yX5_topOf cX5_topOf 2 (some .int), Cond.methodLink RX5 167 yX5_mayRun, Cond.instanceMethod yX5_mayRun, Cond.selects RX5 yX5_mayRun yX5_mayRun, Cond.code yX5_mayRun cX5_mayRun 2 (some .boolean), Cond.fieldLink RX5 111 "DeskStackModel" "levels" "I", Cond.methodLink RX5 117 yX5_isDone, Cond.instanceMethod yX5_isDone, Cond.selects RX5 yX5_isDone yX5_isDone, Cond.code yX5_isDone cX5_isDone 4 (some .boolean), Cond.fieldLink RX5 29 "DeskStackModel" "size" "[I"]
def wsX5_tests_r3 : List Cond := [Cond.fieldLink RX5 26 "DeskStackModel" "text" "[I", Cond.methodLink RX5 114 yX5_isNothing, Cond.instanceMethod yX5_isNothing, Cond.selects RX5 yX5_isNothing yX5_isNothing, Cond.code yX5_isNothing cX5_isNothing 2 (some .boolean), Cond.methodLink RX5 170 yX5_begin, Cond.instanceMethod yX5_begin, Cond.selects RX5 yX5_begin yX5_begin, Cond.code yX5_begin cX5_begin 4 none, Cond.fieldLink RX5 32 "DeskStackModel" "at" "[I", Cond.fieldLink RX5 20 "DeskStackModel" "letters" "[I"]
def wsX5_tests : List Cond := .code yX5_tests cX5_tests 5 (some .boolean) :: ((wsX5_tests_r1 ++ (wsX5_tests_r2 ++ wsX5_tests_r3)) ++ wsX50)
def wsX5_runs_r1 : List Cond := [Cond.fieldLink RX5 17 "DeskStackModel" "places" "[I", Cond.fieldLink RX5 51 "DeskStackModel" "depth" "I", Cond.methodLink RX5 58 yX5_have, Cond.instanceMethod yX5_have, Cond.selects RX5 yX5_have yX5_have, Cond.initialized RX5, Cond.code yX5_have cX5_have 2 (some .boolean), Cond.methodLink RX5 54 yX5_fail, Cond.instanceMethod yX5_fail, Cond.selects RX5 yX5_fail yX5_fail, Cond.code yX5_fail cX5_fail 2 (some .boolean), Cond.fieldLink RX5 48 "DeskStackModel" "fault" "I", Cond.methodLink RX5 167 yX5_mayRun, Cond.instanceMethod yX5_mayRun, Cond.selects RX5 yX5_mayRun yX5_mayRun, Cond.code yX5_mayRun cX5_mayRun 2 (some .boolean), Cond.fieldLink RX5 111 "DeskStackModel" "levels" "I", Cond.methodLink RX5 117 yX5_isDone, Cond.instanceMethod yX5_isDone, Cond.selects RX5 yX5_isDone yX5_isDone, Cond.code yX5_isDone cX5_isDone 4 (some .boolean), Cond.fieldLink RX5 29 "DeskStackModel" "size" "[I", Cond.fieldLink RX5 26 "DeskStackModel" "text" "[I", Cond.methodLink RX5 114 yX5_isNothing]
def wsX5_runs_r2 : List Cond := [Cond.instanceMethod yX5_isNothing, Cond.selects RX5 yX5_isNothing yX5_isNothing, Cond.code yX5_isNothing cX5_isNothing 2 (some .boolean), Cond.methodLink RX5 170 yX5_begin, Cond.instanceMethod yX5_begin, Cond.selects RX5 yX5_begin yX5_begin, Cond.code yX5_begin cX5_begin 4 none, Cond.fieldLink RX5 32 "DeskStackModel" "at" "[I", Cond.fieldLink RX5 13 "DeskStackModel" "value" "[J", Cond.fieldLink RX5 20 "DeskStackModel" "letters" "[I"]
def wsX5_runs : List Cond := .code yX5_runs cX5_runs 2 (some .boolean) :: ((wsX5_runs_r1 ++ wsX5_runs_r2) ++ wsX50)
def wsX5_isOne : List Cond := .code yX5_isOne cX5_isOne 5 (some .boolean) :: ([])
def wsX5_command_r1 : List Cond := [Cond.fieldLink RX5 111 "DeskStackModel" "levels" "I", Cond.constantLong RX5 123 (48), Cond.constantLong RX5 125 (57), Cond.constantLong RX5 185 (97), Cond.constantLong RX5 187 (100), Cond.fieldLink RX5 32 "DeskStackModel" "at" "[I", Cond.fieldLink RX5 203 "DeskStackModel" "over" "Z", Cond.methodLink RX5 120 yX5_charAt, Cond.instanceMethod yX5_charAt, Cond.selects RX5 yX5_charAt yX5_charAt, Cond.initialized RX5, Cond.code yX5_charAt cX5_charAt 3 (some .int), Cond.fieldLink RX5 29 "DeskStackModel" "size" "[I", Cond.fieldLink RX5 26 "DeskStackModel" "text" "[I", Cond.methodLink RX5 127 yX5_within, Cond.static yX5_within, Cond.code yX5_within cX5_within 6 (some .boolean), Cond.methodLink RX5 175 yX5_digits, Cond.instanceMethod yX5_digits, Cond.selects RX5 yX5_digits yX5_digits, Cond.code yX5_digits cX5_digits 11 (some .boolean), Cond.constantLong RX5 69 (10), Cond.methodLink RX5 54 yX5_fail, Cond.instanceMethod yX5_fail]
def wsX5_command_r2 : List Cond := [Cond.selects RX5 yX5_fail yX5_fail, Cond.code yX5_fail cX5_fail 2 (some .boolean), Cond.fieldLink RX5 48 "DeskStackModel" "fault" "I", Cond.methodLink RX5 131 yX5_room, Cond.instanceMethod yX5_room, Cond.selects RX5 yX5_room yX5_room, Cond.code yX5_room cX5_room 1 (some .boolean), Cond.fieldLink RX5 51 "DeskStackModel" "depth" "I", Cond.methodLink RX5 134 yX5_put, Cond.instanceMethod yX5_put, Cond.selects RX5 yX5_put yX5_put, Cond.code yX5_put cX5_put 5 none, Cond.fieldLink RX5 13 "DeskStackModel" "value" "[J", Cond.fieldLink RX5 17 "DeskStackModel" "places" "[I", Cond.methodLink RX5 178 yX5_brackets, Cond.instanceMethod yX5_brackets, Cond.selects RX5 yX5_brackets yX5_brackets, Cond.code yX5_brackets cX5_brackets 7 (some .boolean), Cond.fieldLink RX5 20 "DeskStackModel" "letters" "[I", Cond.methodLink RX5 181 yX5_isOne, Cond.static yX5_isOne, Cond.code yX5_isOne cX5_isOne 5 (some .boolean), Cond.methodLink RX5 189 yX5_register, Cond.static yX5_register]
def wsX5_command_r3 : List Cond := [Cond.code yX5_register cX5_register 1 (some .int), Cond.methodLink RX5 192 yX5_stores, Cond.instanceMethod yX5_stores, Cond.selects RX5 yX5_stores yX5_stores, Cond.code yX5_stores cX5_stores 4 (some .boolean), Cond.fieldLink RX5 23 "DeskStackModel" "held" "[I", Cond.methodLink RX5 58 yX5_have, Cond.instanceMethod yX5_have, Cond.selects RX5 yX5_have yX5_have, Cond.code yX5_have cX5_have 2 (some .boolean), Cond.methodLink RX5 160 yX5_topOf, Cond.instanceMethod yX5_topOf, Cond.selects RX5 yX5_topOf yX5_topOf, Cond.code yX5_topOf cX5_topOf 2 (some .int), Cond.methodLink RX5 153 yX5_copy, Cond.instanceMethod yX5_copy, Cond.selects RX5 yX5_copy yX5_copy, Cond.code yX5_copy cX5_copy 4 none, Cond.methodLink RX5 196 yX5_tests, Cond.instanceMethod yX5_tests, Cond.selects RX5 yX5_tests yX5_tests, Cond.code yX5_tests cX5_tests 5 (some .boolean), Cond.fieldLink RX5 85 "DeskStackModel" "m" "J", Cond.methodLink RX5 71 yX5_numbers]
def wsX5_command_r4 : List Cond := [Cond.instanceMethod yX5_numbers, Cond.selects RX5 yX5_numbers yX5_numbers, Cond.code yX5_numbers cX5_numbers 3 (some .boolean), Cond.methodLink RX5 164 yX5_compared, Cond.instanceMethod yX5_compared, Cond.selects RX5 yX5_compared yX5_compared, Cond.code yX5_compared cX5_compared 6 (some .boolean), Cond.constantLong RX5 173 (-1), Cond.methodLink RX5 74 yX5_greater, Cond.static yX5_greater, Cond.code yX5_greater cX5_greater 2 (some .int), Cond.methodLink RX5 81 yX5_raised, Cond.instanceMethod yX5_raised, Cond.selects RX5 yX5_raised yX5_raised, Cond.code yX5_raised cX5_raised 7 (some .long), Cond.constantLong RX5 65 (99999999999999999), Cond.constantLong RX5 67 (-99999999999999999), Cond.methodLink RX5 167 yX5_mayRun, Cond.instanceMethod yX5_mayRun, Cond.selects RX5 yX5_mayRun yX5_mayRun, Cond.code yX5_mayRun cX5_mayRun 2 (some .boolean), Cond.methodLink RX5 117 yX5_isDone, Cond.instanceMethod yX5_isDone, Cond.selects RX5 yX5_isDone yX5_isDone]
def wsX5_command_r5 : List Cond := [Cond.code yX5_isDone cX5_isDone 4 (some .boolean), Cond.methodLink RX5 114 yX5_isNothing, Cond.instanceMethod yX5_isNothing, Cond.selects RX5 yX5_isNothing yX5_isNothing, Cond.code yX5_isNothing cX5_isNothing 2 (some .boolean), Cond.methodLink RX5 170 yX5_begin, Cond.instanceMethod yX5_begin, Cond.selects RX5 yX5_begin yX5_begin, Cond.code yX5_begin cX5_begin 4 none, Cond.methodLink RX5 200 yX5_runs, Cond.instanceMethod yX5_runs, Cond.selects RX5 yX5_runs yX5_runs, Cond.code yX5_runs cX5_runs 2 (some .boolean), Cond.methodLink RX5 207 yX5_calculates, Cond.instanceMethod yX5_calculates, Cond.selects RX5 yX5_calculates yX5_calculates, Cond.code yX5_calculates cX5_calculates 8 (some .boolean), Cond.constantLong RX5 151 (9), Cond.fieldLink RX5 93 "DeskStackModel" "precision" "I", Cond.fieldLink RX5 78 "DeskStackModel" "s" "I", Cond.methodLink RX5 138 yX5_sum, Cond.instanceMethod yX5_sum, Cond.selects RX5 yX5_sum yX5_sum, Cond.code yX5_sum cX5_sum 6 (some .boolean)]
def wsX5_command_r6 : List Cond := [Cond.methodLink RX5 89 yX5_isBig, Cond.static yX5_isBig, Cond.code yX5_isBig cX5_isBig 2 (some .boolean), Cond.constantLong RX5 61 (999999999999999999), Cond.constantLong RX5 63 (-999999999999999999), Cond.methodLink RX5 142 yX5_times, Cond.instanceMethod yX5_times, Cond.selects RX5 yX5_times yX5_times, Cond.code yX5_times cX5_times 3 (some .boolean), Cond.methodLink RX5 96 yX5_product, Cond.instanceMethod yX5_product, Cond.selects RX5 yX5_product yX5_product, Cond.code yX5_product cX5_product 9 (some .long), Cond.methodLink RX5 100 yX5_cut, Cond.static yX5_cut, Cond.code yX5_cut cX5_cut 6 (some .long), Cond.methodLink RX5 103 yX5_quotient, Cond.instanceMethod yX5_quotient, Cond.selects RX5 yX5_quotient yX5_quotient, Cond.code yX5_quotient cX5_quotient 6 (some .boolean), Cond.methodLink RX5 145 yX5_rest, Cond.instanceMethod yX5_rest, Cond.selects RX5 yX5_rest yX5_rest, Cond.code yX5_rest cX5_rest 7 (some .boolean)]
def wsX5_command_r7 : List Cond := [Cond.methodLink RX5 148 yX5_root, Cond.instanceMethod yX5_root, Cond.selects RX5 yX5_root yX5_root, Cond.code yX5_root cX5_root 10 (some .boolean), Cond.constantLong RX5 107 (1000000000), Cond.constantLong RX5 109 (2), Cond.methodLink RX5 210 yX5_moves, Cond.instanceMethod yX5_moves, Cond.selects RX5 yX5_moves yX5_moves, Cond.code yX5_moves cX5_moves 2 (some .boolean), Cond.fieldLink RX5 157 "DeskStackModel" "prints" "I", Cond.fieldLink RX5 35 "DeskStackModel" "shown" "[J", Cond.fieldLink RX5 38 "DeskStackModel" "shownPlaces" "[I"]
def wsX5_command : List Cond := .code yX5_command cX5_command 7 (some .boolean) :: ((wsX5_command_r1 ++ (wsX5_command_r2 ++ (wsX5_command_r3 ++ (wsX5_command_r4 ++ (wsX5_command_r5 ++ (wsX5_command_r6 ++ wsX5_command_r7)))))) ++ wsX50)
def wsX5_run_r1 : List Cond := [Cond.fieldLink RX5 41 "DeskStackModel" "thrown" "I", Cond.constantLong RX5 213 (500), Cond.fieldLink RX5 157 "DeskStackModel" "prints" "I", Cond.fieldLink RX5 215 "DeskStackModel" "cost" "I", Cond.fieldLink RX5 48 "DeskStackModel" "fault" "I", Cond.fieldLink RX5 203 "DeskStackModel" "over" "Z", Cond.fieldLink RX5 111 "DeskStackModel" "levels" "I", Cond.fieldLink RX5 29 "DeskStackModel" "size" "[I", Cond.fieldLink RX5 45 "DeskStackModel" "length" "I", Cond.fieldLink RX5 32 "DeskStackModel" "at" "[I", Cond.fieldLink RX5 26 "DeskStackModel" "text" "[I", Cond.fieldLink RX5 7 "DeskStackModel" "program" "[I", Cond.constant RX5 218 (200000), Cond.methodLink RX5 127 yX5_within, Cond.static yX5_within, Cond.initialized RX5, Cond.code yX5_within cX5_within 6 (some .boolean), Cond.methodLink RX5 114 yX5_isNothing, Cond.instanceMethod yX5_isNothing, Cond.selects RX5 yX5_isNothing yX5_isNothing, Cond.code yX5_isNothing cX5_isNothing 2 (some .boolean), Cond.methodLink RX5 219 yX5_command, Cond.instanceMethod yX5_command, Cond.selects RX5 yX5_command yX5_command]
def wsX5_run_r2 : List Cond := [Cond.code yX5_command cX5_command 7 (some .boolean), Cond.constantLong RX5 123 (48), Cond.constantLong RX5 125 (57), Cond.constantLong RX5 185 (97), Cond.constantLong RX5 187 (100), Cond.methodLink RX5 120 yX5_charAt, Cond.instanceMethod yX5_charAt, Cond.selects RX5 yX5_charAt yX5_charAt, Cond.code yX5_charAt cX5_charAt 3 (some .int), Cond.methodLink RX5 175 yX5_digits, Cond.instanceMethod yX5_digits, Cond.selects RX5 yX5_digits yX5_digits, Cond.code yX5_digits cX5_digits 11 (some .boolean), Cond.constantLong RX5 69 (10), Cond.methodLink RX5 54 yX5_fail, Cond.instanceMethod yX5_fail, Cond.selects RX5 yX5_fail yX5_fail, Cond.code yX5_fail cX5_fail 2 (some .boolean), Cond.methodLink RX5 131 yX5_room, Cond.instanceMethod yX5_room, Cond.selects RX5 yX5_room yX5_room, Cond.code yX5_room cX5_room 1 (some .boolean), Cond.fieldLink RX5 51 "DeskStackModel" "depth" "I", Cond.methodLink RX5 134 yX5_put]
def wsX5_run_r3 : List Cond := [Cond.instanceMethod yX5_put, Cond.selects RX5 yX5_put yX5_put, Cond.code yX5_put cX5_put 5 none, Cond.fieldLink RX5 13 "DeskStackModel" "value" "[J", Cond.fieldLink RX5 17 "DeskStackModel" "places" "[I", Cond.methodLink RX5 178 yX5_brackets, Cond.instanceMethod yX5_brackets, Cond.selects RX5 yX5_brackets yX5_brackets, Cond.code yX5_brackets cX5_brackets 7 (some .boolean), Cond.fieldLink RX5 20 "DeskStackModel" "letters" "[I", Cond.methodLink RX5 181 yX5_isOne, Cond.static yX5_isOne, Cond.code yX5_isOne cX5_isOne 5 (some .boolean), Cond.methodLink RX5 189 yX5_register, Cond.static yX5_register, Cond.code yX5_register cX5_register 1 (some .int), Cond.methodLink RX5 192 yX5_stores, Cond.instanceMethod yX5_stores, Cond.selects RX5 yX5_stores yX5_stores, Cond.code yX5_stores cX5_stores 4 (some .boolean), Cond.fieldLink RX5 23 "DeskStackModel" "held" "[I", Cond.methodLink RX5 58 yX5_have, Cond.instanceMethod yX5_have, Cond.selects RX5 yX5_have yX5_have]
def wsX5_run_r4 : List Cond := [Cond.code yX5_have cX5_have 2 (some .boolean), Cond.methodLink RX5 160 yX5_topOf, Cond.instanceMethod yX5_topOf, Cond.selects RX5 yX5_topOf yX5_topOf, Cond.code yX5_topOf cX5_topOf 2 (some .int), Cond.methodLink RX5 153 yX5_copy, Cond.instanceMethod yX5_copy, Cond.selects RX5 yX5_copy yX5_copy, Cond.code yX5_copy cX5_copy 4 none, Cond.methodLink RX5 196 yX5_tests, Cond.instanceMethod yX5_tests, Cond.selects RX5 yX5_tests yX5_tests, Cond.code yX5_tests cX5_tests 5 (some .boolean), Cond.fieldLink RX5 85 "DeskStackModel" "m" "J", Cond.methodLink RX5 71 yX5_numbers, Cond.instanceMethod yX5_numbers, Cond.selects RX5 yX5_numbers yX5_numbers, Cond.code yX5_numbers cX5_numbers 3 (some .boolean), Cond.methodLink RX5 164 yX5_compared, Cond.instanceMethod yX5_compared, Cond.selects RX5 yX5_compared yX5_compared, Cond.code yX5_compared cX5_compared 6 (some .boolean), Cond.constantLong RX5 173 (-1), Cond.methodLink RX5 74 yX5_greater]
def wsX5_run_r5 : List Cond := [Cond.static yX5_greater, Cond.code yX5_greater cX5_greater 2 (some .int), Cond.methodLink RX5 81 yX5_raised, Cond.instanceMethod yX5_raised, Cond.selects RX5 yX5_raised yX5_raised, Cond.code yX5_raised cX5_raised 7 (some .long), Cond.constantLong RX5 65 (99999999999999999), Cond.constantLong RX5 67 (-99999999999999999), Cond.methodLink RX5 167 yX5_mayRun, Cond.instanceMethod yX5_mayRun, Cond.selects RX5 yX5_mayRun yX5_mayRun, Cond.code yX5_mayRun cX5_mayRun 2 (some .boolean), Cond.methodLink RX5 117 yX5_isDone, Cond.instanceMethod yX5_isDone, Cond.selects RX5 yX5_isDone yX5_isDone, Cond.code yX5_isDone cX5_isDone 4 (some .boolean), Cond.methodLink RX5 170 yX5_begin, Cond.instanceMethod yX5_begin, Cond.selects RX5 yX5_begin yX5_begin, Cond.code yX5_begin cX5_begin 4 none, Cond.methodLink RX5 200 yX5_runs, Cond.instanceMethod yX5_runs, Cond.selects RX5 yX5_runs yX5_runs, Cond.code yX5_runs cX5_runs 2 (some .boolean)]
def wsX5_run_r6 : List Cond := [Cond.methodLink RX5 207 yX5_calculates, Cond.instanceMethod yX5_calculates, Cond.selects RX5 yX5_calculates yX5_calculates, Cond.code yX5_calculates cX5_calculates 8 (some .boolean), Cond.constantLong RX5 151 (9), Cond.fieldLink RX5 93 "DeskStackModel" "precision" "I", Cond.fieldLink RX5 78 "DeskStackModel" "s" "I", Cond.methodLink RX5 138 yX5_sum, Cond.instanceMethod yX5_sum, Cond.selects RX5 yX5_sum yX5_sum, Cond.code yX5_sum cX5_sum 6 (some .boolean), Cond.methodLink RX5 89 yX5_isBig, Cond.static yX5_isBig, Cond.code yX5_isBig cX5_isBig 2 (some .boolean), Cond.constantLong RX5 61 (999999999999999999), Cond.constantLong RX5 63 (-999999999999999999), Cond.methodLink RX5 142 yX5_times, Cond.instanceMethod yX5_times, Cond.selects RX5 yX5_times yX5_times, Cond.code yX5_times cX5_times 3 (some .boolean), Cond.methodLink RX5 96 yX5_product, Cond.instanceMethod yX5_product, Cond.selects RX5 yX5_product yX5_product, Cond.code yX5_product cX5_product 9 (some .long)]
def wsX5_run_r7 : List Cond := [Cond.methodLink RX5 100 yX5_cut, Cond.static yX5_cut, Cond.code yX5_cut cX5_cut 6 (some .long), Cond.methodLink RX5 103 yX5_quotient, Cond.instanceMethod yX5_quotient, Cond.selects RX5 yX5_quotient yX5_quotient, Cond.code yX5_quotient cX5_quotient 6 (some .boolean), Cond.methodLink RX5 145 yX5_rest, Cond.instanceMethod yX5_rest, Cond.selects RX5 yX5_rest yX5_rest, Cond.code yX5_rest cX5_rest 7 (some .boolean), Cond.methodLink RX5 148 yX5_root, Cond.instanceMethod yX5_root, Cond.selects RX5 yX5_root yX5_root, Cond.code yX5_root cX5_root 10 (some .boolean), Cond.constantLong RX5 107 (1000000000), Cond.constantLong RX5 109 (2), Cond.methodLink RX5 210 yX5_moves, Cond.instanceMethod yX5_moves, Cond.selects RX5 yX5_moves yX5_moves, Cond.code yX5_moves cX5_moves 2 (some .boolean), Cond.fieldLink RX5 35 "DeskStackModel" "shown" "[J", Cond.fieldLink RX5 38 "DeskStackModel" "shownPlaces" "[I"]
def wsX5_run : List Cond := .code yX5_run cX5_run 5 (some .int) :: ((wsX5_run_r1 ++ (wsX5_run_r2 ++ (wsX5_run_r3 ++ (wsX5_run_r4 ++ (wsX5_run_r5 ++ (wsX5_run_r6 ++ wsX5_run_r7)))))) ++ wsX50)
def wsX5_cost : List Cond := .code yX5_cost cX5_cost 1 (some .int) :: ([.fieldLink RX5 41 "DeskStackModel" "thrown" "I", .fieldLink RX5 215 "DeskStackModel" "cost" "I"] ++ wsX50)
def wsX5_prints : List Cond := .code yX5_prints cX5_prints 1 (some .int) :: ([.fieldLink RX5 41 "DeskStackModel" "thrown" "I", .fieldLink RX5 157 "DeskStackModel" "prints" "I"] ++ wsX50)
def wsX5_printed : List Cond := .code yX5_printed cX5_printed 2 (some .long) :: ([.fieldLink RX5 41 "DeskStackModel" "thrown" "I", .fieldLink RX5 157 "DeskStackModel" "prints" "I", .fieldLink RX5 35 "DeskStackModel" "shown" "[J", .methodLink RX5 127 yX5_within, .static yX5_within, .initialized RX5, .code yX5_within cX5_within 6 (some .boolean)] ++ wsX50)
def wsX5_places : List Cond := .code yX5_places cX5_places 2 (some .int) :: ([.fieldLink RX5 41 "DeskStackModel" "thrown" "I", .fieldLink RX5 157 "DeskStackModel" "prints" "I", .fieldLink RX5 38 "DeskStackModel" "shownPlaces" "[I", .methodLink RX5 127 yX5_within, .static yX5_within, .initialized RX5, .code yX5_within cX5_within 6 (some .boolean)] ++ wsX50)
def wsX5_depth : List Cond := .code yX5_depth cX5_depth 1 (some .int) :: ([.fieldLink RX5 41 "DeskStackModel" "thrown" "I", .fieldLink RX5 51 "DeskStackModel" "depth" "I"] ++ wsX50)
def wsX5_item : List Cond := .code yX5_item cX5_item 2 (some .long) :: ([.fieldLink RX5 41 "DeskStackModel" "thrown" "I", .fieldLink RX5 51 "DeskStackModel" "depth" "I", .fieldLink RX5 13 "DeskStackModel" "value" "[J", .methodLink RX5 127 yX5_within, .static yX5_within, .initialized RX5, .code yX5_within cX5_within 6 (some .boolean)] ++ wsX50)
def wsX5_scale : List Cond := .code yX5_scale cX5_scale 2 (some .int) :: ([.fieldLink RX5 41 "DeskStackModel" "thrown" "I", .fieldLink RX5 51 "DeskStackModel" "depth" "I", .fieldLink RX5 17 "DeskStackModel" "places" "[I", .methodLink RX5 127 yX5_within, .static yX5_within, .initialized RX5, .code yX5_within cX5_within 6 (some .boolean)] ++ wsX50)
def wsX5_held : List Cond := .code yX5_held cX5_held 2 (some .int) :: ([.fieldLink RX5 41 "DeskStackModel" "thrown" "I", .constantLong RX5 222 (3), .fieldLink RX5 23 "DeskStackModel" "held" "[I", .methodLink RX5 127 yX5_within, .static yX5_within, .initialized RX5, .code yX5_within cX5_within 6 (some .boolean)] ++ wsX50)
def wsX5_precision : List Cond := .code yX5_precision cX5_precision 1 (some .int) :: ([.fieldLink RX5 41 "DeskStackModel" "thrown" "I", .fieldLink RX5 93 "DeskStackModel" "precision" "I"] ++ wsX50)
def wsX5_reset : List Cond := .code yX5_reset cX5_reset 2 none :: ([.fieldLink RX5 41 "DeskStackModel" "thrown" "I", .fieldLink RX5 51 "DeskStackModel" "depth" "I", .fieldLink RX5 93 "DeskStackModel" "precision" "I", .fieldLink RX5 157 "DeskStackModel" "prints" "I", .fieldLink RX5 23 "DeskStackModel" "held" "[I"] ++ wsX50)
def wsJ9_abs_067f4 : List Cond := .code yJ9_abs_067f4 cJ9_abs_067f4 2 (some .long) :: ([])
def wsJ9_max_7cf53 : List Cond := .code yJ9_max_7cf53 cJ9_max_7cf53 2 (some .int) :: ([])
def wsJ9_min_7cf53 : List Cond := .code yJ9_min_7cf53 cJ9_min_7cf53 2 (some .int) :: ([])
def wsL_run_r1 : List Cond := [Cond.classLink RL 13 "java/lang/IllegalArgumentException", Cond.classLink RL 15 "java/lang/IllegalStateException", Cond.classLink RL 17 "java/lang/IndexOutOfBoundsException", Cond.classLink RL 19 "java/lang/ArithmeticException", Cond.classLink RL 21 "java/lang/UnsupportedOperationException", Cond.methodLink RL 7 yX4_run, Cond.instanceMethod yX4_run, Cond.selects RX4 yX4_run yX4_run, Cond.initialized RX4, Cond.code yX4_run cX4_run 3 (some .int), Cond.classLink RX4 56 "java/lang/IllegalArgumentException", Cond.initialized "java/lang/IllegalArgumentException", Cond.classLink RX4 87 "java/lang/UnsupportedOperationException", Cond.initialized "java/lang/UnsupportedOperationException", Cond.fieldLink RX4 22 "DeskStack" "printer" "LDeskStack$Shelf;", Cond.fieldLink RX4 43 "DeskStack" "commandsDone" "I", Cond.fieldLink RX4 28 "DeskStack" "texts" "LDeskStack$Nest;", Cond.fieldLink RX4 35 "DeskStack" "program" "LDeskStack$Row;", Cond.fieldLink RX4 50 "DeskStack$Row" "size" "I", Cond.constant RX4 73 (1000000), Cond.fieldLink RX4 74 "DeskStack$Nest" "count" "I", Cond.methodLink RX4 63 yX3_clear, Cond.instanceMethod yX3_clear, Cond.selects RX3 yX3_clear yX3_clear]
def wsL_run_r2 : List Cond := [Cond.initialized RX3, Cond.code yX3_clear cX3_clear 1 none, Cond.fieldLink RX3 28 "DeskStack$Shelf" "count" "I", Cond.methodLink RX4 66 yX1_leaveAll, Cond.instanceMethod yX1_leaveAll, Cond.selects RX1 yX1_leaveAll yX1_leaveAll, Cond.initialized RX1, Cond.code yX1_leaveAll cX1_leaveAll 1 none, Cond.fieldLink RX1 24 "DeskStack$Nest" "count" "I", Cond.methodLink RX4 69 yX1_enter, Cond.instanceMethod yX1_enter, Cond.selects RX1 yX1_enter yX1_enter, Cond.code yX1_enter cX1_enter 4 none, Cond.classLink RX1 28 "java/lang/UnsupportedOperationException", Cond.fieldLink RX1 11 "DeskStack$Nest" "rows" "[LDeskStack$Row;", Cond.fieldLink RX1 17 "DeskStack$Nest" "positions" "[I", Cond.fieldLink RX1 21 "DeskStack$Nest" "ends" "[I", Cond.methodLink RX4 77 yX1_skipBlanks, Cond.instanceMethod yX1_skipBlanks, Cond.selects RX1 yX1_skipBlanks yX1_skipBlanks, Cond.code yX1_skipBlanks cX1_skipBlanks 2 none, Cond.methodLink RX1 38 yX1_look, Cond.instanceMethod yX1_look, Cond.selects RX1 yX1_look yX1_look]
def wsL_run_r3 : List Cond := [Cond.code yX1_look cX1_look 2 (some .int), Cond.methodLink RX1 55 yX1_isUnderWay, Cond.instanceMethod yX1_isUnderWay, Cond.selects RX1 yX1_isUnderWay yX1_isUnderWay, Cond.code yX1_isUnderWay cX1_isUnderWay 1 (some .boolean), Cond.methodLink RX1 59 yX2_charAt, Cond.instanceMethod yX2_charAt, Cond.selects RX2 yX2_charAt yX2_charAt, Cond.initialized RX2, Cond.code yX2_charAt cX2_charAt 2 (some .int), Cond.fieldLink RX2 15 "DeskStack$Row" "size" "I", Cond.fieldLink RX2 9 "DeskStack$Row" "chars" "[B", Cond.methodLink RX1 63 yX1_pass, Cond.instanceMethod yX1_pass, Cond.selects RX1 yX1_pass yX1_pass, Cond.code yX1_pass cX1_pass 1 none, Cond.methodLink RX4 80 yX1_look, Cond.methodLink RX4 84 yX1_leave, Cond.instanceMethod yX1_leave, Cond.selects RX1 yX1_leave yX1_leave, Cond.code yX1_leave cX1_leave 1 none, Cond.methodLink RX1 49 Lib.Math.max.name, Cond.static Lib.Math.max.name, Cond.initialized "java/lang/Math"]
def wsL_run_r4 : List Cond := [Cond.code Lib.Math.max.name Lib.Math.max.code 2 (some .int), Cond.methodLink RX4 92 yX4_doCommand, Cond.instanceMethod yX4_doCommand, Cond.selects RX4 yX4_doCommand yX4_doCommand, Cond.code yX4_doCommand cX4_doCommand 2 none, Cond.methodLink RX4 111 yX4_beginsNumber, Cond.static yX4_beginsNumber, Cond.code yX4_beginsNumber cX4_beginsNumber 1 (some .boolean), Cond.methodLink RX4 142 yX4_isDigit, Cond.static yX4_isDigit, Cond.code yX4_isDigit cX4_isDigit 1 (some .boolean), Cond.methodLink RX4 115 yX4_putWrittenNumber, Cond.instanceMethod yX4_putWrittenNumber, Cond.selects RX4 yX4_putWrittenNumber yX4_putWrittenNumber, Cond.code yX4_putWrittenNumber cX4_putWrittenNumber 9 none, Cond.constantLong RX4 145 (10), Cond.fieldLink RX4 14 "DeskStack" "stack" "LDeskStack$Shelf;", Cond.methodLink RX4 118 yX1_pass, Cond.methodLink RX4 149 yX3_putNumber, Cond.instanceMethod yX3_putNumber, Cond.selects RX3 yX3_putNumber yX3_putNumber, Cond.code yX3_putNumber cX3_putNumber 4 none, Cond.methodLink RX3 36 yX3_put, Cond.instanceMethod yX3_put]
def wsL_run_r5 : List Cond := [Cond.selects RX3 yX3_put yX3_put, Cond.code yX3_put cX3_put 6 none, Cond.classLink RX3 62 "java/lang/UnsupportedOperationException", Cond.methodLink RX3 58 yX3_isFull, Cond.instanceMethod yX3_isFull, Cond.selects RX3 yX3_isFull yX3_isFull, Cond.code yX3_isFull cX3_isFull 1 (some .boolean), Cond.fieldLink RX3 9 "DeskStack$Shelf" "values" "[J", Cond.methodLink RX3 69 yX3_set, Cond.instanceMethod yX3_set, Cond.selects RX3 yX3_set yX3_set, Cond.code yX3_set cX3_set 7 none, Cond.fieldLink RX3 15 "DeskStack$Shelf" "places" "[I", Cond.fieldLink RX3 21 "DeskStack$Shelf" "rows" "[LDeskStack$Row;", Cond.fieldLink RX3 25 "DeskStack$Shelf" "starts" "[I", Cond.methodLink RX3 32 yX3_has, Cond.instanceMethod yX3_has, Cond.selects RX3 yX3_has yX3_has, Cond.code yX3_has cX3_has 2 (some .boolean), Cond.methodLink RX4 121 yX4_putWrittenText, Cond.instanceMethod yX4_putWrittenText, Cond.selects RX4 yX4_putWrittenText yX4_putWrittenText, Cond.code yX4_putWrittenText cX4_putWrittenText 6 none, Cond.methodLink RX4 153 yX1_innermostRow]
def wsL_run_r6 : List Cond := [Cond.instanceMethod yX1_innermostRow, Cond.selects RX1 yX1_innermostRow yX1_innermostRow, Cond.code yX1_innermostRow cX1_innermostRow 1 (some (.object "DeskStack$Row")), Cond.methodLink RX4 157 yX1_position, Cond.instanceMethod yX1_position, Cond.selects RX1 yX1_position yX1_position, Cond.code yX1_position cX1_position 1 (some .int), Cond.methodLink RX4 162 yX3_putText, Cond.instanceMethod yX3_putText, Cond.selects RX3 yX3_putText yX3_putText, Cond.code yX3_putText cX3_putText 4 none, Cond.methodLink RX4 124 yX4_calculate, Cond.instanceMethod yX4_calculate, Cond.selects RX4 yX4_calculate yX4_calculate, Cond.code yX4_calculate cX4_calculate 12 none, Cond.methodLink RX4 185 Lib.Math.max.name, Cond.fieldLink RX4 39 "DeskStack" "keptPlaces" "I", Cond.methodLink RX4 197 Lib.Math.min.name, Cond.static Lib.Math.min.name, Cond.code Lib.Math.min.name Lib.Math.min.code 2 (some .int), Cond.methodLink RX4 182 yX4_needNumbers, Cond.instanceMethod yX4_needNumbers, Cond.selects RX4 yX4_needNumbers yX4_needNumbers, Cond.code yX4_needNumbers cX4_needNumbers 3 none]
def wsL_run_r7 : List Cond := [Cond.classLink RX4 177 "java/lang/IndexOutOfBoundsException", Cond.initialized "java/lang/IndexOutOfBoundsException", Cond.methodLink RX4 170 yX4_needItems, Cond.instanceMethod yX4_needItems, Cond.selects RX4 yX4_needItems yX4_needItems, Cond.code yX4_needItems cX4_needItems 2 none, Cond.classLink RX4 165 "java/lang/IllegalStateException", Cond.initialized "java/lang/IllegalStateException", Cond.fieldLink RX4 95 "DeskStack$Shelf" "count" "I", Cond.methodLink RX4 104 yX3_slotBelowTop, Cond.instanceMethod yX3_slotBelowTop, Cond.selects RX3 yX3_slotBelowTop yX3_slotBelowTop, Cond.code yX3_slotBelowTop cX3_slotBelowTop 2 (some .int), Cond.methodLink RX4 173 yX3_rowAt, Cond.instanceMethod yX3_rowAt, Cond.selects RX3 yX3_rowAt yX3_rowAt, Cond.code yX3_rowAt cX3_rowAt 2 (some (.object "DeskStack$Row")), Cond.methodLink RX4 96 yX3_valueAt, Cond.instanceMethod yX3_valueAt, Cond.selects RX3 yX3_valueAt yX3_valueAt, Cond.code yX3_valueAt cX3_valueAt 2 (some .long), Cond.methodLink RX4 100 yX3_placesAt, Cond.instanceMethod yX3_placesAt, Cond.selects RX3 yX3_placesAt yX3_placesAt]
def wsL_run_r8 : List Cond := [Cond.code yX3_placesAt cX3_placesAt 2 (some .int), Cond.methodLink RX4 191 yX0_sum, Cond.static yX0_sum, Cond.initialized RX0, Cond.code yX0_sum cX0_sum 7 (some .long), Cond.methodLink RX0 9 Lib.Math.max.name, Cond.methodLink RX0 15 yX0_raise, Cond.static yX0_raise, Cond.code yX0_raise cX0_raise 3 (some .long), Cond.methodLink RX0 74 yX0_powerOfTen, Cond.static yX0_powerOfTen, Cond.code yX0_powerOfTen cX0_powerOfTen 1 (some .long), Cond.fieldLink RX0 78 "DeskStack$Decimal" "POWERS" "[J", Cond.methodLink RX0 82 Lib.Math.min.name, Cond.methodLink RX0 58 yX0_times, Cond.static yX0_times, Cond.code yX0_times cX0_times 4 (some .long), Cond.classLink RX0 36 "java/lang/UnsupportedOperationException", Cond.methodLink RX0 31 Lib.MathLoose.abs_long.x, Cond.static Lib.MathLoose.abs_long.x, Cond.code Lib.MathLoose.abs_long.x Lib.MathLoose.abs_long.code 2 (some .long), Cond.constantLong RX0 34 (999999999999999999), Cond.methodLink RX0 21 yX0_fitting, Cond.static yX0_fitting]
def wsL_run_r9 : List Cond := [Cond.code yX0_fitting cX0_fitting 2 (some .long), Cond.methodLink RX4 200 yX0_times, Cond.methodLink RX4 204 yX0_cutOff, Cond.static yX0_cutOff, Cond.code yX0_cutOff cX0_cutOff 3 (some .long), Cond.methodLink RX0 48 yX0_divide, Cond.static yX0_divide, Cond.code yX0_divide cX0_divide 4 (some .long), Cond.methodLink RX4 208 yX0_quotient, Cond.static yX0_quotient, Cond.code yX0_quotient cX0_quotient 8 (some .long), Cond.classLink RX0 43 "java/lang/ArithmeticException", Cond.initialized "java/lang/ArithmeticException", Cond.methodLink RX4 212 yX0_remainder, Cond.static yX0_remainder, Cond.code yX0_remainder cX0_remainder 13 (some .long), Cond.methodLink RX0 52 yX0_quotient, Cond.methodLink RX4 215 yX3_drop, Cond.instanceMethod yX3_drop, Cond.selects RX3 yX3_drop yX3_drop, Cond.code yX3_drop cX3_drop 2 none, Cond.methodLink RX3 73 Lib.Math.max.name, Cond.methodLink RX4 127 yX4_changeNumber, Cond.instanceMethod yX4_changeNumber]
def wsL_run_r10 : List Cond := [Cond.selects RX4 yX4_changeNumber yX4_changeNumber, Cond.code yX4_changeNumber cX4_changeNumber 8 none, Cond.methodLink RX4 218 yX0_asPlaces, Cond.static yX0_asPlaces, Cond.code yX0_asPlaces cX0_asPlaces 5 (some .int), Cond.constantLong RX0 70 (9), Cond.methodLink RX0 67 yX0_cutOff, Cond.methodLink RX4 221 yX0_root, Cond.static yX0_root, Cond.code yX0_root cX0_root 13 (some .long), Cond.constantLong RX0 63 (999999999), Cond.constantLong RX0 65 (2), Cond.methodLink RX4 130 yX4_moveToOrFromRegister, Cond.instanceMethod yX4_moveToOrFromRegister, Cond.selects RX4 yX4_moveToOrFromRegister yX4_moveToOrFromRegister, Cond.code yX4_moveToOrFromRegister cX4_moveToOrFromRegister 3 none, Cond.methodLink RX4 242 yX4_registerOfLetter, Cond.instanceMethod yX4_registerOfLetter, Cond.selects RX4 yX4_registerOfLetter yX4_registerOfLetter, Cond.code yX4_registerOfLetter cX4_registerOfLetter 2 (some (.object "DeskStack$Shelf")), Cond.methodLink RX4 107 yX4_registerNumbered, Cond.instanceMethod yX4_registerNumbered, Cond.selects RX4 yX4_registerNumbered yX4_registerNumbered, Cond.code yX4_registerNumbered cX4_registerNumbered 2 (some (.object "DeskStack$Shelf"))]
def wsL_run_r11 : List Cond := [Cond.fieldLink RX4 18 "DeskStack" "registers" "[LDeskStack$Shelf;", Cond.methodLink RX4 225 yX3_putTopOf, Cond.instanceMethod yX3_putTopOf, Cond.selects RX3 yX3_putTopOf yX3_putTopOf, Cond.code yX3_putTopOf cX3_putTopOf 3 none, Cond.methodLink RX3 40 yX3_slotBelowTop, Cond.methodLink RX3 44 yX3_valueAt, Cond.methodLink RX3 48 yX3_placesAt, Cond.methodLink RX3 51 yX3_rowAt, Cond.methodLink RX3 55 yX3_startAt, Cond.instanceMethod yX3_startAt, Cond.selects RX3 yX3_startAt yX3_startAt, Cond.code yX3_startAt cX3_startAt 2 (some .int), Cond.methodLink RX4 246 yX4_needHeld, Cond.static yX4_needHeld, Cond.code yX4_needHeld cX4_needHeld 1 none, Cond.methodLink RX4 133 yX4_runIfOrdered, Cond.instanceMethod yX4_runIfOrdered, Cond.selects RX4 yX4_runIfOrdered yX4_runIfOrdered, Cond.code yX4_runIfOrdered cX4_runIfOrdered 9 none, Cond.methodLink RX4 255 yX0_order, Cond.static yX0_order, Cond.code yX0_order cX0_order 7 (some .int), Cond.methodLink RX0 25 yJ13_compare_74951]
def wsL_run_r12 : List Cond := [Cond.static yJ13_compare_74951, Cond.initialized RJ13, Cond.code yJ13_compare_74951 cJ13_compare_74951 4 (some .int), Cond.methodLink RX4 249 yX3_startAt, Cond.methodLink RX4 252 yX1_enterMacro, Cond.instanceMethod yX1_enterMacro, Cond.selects RX1 yX1_enterMacro yX1_enterMacro, Cond.code yX1_enterMacro cX1_enterMacro 4 none, Cond.methodLink RX1 35 yX1_skipBlanks, Cond.methodLink RX1 42 yX1_leave, Cond.methodLink RX1 45 yX1_enter, Cond.methodLink RX4 136 yX4_runTop, Cond.instanceMethod yX4_runTop, Cond.selects RX4 yX4_runTop yX4_runTop, Cond.code yX4_runTop cX4_runTop 3 none, Cond.methodLink RX4 139 yX4_arrangeStack, Cond.instanceMethod yX4_arrangeStack, Cond.selects RX4 yX4_arrangeStack yX4_arrangeStack, Cond.code yX4_arrangeStack cX4_arrangeStack 2 none, Cond.methodLink RX4 229 yX3_swapTopTwo, Cond.instanceMethod yX3_swapTopTwo, Cond.selects RX3 yX3_swapTopTwo yX3_swapTopTwo, Cond.code yX3_swapTopTwo cX3_swapTopTwo 8 none, Cond.methodLink RX4 232 yX3_isFull]
def wsL_run : List Cond := .codeWith yL_run cL_run 4 (some .int) [(0, 9, 12, 13), (0, 9, 15, 15), (0, 9, 18, 17), (0, 9, 21, 19), (0, 9, 24, 21)] :: ((wsL_run_r1 ++ (wsL_run_r2 ++ (wsL_run_r3 ++ (wsL_run_r4 ++ (wsL_run_r5 ++ (wsL_run_r6 ++ (wsL_run_r7 ++ (wsL_run_r8 ++ (wsL_run_r9 ++ (wsL_run_r10 ++ (wsL_run_r11 ++ wsL_run_r12))))))))))) ++ wsX40 ++ wsX20 ++ wsX10 ++ wsX30 ++ (vx_atS RX4 60 "java/lang/IllegalArgumentException" ["java/lang/RuntimeException", "java/lang/Exception"]).filter goodWord ++ (vx_atS RX4 91 "java/lang/UnsupportedOperationException" ["java/lang/RuntimeException", "java/lang/Exception"]).filter goodWord ++ (vx_atS RX1 32 "java/lang/UnsupportedOperationException" ["java/lang/RuntimeException", "java/lang/Exception"]).filter goodWord ++ (vx_atS RX3 66 "java/lang/UnsupportedOperationException" ["java/lang/RuntimeException", "java/lang/Exception"]).filter goodWord ++ (vx_atS RX4 181 "java/lang/IndexOutOfBoundsException" ["java/lang/RuntimeException", "java/lang/Exception"]).filter goodWord ++ (vx_atS RX4 169 "java/lang/IllegalStateException" ["java/lang/RuntimeException", "java/lang/Exception"]).filter goodWord ++ (vx_atS RX0 40 "java/lang/UnsupportedOperationException" ["java/lang/RuntimeException", "java/lang/Exception"]).filter goodWord ++ (vx_atS RX0 47 "java/lang/ArithmeticException" ["java/lang/RuntimeException", "java/lang/Exception"]).filter goodWord)
abbrev vwCl : List vw_C := [(RX1, TX1, 4), (RX2, TX2, 2), (RX3, TX3, 5), (RX4, TX4, 7), (RX5, TX5, 21)]
end
section
set_option maxRecDepth 20000 in
theorem ggX0_sum_X0_raise : GoodIn wsX0_sum wsX0_raise := goodIn_ca (goodIn_r _ [8, 9, 10, 7, 11, 12, 1, 2, 3, 4, 13, 14, 15, 16, 17, 18, 19, 20, 21, 22, 23, 24] (by decide +kernel) (by decide +kernel)) (goodIn_sub (fun _ h => List.mem_cons_of_mem _ (List.mem_append_right _ h)) (by decide +kernel))
set_option maxRecDepth 20000 in
theorem gX0_sum_X0_raise : GoodIn wsX0_sum (va_wsS RX0 15 yX0_raise wsX0_raise) := goodIn_app (goodIn_of _ (by decide +kernel)) ggX0_sum_X0_raise
set_option maxRecDepth 20000 in
theorem ggX0_sum_X0_fitting : GoodIn wsX0_sum wsX0_fitting := goodIn_ca (goodIn_r _ [27, 19, 20, 21, 22, 3, 23, 24] (by decide +kernel) (by decide +kernel)) (goodIn_sub (fun _ h => List.mem_cons_of_mem _ (List.mem_append_right _ h)) (by decide +kernel))
set_option maxRecDepth 20000 in
theorem gX0_sum_X0_fitting : GoodIn wsX0_sum (va_wsS RX0 21 yX0_fitting wsX0_fitting) := goodIn_app (goodIn_of _ (by decide +kernel)) ggX0_sum_X0_fitting
theorem dX0_sum_0 : decode cX0_sum 0 = .ok (.iload_n 2, 1) := by decide +kernel
theorem dX0_sum_1 : decode cX0_sum 1 = .ok (.iload 5, 2) := by decide +kernel
theorem dX0_sum_3 : decode cX0_sum 3 = .ok (.invokestatic 9, 3) := by decide +kernel
theorem dX0_sum_6 : decode cX0_sum 6 = .ok (.istore 6, 2) := by decide +kernel
theorem dX0_sum_8 : decode cX0_sum 8 = .ok (.lload_n 0, 1) := by decide +kernel
theorem dX0_sum_9 : decode cX0_sum 9 = .ok (.iload 6, 2) := by decide +kernel
theorem dX0_sum_11 : decode cX0_sum 11 = .ok (.iload_n 2, 1) := by decide +kernel
theorem dX0_sum_12 : decode cX0_sum 12 = .ok (.isub, 1) := by decide +kernel
theorem dX0_sum_13 : decode cX0_sum 13 = .ok (.invokestatic 15, 3) := by decide +kernel
theorem dX0_sum_16 : decode cX0_sum 16 = .ok (.lload_n 3, 1) := by decide +kernel
theorem dX0_sum_17 : decode cX0_sum 17 = .ok (.iload 6, 2) := by decide +kernel
theorem dX0_sum_19 : decode cX0_sum 19 = .ok (.iload 5, 2) := by decide +kernel
theorem dX0_sum_21 : decode cX0_sum 21 = .ok (.isub, 1) := by decide +kernel
theorem dX0_sum_22 : decode cX0_sum 22 = .ok (.invokestatic 15, 3) := by decide +kernel
theorem dX0_sum_25 : decode cX0_sum 25 = .ok (.ladd, 1) := by decide +kernel
theorem dX0_sum_26 : decode cX0_sum 26 = .ok (.invokestatic 21, 3) := by decide +kernel
theorem dX0_sum_29 : decode cX0_sum 29 = .ok (.lreturn, 1) := by decide +kernel
set_option maxRecDepth 20000 in
theorem ggX0_order_X0_raise : GoodIn wsX0_order wsX0_raise := goodIn_ca (goodIn_r _ [8, 9, 10, 7, 11, 12, 1, 2, 3, 4, 13, 14, 15, 16, 17, 18, 19, 20, 21, 22, 23, 24] (by decide +kernel) (by decide +kernel)) (goodIn_sub (fun _ h => List.mem_cons_of_mem _ (List.mem_append_right _ h)) (by decide +kernel))
set_option maxRecDepth 20000 in
theorem gX0_order_X0_raise : GoodIn wsX0_order (va_wsS RX0 15 yX0_raise wsX0_raise) := goodIn_app (goodIn_of _ (by decide +kernel)) ggX0_order_X0_raise
set_option maxRecDepth 20000 in
theorem ggX0_order_J13_compare_74951 : GoodIn wsX0_order wsJ13_compare_74951 := goodIn_r _ [28] (by decide +kernel) (by decide +kernel)
set_option maxRecDepth 20000 in
theorem gX0_order_J13_compare_74951 : GoodIn wsX0_order (va_wsS RX0 25 yJ13_compare_74951 wsJ13_compare_74951) := goodIn_app (goodIn_of _ (by decide +kernel)) ggX0_order_J13_compare_74951
theorem dX0_order_0 : decode cX0_order 0 = .ok (.iload_n 2, 1) := by decide +kernel
theorem dX0_order_1 : decode cX0_order 1 = .ok (.iload 5, 2) := by decide +kernel
theorem dX0_order_3 : decode cX0_order 3 = .ok (.invokestatic 9, 3) := by decide +kernel
theorem dX0_order_6 : decode cX0_order 6 = .ok (.istore 6, 2) := by decide +kernel
theorem dX0_order_8 : decode cX0_order 8 = .ok (.lload_n 0, 1) := by decide +kernel
theorem dX0_order_9 : decode cX0_order 9 = .ok (.iload 6, 2) := by decide +kernel
theorem dX0_order_11 : decode cX0_order 11 = .ok (.iload_n 2, 1) := by decide +kernel
theorem dX0_order_12 : decode cX0_order 12 = .ok (.isub, 1) := by decide +kernel
theorem dX0_order_13 : decode cX0_order 13 = .ok (.invokestatic 15, 3) := by decide +kernel
theorem dX0_order_16 : decode cX0_order 16 = .ok (.lload_n 3, 1) := by decide +kernel
theorem dX0_order_17 : decode cX0_order 17 = .ok (.iload 6, 2) := by decide +kernel
theorem dX0_order_19 : decode cX0_order 19 = .ok (.iload 5, 2) := by decide +kernel
theorem dX0_order_21 : decode cX0_order 21 = .ok (.isub, 1) := by decide +kernel
theorem dX0_order_22 : decode cX0_order 22 = .ok (.invokestatic 15, 3) := by decide +kernel
theorem dX0_order_25 : decode cX0_order 25 = .ok (.invokestatic 25, 3) := by decide +kernel
theorem dX0_order_28 : decode cX0_order 28 = .ok (.ireturn, 1) := by decide +kernel
theorem dX0_times_0 : decode cX0_times 0 = .ok (.lload_n 2, 1) := by decide +kernel
theorem dX0_times_1 : decode cX0_times 1 = .ok (.lconst 0, 1) := by decide +kernel
theorem dX0_times_2 : decode cX0_times 2 = .ok (.lcmp, 1) := by decide +kernel
theorem dX0_times_3 : decode cX0_times 3 = .ok (.ifCond .eq 29, 3) := by decide +kernel
theorem dX0_times_6 : decode cX0_times 6 = .ok (.lload_n 0, 1) := by decide +kernel
theorem dX0_times_7 : decode cX0_times 7 = .ok (.invokestatic 31, 3) := by decide +kernel
theorem dX0_times_10 : decode cX0_times 10 = .ok (.ldc2_w 34, 3) := by decide +kernel
theorem dX0_times_13 : decode cX0_times 13 = .ok (.lload_n 2, 1) := by decide +kernel
theorem dX0_times_14 : decode cX0_times 14 = .ok (.invokestatic 31, 3) := by decide +kernel
theorem dX0_times_17 : decode cX0_times 17 = .ok (.ldiv, 1) := by decide +kernel
theorem dX0_times_18 : decode cX0_times 18 = .ok (.lcmp, 1) := by decide +kernel
theorem dX0_times_19 : decode cX0_times 19 = .ok (.ifCond .le 13, 3) := by decide +kernel
theorem dX0_times_22 : decode cX0_times 22 = .ok (.new 36, 3) := by decide +kernel
theorem dX0_times_25 : decode cX0_times 25 = .ok (.dup, 1) := by decide +kernel
theorem dX0_times_26 : decode cX0_times 26 = .ok (.ldc 38, 2) := by decide +kernel
theorem dX0_times_28 : decode cX0_times 28 = .ok (.invokespecial 40, 3) := by decide +kernel
theorem dX0_times_31 : decode cX0_times 31 = .ok (.athrow, 1) := by decide +kernel
theorem dX0_times_32 : decode cX0_times 32 = .ok (.lload_n 0, 1) := by decide +kernel
theorem dX0_times_33 : decode cX0_times 33 = .ok (.lload_n 2, 1) := by decide +kernel
theorem dX0_times_34 : decode cX0_times 34 = .ok (.lmul, 1) := by decide +kernel
theorem dX0_times_35 : decode cX0_times 35 = .ok (.lreturn, 1) := by decide +kernel
set_option maxRecDepth 20000 in
theorem ggX0_quotient_X0_raise : GoodIn wsX0_quotient wsX0_raise := goodIn_ca (goodIn_r _ [6, 7, 8, 5, 9, 10, 11, 12, 13, 14, 15, 16, 17, 18, 19, 20, 21, 22, 23, 24, 25, 26] (by decide +kernel) (by decide +kernel)) (goodIn_sub (fun _ h => List.mem_cons_of_mem _ (List.mem_append_right _ h)) (by decide +kernel))
set_option maxRecDepth 20000 in
theorem gX0_quotient_X0_raise : GoodIn wsX0_quotient (va_wsS RX0 15 yX0_raise wsX0_raise) := goodIn_app (goodIn_of _ (by decide +kernel)) ggX0_quotient_X0_raise
set_option maxRecDepth 20000 in
theorem ggX0_quotient_X0_divide : GoodIn wsX0_quotient wsX0_divide := goodIn_r _ [29] (by decide +kernel) (by decide +kernel)
set_option maxRecDepth 20000 in
theorem gX0_quotient_X0_divide : GoodIn wsX0_quotient (va_wsS RX0 48 yX0_divide wsX0_divide) := goodIn_app (goodIn_of _ (by decide +kernel)) ggX0_quotient_X0_divide
theorem dX0_quotient_0 : decode cX0_quotient 0 = .ok (.lload_n 3, 1) := by decide +kernel
theorem dX0_quotient_1 : decode cX0_quotient 1 = .ok (.lconst 0, 1) := by decide +kernel
theorem dX0_quotient_2 : decode cX0_quotient 2 = .ok (.lcmp, 1) := by decide +kernel
theorem dX0_quotient_3 : decode cX0_quotient 3 = .ok (.ifCond .ne 13, 3) := by decide +kernel
theorem dX0_quotient_6 : decode cX0_quotient 6 = .ok (.new 43, 3) := by decide +kernel
theorem dX0_quotient_9 : decode cX0_quotient 9 = .ok (.dup, 1) := by decide +kernel
theorem dX0_quotient_10 : decode cX0_quotient 10 = .ok (.ldc 45, 2) := by decide +kernel
theorem dX0_quotient_12 : decode cX0_quotient 12 = .ok (.invokespecial 47, 3) := by decide +kernel
theorem dX0_quotient_15 : decode cX0_quotient 15 = .ok (.athrow, 1) := by decide +kernel
theorem dX0_quotient_16 : decode cX0_quotient 16 = .ok (.iload 6, 2) := by decide +kernel
theorem dX0_quotient_18 : decode cX0_quotient 18 = .ok (.iload 5, 2) := by decide +kernel
theorem dX0_quotient_20 : decode cX0_quotient 20 = .ok (.iadd, 1) := by decide +kernel
theorem dX0_quotient_21 : decode cX0_quotient 21 = .ok (.iload_n 2, 1) := by decide +kernel
theorem dX0_quotient_22 : decode cX0_quotient 22 = .ok (.isub, 1) := by decide +kernel
theorem dX0_quotient_23 : decode cX0_quotient 23 = .ok (.istore 7, 2) := by decide +kernel
theorem dX0_quotient_25 : decode cX0_quotient 25 = .ok (.iload 7, 2) := by decide +kernel
theorem dX0_quotient_27 : decode cX0_quotient 27 = .ok (.ifCond .le 16, 3) := by decide +kernel
theorem dX0_quotient_30 : decode cX0_quotient 30 = .ok (.lload_n 0, 1) := by decide +kernel
theorem dX0_quotient_31 : decode cX0_quotient 31 = .ok (.iload 7, 2) := by decide +kernel
theorem dX0_quotient_33 : decode cX0_quotient 33 = .ok (.invokestatic 15, 3) := by decide +kernel
theorem dX0_quotient_36 : decode cX0_quotient 36 = .ok (.lload_n 3, 1) := by decide +kernel
theorem dX0_quotient_37 : decode cX0_quotient 37 = .ok (.invokestatic 48, 3) := by decide +kernel
theorem dX0_quotient_40 : decode cX0_quotient 40 = .ok (.goto 14, 3) := by decide +kernel
theorem dX0_quotient_43 : decode cX0_quotient 43 = .ok (.lload_n 0, 1) := by decide +kernel
theorem dX0_quotient_44 : decode cX0_quotient 44 = .ok (.lload_n 3, 1) := by decide +kernel
theorem dX0_quotient_45 : decode cX0_quotient 45 = .ok (.iload 7, 2) := by decide +kernel
theorem dX0_quotient_47 : decode cX0_quotient 47 = .ok (.ineg, 1) := by decide +kernel
theorem dX0_quotient_48 : decode cX0_quotient 48 = .ok (.invokestatic 15, 3) := by decide +kernel
theorem dX0_quotient_51 : decode cX0_quotient 51 = .ok (.invokestatic 48, 3) := by decide +kernel
theorem dX0_quotient_54 : decode cX0_quotient 54 = .ok (.lreturn, 1) := by decide +kernel
set_option maxRecDepth 20000 in
theorem ggX0_remainder_X0_quotient : GoodIn wsX0_remainder wsX0_quotient := goodIn_ca (goodIn_ca (goodIn_r _ [10, 11, 12, 13, 14, 9, 15, 16, 17, 18, 19, 3, 4, 5, 6, 20, 21, 22, 23, 24, 25, 1, 2, 26, 27, 28, 29, 30, 31, 32] (by decide +kernel) (by decide +kernel)) (goodIn_sub (fun _ h => List.mem_cons_of_mem _ (List.mem_append_right _ h)) (by decide +kernel))) (goodIn_sub (fun _ h => List.mem_cons_of_mem _ (List.mem_append_left _ (List.mem_append_right _ h))) (by decide +kernel))
set_option maxRecDepth 20000 in
theorem gX0_remainder_X0_quotient : GoodIn wsX0_remainder (va_wsS RX0 52 yX0_quotient wsX0_quotient) := goodIn_app (goodIn_of _ (by decide +kernel)) ggX0_remainder_X0_quotient
set_option maxRecDepth 20000 in
theorem ggX0_remainder_X0_times : GoodIn wsX0_remainder wsX0_times := goodIn_ca (goodIn_r _ [25, 1, 2, 26, 27, 5, 28, 29] (by decide +kernel) (by decide +kernel)) (goodIn_sub (fun _ h => List.mem_cons_of_mem _ (List.mem_append_left _ (List.mem_append_right _ h))) (by decide +kernel))
set_option maxRecDepth 20000 in
theorem gX0_remainder_X0_times : GoodIn wsX0_remainder (va_wsS RX0 58 yX0_times wsX0_times) := goodIn_app (goodIn_of _ (by decide +kernel)) ggX0_remainder_X0_times
set_option maxRecDepth 20000 in
theorem ggX0_remainder_X0_raise : GoodIn wsX0_remainder wsX0_raise := goodIn_ca (goodIn_r _ [15, 16, 17, 9, 18, 19, 3, 4, 5, 6, 20, 21, 22, 23, 24, 25, 1, 2, 26, 27, 28, 29] (by decide +kernel) (by decide +kernel)) (goodIn_sub (fun _ h => List.mem_cons_of_mem _ (List.mem_append_left _ (List.mem_append_right _ h))) (by decide +kernel))
set_option maxRecDepth 20000 in
theorem gX0_remainder_X0_raise : GoodIn wsX0_remainder (va_wsS RX0 15 yX0_raise wsX0_raise) := goodIn_app (goodIn_of _ (by decide +kernel)) ggX0_remainder_X0_raise
set_option maxRecDepth 20000 in
theorem ggX0_remainder_X0_fitting : GoodIn wsX0_remainder wsX0_fitting := goodIn_ca (goodIn_r _ [35, 1, 2, 26, 27, 5, 28, 29] (by decide +kernel) (by decide +kernel)) (goodIn_sub (fun _ h => List.mem_cons_of_mem _ (List.mem_append_left _ (List.mem_append_right _ h))) (by decide +kernel))
set_option maxRecDepth 20000 in
theorem gX0_remainder_X0_fitting : GoodIn wsX0_remainder (va_wsS RX0 21 yX0_fitting wsX0_fitting) := goodIn_app (goodIn_of _ (by decide +kernel)) ggX0_remainder_X0_fitting
theorem dX0_remainder_0 : decode cX0_remainder 0 = .ok (.lload_n 0, 1) := by decide +kernel
theorem dX0_remainder_1 : decode cX0_remainder 1 = .ok (.iload_n 2, 1) := by decide +kernel
theorem dX0_remainder_2 : decode cX0_remainder 2 = .ok (.lload_n 3, 1) := by decide +kernel
theorem dX0_remainder_3 : decode cX0_remainder 3 = .ok (.iload 5, 2) := by decide +kernel
theorem dX0_remainder_5 : decode cX0_remainder 5 = .ok (.iload 6, 2) := by decide +kernel
theorem dX0_remainder_7 : decode cX0_remainder 7 = .ok (.invokestatic 52, 3) := by decide +kernel
theorem dX0_remainder_10 : decode cX0_remainder 10 = .ok (.lstore 7, 2) := by decide +kernel
theorem dX0_remainder_12 : decode cX0_remainder 12 = .ok (.iload 6, 2) := by decide +kernel
theorem dX0_remainder_14 : decode cX0_remainder 14 = .ok (.iload 5, 2) := by decide +kernel
theorem dX0_remainder_16 : decode cX0_remainder 16 = .ok (.iadd, 1) := by decide +kernel
theorem dX0_remainder_17 : decode cX0_remainder 17 = .ok (.istore 9, 2) := by decide +kernel
theorem dX0_remainder_19 : decode cX0_remainder 19 = .ok (.iload 9, 2) := by decide +kernel
theorem dX0_remainder_21 : decode cX0_remainder 21 = .ok (.iload_n 2, 1) := by decide +kernel
theorem dX0_remainder_22 : decode cX0_remainder 22 = .ok (.invokestatic 9, 3) := by decide +kernel
theorem dX0_remainder_25 : decode cX0_remainder 25 = .ok (.istore 10, 2) := by decide +kernel
theorem dX0_remainder_27 : decode cX0_remainder 27 = .ok (.iload 10, 2) := by decide +kernel
theorem dX0_remainder_29 : decode cX0_remainder 29 = .ok (.bipush 9, 2) := by decide +kernel
theorem dX0_remainder_31 : decode cX0_remainder 31 = .ok (.if_icmp .le 13, 3) := by decide +kernel
theorem dX0_remainder_34 : decode cX0_remainder 34 = .ok (.new 36, 3) := by decide +kernel
theorem dX0_remainder_37 : decode cX0_remainder 37 = .ok (.dup, 1) := by decide +kernel
theorem dX0_remainder_38 : decode cX0_remainder 38 = .ok (.ldc 56, 2) := by decide +kernel
theorem dX0_remainder_40 : decode cX0_remainder 40 = .ok (.invokespecial 40, 3) := by decide +kernel
theorem dX0_remainder_43 : decode cX0_remainder 43 = .ok (.athrow, 1) := by decide +kernel
theorem dX0_remainder_44 : decode cX0_remainder 44 = .ok (.lload 7, 2) := by decide +kernel
theorem dX0_remainder_46 : decode cX0_remainder 46 = .ok (.lload_n 3, 1) := by decide +kernel
theorem dX0_remainder_47 : decode cX0_remainder 47 = .ok (.invokestatic 58, 3) := by decide +kernel
theorem dX0_remainder_50 : decode cX0_remainder 50 = .ok (.iload 10, 2) := by decide +kernel
theorem dX0_remainder_52 : decode cX0_remainder 52 = .ok (.iload 9, 2) := by decide +kernel
theorem dX0_remainder_54 : decode cX0_remainder 54 = .ok (.isub, 1) := by decide +kernel
theorem dX0_remainder_55 : decode cX0_remainder 55 = .ok (.invokestatic 15, 3) := by decide +kernel
theorem dX0_remainder_58 : decode cX0_remainder 58 = .ok (.lstore 11, 2) := by decide +kernel
theorem dX0_remainder_60 : decode cX0_remainder 60 = .ok (.lload_n 0, 1) := by decide +kernel
theorem dX0_remainder_61 : decode cX0_remainder 61 = .ok (.iload 10, 2) := by decide +kernel
theorem dX0_remainder_63 : decode cX0_remainder 63 = .ok (.iload_n 2, 1) := by decide +kernel
theorem dX0_remainder_64 : decode cX0_remainder 64 = .ok (.isub, 1) := by decide +kernel
theorem dX0_remainder_65 : decode cX0_remainder 65 = .ok (.invokestatic 15, 3) := by decide +kernel
theorem dX0_remainder_68 : decode cX0_remainder 68 = .ok (.lload 11, 2) := by decide +kernel
theorem dX0_remainder_70 : decode cX0_remainder 70 = .ok (.lsub, 1) := by decide +kernel
theorem dX0_remainder_71 : decode cX0_remainder 71 = .ok (.invokestatic 21, 3) := by decide +kernel
theorem dX0_remainder_74 : decode cX0_remainder 74 = .ok (.lreturn, 1) := by decide +kernel
set_option maxRecDepth 20000 in
theorem ggX0_root_X0_raise : GoodIn wsX0_root wsX0_raise := goodIn_ca (goodIn_r _ [8, 9, 10, 7, 11, 12, 13, 14, 15, 16, 17, 18, 19, 20, 21, 22, 23, 24, 25, 26, 27, 28] (by decide +kernel) (by decide +kernel)) (goodIn_sub (fun _ h => List.mem_cons_of_mem _ (List.mem_append_right _ h)) (by decide +kernel))
set_option maxRecDepth 20000 in
theorem gX0_root_X0_raise : GoodIn wsX0_root (va_wsS RX0 15 yX0_raise wsX0_raise) := goodIn_app (goodIn_of _ (by decide +kernel)) ggX0_root_X0_raise
theorem dX0_root_0 : decode cX0_root 0 = .ok (.lload_n 0, 1) := by decide +kernel
theorem dX0_root_1 : decode cX0_root 1 = .ok (.lconst 0, 1) := by decide +kernel
theorem dX0_root_2 : decode cX0_root 2 = .ok (.lcmp, 1) := by decide +kernel
theorem dX0_root_3 : decode cX0_root 3 = .ok (.ifCond .ge 13, 3) := by decide +kernel
theorem dX0_root_6 : decode cX0_root 6 = .ok (.new 43, 3) := by decide +kernel
theorem dX0_root_9 : decode cX0_root 9 = .ok (.dup, 1) := by decide +kernel
theorem dX0_root_10 : decode cX0_root 10 = .ok (.ldc 61, 2) := by decide +kernel
theorem dX0_root_12 : decode cX0_root 12 = .ok (.invokespecial 47, 3) := by decide +kernel
theorem dX0_root_15 : decode cX0_root 15 = .ok (.athrow, 1) := by decide +kernel
theorem dX0_root_16 : decode cX0_root 16 = .ok (.lload_n 0, 1) := by decide +kernel
theorem dX0_root_17 : decode cX0_root 17 = .ok (.iconst 2, 1) := by decide +kernel
theorem dX0_root_18 : decode cX0_root 18 = .ok (.iload_n 3, 1) := by decide +kernel
theorem dX0_root_19 : decode cX0_root 19 = .ok (.imul, 1) := by decide +kernel
theorem dX0_root_20 : decode cX0_root 20 = .ok (.iload_n 2, 1) := by decide +kernel
theorem dX0_root_21 : decode cX0_root 21 = .ok (.isub, 1) := by decide +kernel
theorem dX0_root_22 : decode cX0_root 22 = .ok (.invokestatic 15, 3) := by decide +kernel
theorem dX0_root_25 : decode cX0_root 25 = .ok (.lstore 4, 2) := by decide +kernel
theorem dX0_root_27 : decode cX0_root 27 = .ok (.lconst 0, 1) := by decide +kernel
theorem dX0_root_28 : decode cX0_root 28 = .ok (.lstore 6, 2) := by decide +kernel
theorem dX0_root_30 : decode cX0_root 30 = .ok (.ldc2_w 63, 3) := by decide +kernel
theorem dX0_root_33 : decode cX0_root 33 = .ok (.lstore 8, 2) := by decide +kernel
theorem dX0_root_35 : decode cX0_root 35 = .ok (.iconst 0, 1) := by decide +kernel
theorem dX0_root_36 : decode cX0_root 36 = .ok (.istore 10, 2) := by decide +kernel
theorem dX0_root_38 : decode cX0_root 38 = .ok (.iload 10, 2) := by decide +kernel
theorem dX0_root_40 : decode cX0_root 40 = .ok (.bipush 31, 2) := by decide +kernel
theorem dX0_root_42 : decode cX0_root 42 = .ok (.if_icmp .ge 54, 3) := by decide +kernel
theorem dX0_root_45 : decode cX0_root 45 = .ok (.lload 6, 2) := by decide +kernel
theorem dX0_root_47 : decode cX0_root 47 = .ok (.lload 8, 2) := by decide +kernel
theorem dX0_root_49 : decode cX0_root 49 = .ok (.lcmp, 1) := by decide +kernel
theorem dX0_root_50 : decode cX0_root 50 = .ok (.ifCond .ge 46, 3) := by decide +kernel
theorem dX0_root_53 : decode cX0_root 53 = .ok (.lload 6, 2) := by decide +kernel
theorem dX0_root_55 : decode cX0_root 55 = .ok (.lload 8, 2) := by decide +kernel
theorem dX0_root_57 : decode cX0_root 57 = .ok (.ladd, 1) := by decide +kernel
theorem dX0_root_58 : decode cX0_root 58 = .ok (.lconst 1, 1) := by decide +kernel
theorem dX0_root_59 : decode cX0_root 59 = .ok (.ladd, 1) := by decide +kernel
theorem dX0_root_60 : decode cX0_root 60 = .ok (.ldc2_w 65, 3) := by decide +kernel
theorem dX0_root_63 : decode cX0_root 63 = .ok (.ldiv, 1) := by decide +kernel
theorem dX0_root_64 : decode cX0_root 64 = .ok (.lstore 11, 2) := by decide +kernel
theorem dX0_root_66 : decode cX0_root 66 = .ok (.lload 11, 2) := by decide +kernel
theorem dX0_root_68 : decode cX0_root 68 = .ok (.lload 11, 2) := by decide +kernel
theorem dX0_root_70 : decode cX0_root 70 = .ok (.lmul, 1) := by decide +kernel
theorem dX0_root_71 : decode cX0_root 71 = .ok (.lload 4, 2) := by decide +kernel
theorem dX0_root_73 : decode cX0_root 73 = .ok (.lcmp, 1) := by decide +kernel
theorem dX0_root_74 : decode cX0_root 74 = .ok (.ifCond .gt 10, 3) := by decide +kernel
theorem dX0_root_77 : decode cX0_root 77 = .ok (.lload 11, 2) := by decide +kernel
theorem dX0_root_79 : decode cX0_root 79 = .ok (.lstore 6, 2) := by decide +kernel
theorem dX0_root_81 : decode cX0_root 81 = .ok (.goto 9, 3) := by decide +kernel
theorem dX0_root_84 : decode cX0_root 84 = .ok (.lload 11, 2) := by decide +kernel
theorem dX0_root_86 : decode cX0_root 86 = .ok (.lconst 1, 1) := by decide +kernel
theorem dX0_root_87 : decode cX0_root 87 = .ok (.lsub, 1) := by decide +kernel
theorem dX0_root_88 : decode cX0_root 88 = .ok (.lstore 8, 2) := by decide +kernel
theorem dX0_root_90 : decode cX0_root 90 = .ok (.iinc 10 1, 3) := by decide +kernel
theorem dX0_root_93 : decode cX0_root 93 = .ok (.goto (-55), 3) := by decide +kernel
theorem dX0_root_96 : decode cX0_root 96 = .ok (.lload 6, 2) := by decide +kernel
theorem dX0_root_98 : decode cX0_root 98 = .ok (.lreturn, 1) := by decide +kernel
set_option maxRecDepth 20000 in
theorem ggX0_asPlaces_X0_cutOff : GoodIn wsX0_asPlaces wsX0_cutOff := goodIn_r _ [7, 8, 9, 6, 10, 11, 12, 13, 14, 15, 16, 17, 18, 19, 20, 21] (by decide +kernel) (by decide +kernel)
set_option maxRecDepth 20000 in
theorem gX0_asPlaces_X0_cutOff : GoodIn wsX0_asPlaces (va_wsS RX0 67 yX0_cutOff wsX0_cutOff) := goodIn_app (goodIn_of _ (by decide +kernel)) ggX0_asPlaces_X0_cutOff
set_option maxRecDepth 20000 in
theorem ggX0_asPlaces_X0_raise : GoodIn wsX0_asPlaces wsX0_raise := goodIn_ca (goodIn_r _ [24, 8, 9, 6, 10, 11, 12, 13, 14, 15, 16, 17, 18, 25, 26, 27, 28, 29, 30, 31, 32, 33] (by decide +kernel) (by decide +kernel)) (goodIn_sub (fun _ h => List.mem_cons_of_mem _ (List.mem_append_right _ h)) (by decide +kernel))
set_option maxRecDepth 20000 in
theorem gX0_asPlaces_X0_raise : GoodIn wsX0_asPlaces (va_wsS RX0 15 yX0_raise wsX0_raise) := goodIn_app (goodIn_of _ (by decide +kernel)) ggX0_asPlaces_X0_raise
theorem dX0_asPlaces_0 : decode cX0_asPlaces 0 = .ok (.lload_n 0, 1) := by decide +kernel
theorem dX0_asPlaces_1 : decode cX0_asPlaces 1 = .ok (.iload_n 2, 1) := by decide +kernel
theorem dX0_asPlaces_2 : decode cX0_asPlaces 2 = .ok (.invokestatic 67, 3) := by decide +kernel
theorem dX0_asPlaces_5 : decode cX0_asPlaces 5 = .ok (.lstore_n 3, 1) := by decide +kernel
theorem dX0_asPlaces_6 : decode cX0_asPlaces 6 = .ok (.lload_n 3, 1) := by decide +kernel
theorem dX0_asPlaces_7 : decode cX0_asPlaces 7 = .ok (.lconst 0, 1) := by decide +kernel
theorem dX0_asPlaces_8 : decode cX0_asPlaces 8 = .ok (.lcmp, 1) := by decide +kernel
theorem dX0_asPlaces_9 : decode cX0_asPlaces 9 = .ok (.ifCond .lt 21, 3) := by decide +kernel
theorem dX0_asPlaces_12 : decode cX0_asPlaces 12 = .ok (.lload_n 3, 1) := by decide +kernel
theorem dX0_asPlaces_13 : decode cX0_asPlaces 13 = .ok (.ldc2_w 70, 3) := by decide +kernel
theorem dX0_asPlaces_16 : decode cX0_asPlaces 16 = .ok (.lcmp, 1) := by decide +kernel
theorem dX0_asPlaces_17 : decode cX0_asPlaces 17 = .ok (.ifCond .gt 13, 3) := by decide +kernel
theorem dX0_asPlaces_20 : decode cX0_asPlaces 20 = .ok (.lload_n 3, 1) := by decide +kernel
theorem dX0_asPlaces_21 : decode cX0_asPlaces 21 = .ok (.iload_n 2, 1) := by decide +kernel
theorem dX0_asPlaces_22 : decode cX0_asPlaces 22 = .ok (.invokestatic 15, 3) := by decide +kernel
theorem dX0_asPlaces_25 : decode cX0_asPlaces 25 = .ok (.lload_n 0, 1) := by decide +kernel
theorem dX0_asPlaces_26 : decode cX0_asPlaces 26 = .ok (.lcmp, 1) := by decide +kernel
theorem dX0_asPlaces_27 : decode cX0_asPlaces 27 = .ok (.ifCond .eq 13, 3) := by decide +kernel
theorem dX0_asPlaces_30 : decode cX0_asPlaces 30 = .ok (.new 43, 3) := by decide +kernel
theorem dX0_asPlaces_33 : decode cX0_asPlaces 33 = .ok (.dup, 1) := by decide +kernel
theorem dX0_asPlaces_34 : decode cX0_asPlaces 34 = .ok (.ldc 72, 2) := by decide +kernel
theorem dX0_asPlaces_36 : decode cX0_asPlaces 36 = .ok (.invokespecial 47, 3) := by decide +kernel
theorem dX0_asPlaces_39 : decode cX0_asPlaces 39 = .ok (.athrow, 1) := by decide +kernel
theorem dX0_asPlaces_40 : decode cX0_asPlaces 40 = .ok (.lload_n 3, 1) := by decide +kernel
theorem dX0_asPlaces_41 : decode cX0_asPlaces 41 = .ok (.l2i, 1) := by decide +kernel
theorem dX0_asPlaces_42 : decode cX0_asPlaces 42 = .ok (.ireturn, 1) := by decide +kernel
set_option maxRecDepth 20000 in
theorem ggX0_cutOff_X0_powerOfTen : GoodIn wsX0_cutOff wsX0_powerOfTen := goodIn_r _ [4, 5, 6, 7, 8, 9, 10, 11, 12] (by decide +kernel) (by decide +kernel)
set_option maxRecDepth 20000 in
theorem gX0_cutOff_X0_powerOfTen : GoodIn wsX0_cutOff (va_wsS RX0 74 yX0_powerOfTen wsX0_powerOfTen) := goodIn_app (goodIn_of _ (by decide +kernel)) ggX0_cutOff_X0_powerOfTen
set_option maxRecDepth 20000 in
theorem ggX0_cutOff_X0_divide : GoodIn wsX0_cutOff wsX0_divide := goodIn_r _ [15] (by decide +kernel) (by decide +kernel)
set_option maxRecDepth 20000 in
theorem gX0_cutOff_X0_divide : GoodIn wsX0_cutOff (va_wsS RX0 48 yX0_divide wsX0_divide) := goodIn_app (goodIn_of _ (by decide +kernel)) ggX0_cutOff_X0_divide
theorem dX0_cutOff_0 : decode cX0_cutOff 0 = .ok (.lload_n 0, 1) := by decide +kernel
theorem dX0_cutOff_1 : decode cX0_cutOff 1 = .ok (.iload_n 2, 1) := by decide +kernel
theorem dX0_cutOff_2 : decode cX0_cutOff 2 = .ok (.invokestatic 74, 3) := by decide +kernel
theorem dX0_cutOff_5 : decode cX0_cutOff 5 = .ok (.invokestatic 48, 3) := by decide +kernel
theorem dX0_cutOff_8 : decode cX0_cutOff 8 = .ok (.lreturn, 1) := by decide +kernel
set_option maxRecDepth 20000 in
theorem ggX0_raise_X0_powerOfTen : GoodIn wsX0_raise wsX0_powerOfTen := goodIn_r _ [4, 5, 6, 7, 8, 9, 10, 11, 12] (by decide +kernel) (by decide +kernel)
set_option maxRecDepth 20000 in
theorem gX0_raise_X0_powerOfTen : GoodIn wsX0_raise (va_wsS RX0 74 yX0_powerOfTen wsX0_powerOfTen) := goodIn_app (goodIn_of _ (by decide +kernel)) ggX0_raise_X0_powerOfTen
set_option maxRecDepth 20000 in
theorem ggX0_raise_X0_times : GoodIn wsX0_raise wsX0_times := goodIn_ca (goodIn_r _ [15, 16, 17, 18, 19, 8, 20, 21] (by decide +kernel) (by decide +kernel)) (goodIn_sub (fun _ h => List.mem_cons_of_mem _ (List.mem_append_right _ h)) (by decide +kernel))
set_option maxRecDepth 20000 in
theorem gX0_raise_X0_times : GoodIn wsX0_raise (va_wsS RX0 58 yX0_times wsX0_times) := goodIn_app (goodIn_of _ (by decide +kernel)) ggX0_raise_X0_times
theorem dX0_raise_0 : decode cX0_raise 0 = .ok (.lload_n 0, 1) := by decide +kernel
theorem dX0_raise_1 : decode cX0_raise 1 = .ok (.iload_n 2, 1) := by decide +kernel
theorem dX0_raise_2 : decode cX0_raise 2 = .ok (.invokestatic 74, 3) := by decide +kernel
theorem dX0_raise_5 : decode cX0_raise 5 = .ok (.invokestatic 58, 3) := by decide +kernel
theorem dX0_raise_8 : decode cX0_raise 8 = .ok (.lreturn, 1) := by decide +kernel
theorem dX0_powerOfTen_0 : decode cX0_powerOfTen 0 = .ok (.getstatic 78, 3) := by decide +kernel
theorem dX0_powerOfTen_3 : decode cX0_powerOfTen 3 = .ok (.iload_n 0, 1) := by decide +kernel
theorem dX0_powerOfTen_4 : decode cX0_powerOfTen 4 = .ok (.iconst 0, 1) := by decide +kernel
theorem dX0_powerOfTen_5 : decode cX0_powerOfTen 5 = .ok (.invokestatic 9, 3) := by decide +kernel
theorem dX0_powerOfTen_8 : decode cX0_powerOfTen 8 = .ok (.getstatic 78, 3) := by decide +kernel
theorem dX0_powerOfTen_11 : decode cX0_powerOfTen 11 = .ok (.arraylength, 1) := by decide +kernel
theorem dX0_powerOfTen_12 : decode cX0_powerOfTen 12 = .ok (.iconst 1, 1) := by decide +kernel
theorem dX0_powerOfTen_13 : decode cX0_powerOfTen 13 = .ok (.isub, 1) := by decide +kernel
theorem dX0_powerOfTen_14 : decode cX0_powerOfTen 14 = .ok (.invokestatic 82, 3) := by decide +kernel
theorem dX0_powerOfTen_17 : decode cX0_powerOfTen 17 = .ok (.laload, 1) := by decide +kernel
theorem dX0_powerOfTen_18 : decode cX0_powerOfTen 18 = .ok (.lreturn, 1) := by decide +kernel
theorem dX0_divide_0 : decode cX0_divide 0 = .ok (.lload_n 2, 1) := by decide +kernel
theorem dX0_divide_1 : decode cX0_divide 1 = .ok (.lconst 0, 1) := by decide +kernel
theorem dX0_divide_2 : decode cX0_divide 2 = .ok (.lcmp, 1) := by decide +kernel
theorem dX0_divide_3 : decode cX0_divide 3 = .ok (.ifCond .ne 7, 3) := by decide +kernel
theorem dX0_divide_6 : decode cX0_divide 6 = .ok (.lconst 0, 1) := by decide +kernel
theorem dX0_divide_7 : decode cX0_divide 7 = .ok (.goto 6, 3) := by decide +kernel
theorem dX0_divide_10 : decode cX0_divide 10 = .ok (.lload_n 0, 1) := by decide +kernel
theorem dX0_divide_11 : decode cX0_divide 11 = .ok (.lload_n 2, 1) := by decide +kernel
theorem dX0_divide_12 : decode cX0_divide 12 = .ok (.ldiv, 1) := by decide +kernel
theorem dX0_divide_13 : decode cX0_divide 13 = .ok (.lreturn, 1) := by decide +kernel
theorem dX0_fitting_0 : decode cX0_fitting 0 = .ok (.lload_n 0, 1) := by decide +kernel
theorem dX0_fitting_1 : decode cX0_fitting 1 = .ok (.invokestatic 31, 3) := by decide +kernel
theorem dX0_fitting_4 : decode cX0_fitting 4 = .ok (.ldc2_w 34, 3) := by decide +kernel
theorem dX0_fitting_7 : decode cX0_fitting 7 = .ok (.lcmp, 1) := by decide +kernel
theorem dX0_fitting_8 : decode cX0_fitting 8 = .ok (.ifCond .le 13, 3) := by decide +kernel
theorem dX0_fitting_11 : decode cX0_fitting 11 = .ok (.new 36, 3) := by decide +kernel
theorem dX0_fitting_14 : decode cX0_fitting 14 = .ok (.dup, 1) := by decide +kernel
theorem dX0_fitting_15 : decode cX0_fitting 15 = .ok (.ldc 38, 2) := by decide +kernel
theorem dX0_fitting_17 : decode cX0_fitting 17 = .ok (.invokespecial 40, 3) := by decide +kernel
theorem dX0_fitting_20 : decode cX0_fitting 20 = .ok (.athrow, 1) := by decide +kernel
theorem dX0_fitting_21 : decode cX0_fitting 21 = .ok (.lload_n 0, 1) := by decide +kernel
theorem dX0_fitting_22 : decode cX0_fitting 22 = .ok (.lreturn, 1) := by decide +kernel
theorem dX1_init_0 : decode cX1_init 0 = .ok (.aload_n 0, 1) := by decide +kernel
theorem dX1_init_1 : decode cX1_init 1 = .ok (.invokespecial 3, 3) := by decide +kernel
theorem dX1_init_4 : decode cX1_init 4 = .ok (.aload_n 0, 1) := by decide +kernel
theorem dX1_init_5 : decode cX1_init 5 = .ok (.bipush 12, 2) := by decide +kernel
theorem dX1_init_7 : decode cX1_init 7 = .ok (.anewarray 9, 3) := by decide +kernel
theorem dX1_init_10 : decode cX1_init 10 = .ok (.putfield 11, 3) := by decide +kernel
theorem dX1_init_13 : decode cX1_init 13 = .ok (.aload_n 0, 1) := by decide +kernel
theorem dX1_init_14 : decode cX1_init 14 = .ok (.bipush 12, 2) := by decide +kernel
theorem dX1_init_16 : decode cX1_init 16 = .ok (.newarray .int, 2) := by decide +kernel
theorem dX1_init_18 : decode cX1_init 18 = .ok (.putfield 17, 3) := by decide +kernel
theorem dX1_init_21 : decode cX1_init 21 = .ok (.aload_n 0, 1) := by decide +kernel
theorem dX1_init_22 : decode cX1_init 22 = .ok (.bipush 12, 2) := by decide +kernel
theorem dX1_init_24 : decode cX1_init 24 = .ok (.newarray .int, 2) := by decide +kernel
theorem dX1_init_26 : decode cX1_init 26 = .ok (.putfield 21, 3) := by decide +kernel
theorem dX1_init_29 : decode cX1_init 29 = .ok (.aload_n 0, 1) := by decide +kernel
theorem dX1_init_30 : decode cX1_init 30 = .ok (.iconst 0, 1) := by decide +kernel
theorem dX1_init_31 : decode cX1_init 31 = .ok (.putfield 24, 3) := by decide +kernel
theorem dX1_init_34 : decode cX1_init 34 = .ok (.return_, 1) := by decide +kernel
theorem dX1_isUnderWay_0 : decode cX1_isUnderWay 0 = .ok (.aload_n 0, 1) := by decide +kernel
theorem dX1_isUnderWay_1 : decode cX1_isUnderWay 1 = .ok (.getfield 24, 3) := by decide +kernel
theorem dX1_isUnderWay_4 : decode cX1_isUnderWay 4 = .ok (.ifCond .le 19, 3) := by decide +kernel
theorem dX1_isUnderWay_7 : decode cX1_isUnderWay 7 = .ok (.aload_n 0, 1) := by decide +kernel
theorem dX1_isUnderWay_8 : decode cX1_isUnderWay 8 = .ok (.getfield 24, 3) := by decide +kernel
theorem dX1_isUnderWay_11 : decode cX1_isUnderWay 11 = .ok (.aload_n 0, 1) := by decide +kernel
theorem dX1_isUnderWay_12 : decode cX1_isUnderWay 12 = .ok (.getfield 11, 3) := by decide +kernel
theorem dX1_isUnderWay_15 : decode cX1_isUnderWay 15 = .ok (.arraylength, 1) := by decide +kernel
theorem dX1_isUnderWay_16 : decode cX1_isUnderWay 16 = .ok (.if_icmp .gt 7, 3) := by decide +kernel
theorem dX1_isUnderWay_19 : decode cX1_isUnderWay 19 = .ok (.iconst 1, 1) := by decide +kernel
theorem dX1_isUnderWay_20 : decode cX1_isUnderWay 20 = .ok (.goto 4, 3) := by decide +kernel
theorem dX1_isUnderWay_23 : decode cX1_isUnderWay 23 = .ok (.iconst 0, 1) := by decide +kernel
theorem dX1_isUnderWay_24 : decode cX1_isUnderWay 24 = .ok (.ireturn, 1) := by decide +kernel
theorem dX1_enter_0 : decode cX1_enter 0 = .ok (.aload_n 0, 1) := by decide +kernel
theorem dX1_enter_1 : decode cX1_enter 1 = .ok (.getfield 24, 3) := by decide +kernel
theorem dX1_enter_4 : decode cX1_enter 4 = .ok (.ifCond .lt 15, 3) := by decide +kernel
theorem dX1_enter_7 : decode cX1_enter 7 = .ok (.aload_n 0, 1) := by decide +kernel
theorem dX1_enter_8 : decode cX1_enter 8 = .ok (.getfield 24, 3) := by decide +kernel
theorem dX1_enter_11 : decode cX1_enter 11 = .ok (.aload_n 0, 1) := by decide +kernel
theorem dX1_enter_12 : decode cX1_enter 12 = .ok (.getfield 11, 3) := by decide +kernel
theorem dX1_enter_15 : decode cX1_enter 15 = .ok (.arraylength, 1) := by decide +kernel
theorem dX1_enter_16 : decode cX1_enter 16 = .ok (.if_icmp .lt 13, 3) := by decide +kernel
theorem dX1_enter_19 : decode cX1_enter 19 = .ok (.new 28, 3) := by decide +kernel
theorem dX1_enter_22 : decode cX1_enter 22 = .ok (.dup, 1) := by decide +kernel
theorem dX1_enter_23 : decode cX1_enter 23 = .ok (.ldc 30, 2) := by decide +kernel
theorem dX1_enter_25 : decode cX1_enter 25 = .ok (.invokespecial 32, 3) := by decide +kernel
theorem dX1_enter_28 : decode cX1_enter 28 = .ok (.athrow, 1) := by decide +kernel
theorem dX1_enter_29 : decode cX1_enter 29 = .ok (.aload_n 0, 1) := by decide +kernel
theorem dX1_enter_30 : decode cX1_enter 30 = .ok (.getfield 11, 3) := by decide +kernel
theorem dX1_enter_33 : decode cX1_enter 33 = .ok (.aload_n 0, 1) := by decide +kernel
theorem dX1_enter_34 : decode cX1_enter 34 = .ok (.getfield 24, 3) := by decide +kernel
theorem dX1_enter_37 : decode cX1_enter 37 = .ok (.aload_n 1, 1) := by decide +kernel
theorem dX1_enter_38 : decode cX1_enter 38 = .ok (.aastore, 1) := by decide +kernel
theorem dX1_enter_39 : decode cX1_enter 39 = .ok (.aload_n 0, 1) := by decide +kernel
theorem dX1_enter_40 : decode cX1_enter 40 = .ok (.getfield 17, 3) := by decide +kernel
theorem dX1_enter_43 : decode cX1_enter 43 = .ok (.aload_n 0, 1) := by decide +kernel
theorem dX1_enter_44 : decode cX1_enter 44 = .ok (.getfield 24, 3) := by decide +kernel
theorem dX1_enter_47 : decode cX1_enter 47 = .ok (.iload_n 2, 1) := by decide +kernel
theorem dX1_enter_48 : decode cX1_enter 48 = .ok (.iastore, 1) := by decide +kernel
theorem dX1_enter_49 : decode cX1_enter 49 = .ok (.aload_n 0, 1) := by decide +kernel
theorem dX1_enter_50 : decode cX1_enter 50 = .ok (.getfield 21, 3) := by decide +kernel
theorem dX1_enter_53 : decode cX1_enter 53 = .ok (.aload_n 0, 1) := by decide +kernel
theorem dX1_enter_54 : decode cX1_enter 54 = .ok (.getfield 24, 3) := by decide +kernel
theorem dX1_enter_57 : decode cX1_enter 57 = .ok (.iload_n 2, 1) := by decide +kernel
theorem dX1_enter_58 : decode cX1_enter 58 = .ok (.iload_n 3, 1) := by decide +kernel
theorem dX1_enter_59 : decode cX1_enter 59 = .ok (.iadd, 1) := by decide +kernel
theorem dX1_enter_60 : decode cX1_enter 60 = .ok (.iastore, 1) := by decide +kernel
theorem dX1_enter_61 : decode cX1_enter 61 = .ok (.aload_n 0, 1) := by decide +kernel
theorem dX1_enter_62 : decode cX1_enter 62 = .ok (.dup, 1) := by decide +kernel
theorem dX1_enter_63 : decode cX1_enter 63 = .ok (.getfield 24, 3) := by decide +kernel
theorem dX1_enter_66 : decode cX1_enter 66 = .ok (.iconst 1, 1) := by decide +kernel
theorem dX1_enter_67 : decode cX1_enter 67 = .ok (.iadd, 1) := by decide +kernel
theorem dX1_enter_68 : decode cX1_enter 68 = .ok (.putfield 24, 3) := by decide +kernel
theorem dX1_enter_71 : decode cX1_enter 71 = .ok (.return_, 1) := by decide +kernel
set_option maxRecDepth 20000 in
theorem ggX1_enterMacro_X1_skipBlanks : GoodIn wsX1_enterMacro wsX1_skipBlanks := goodIn_r _ [5, 6, 7, 8, 4, 9, 10, 11, 12, 13, 14, 15, 16, 17, 18, 19, 20, 21, 22, 23, 24, 25, 26, 27, 28, 43, 44, 45, 46, 47, 48] (by decide +kernel) (by decide +kernel)
set_option maxRecDepth 20000 in
theorem gX1_enterMacro_X1_skipBlanks : GoodIn wsX1_enterMacro (wsV RX1 35 RX1 yX1_skipBlanks wsX1_skipBlanks) := goodIn_app (goodIn_of _ (by decide +kernel)) ggX1_enterMacro_X1_skipBlanks
set_option maxRecDepth 20000 in
theorem ggX1_enterMacro_X1_look : GoodIn wsX1_enterMacro wsX1_look := goodIn_r _ [9, 10, 11, 12, 13, 14, 15, 16, 4, 17, 18, 19, 20, 21, 22, 23, 24, 43, 44, 45, 46, 47, 48] (by decide +kernel) (by decide +kernel)
set_option maxRecDepth 20000 in
theorem gX1_enterMacro_X1_look : GoodIn wsX1_enterMacro (wsV RX1 38 RX1 yX1_look wsX1_look) := goodIn_app (goodIn_of _ (by decide +kernel)) ggX1_enterMacro_X1_look
set_option maxRecDepth 20000 in
theorem ggX1_enterMacro_X1_leave : GoodIn wsX1_enterMacro wsX1_leave := goodIn_r _ [32, 11, 33, 34, 35, 36, 43, 44, 45, 46] (by decide +kernel) (by decide +kernel)
set_option maxRecDepth 20000 in
theorem gX1_enterMacro_X1_leave : GoodIn wsX1_enterMacro (wsV RX1 42 RX1 yX1_leave wsX1_leave) := goodIn_app (goodIn_of _ (by decide +kernel)) ggX1_enterMacro_X1_leave
set_option maxRecDepth 20000 in
theorem ggX1_enterMacro_X1_enter : GoodIn wsX1_enterMacro wsX1_enter := goodIn_ca (goodIn_r _ [40, 41, 42, 11, 13, 10, 12, 43, 44, 45, 46] (by decide +kernel) (by decide +kernel)) (goodIn_sub (fun _ h => List.mem_cons_of_mem _ (List.mem_append_right _ h)) (by decide +kernel))
set_option maxRecDepth 20000 in
theorem gX1_enterMacro_X1_enter : GoodIn wsX1_enterMacro (wsV RX1 45 RX1 yX1_enter wsX1_enter) := goodIn_app (goodIn_of _ (by decide +kernel)) ggX1_enterMacro_X1_enter
theorem dX1_enterMacro_0 : decode cX1_enterMacro 0 = .ok (.aload_n 0, 1) := by decide +kernel
theorem dX1_enterMacro_1 : decode cX1_enterMacro 1 = .ok (.invokevirtual 35, 3) := by decide +kernel
theorem dX1_enterMacro_4 : decode cX1_enterMacro 4 = .ok (.aload_n 0, 1) := by decide +kernel
theorem dX1_enterMacro_5 : decode cX1_enterMacro 5 = .ok (.invokevirtual 38, 3) := by decide +kernel
theorem dX1_enterMacro_8 : decode cX1_enterMacro 8 = .ok (.ifCond .ne 7, 3) := by decide +kernel
theorem dX1_enterMacro_11 : decode cX1_enterMacro 11 = .ok (.aload_n 0, 1) := by decide +kernel
theorem dX1_enterMacro_12 : decode cX1_enterMacro 12 = .ok (.invokevirtual 42, 3) := by decide +kernel
theorem dX1_enterMacro_15 : decode cX1_enterMacro 15 = .ok (.aload_n 0, 1) := by decide +kernel
theorem dX1_enterMacro_16 : decode cX1_enterMacro 16 = .ok (.aload_n 1, 1) := by decide +kernel
theorem dX1_enterMacro_17 : decode cX1_enterMacro 17 = .ok (.iload_n 2, 1) := by decide +kernel
theorem dX1_enterMacro_18 : decode cX1_enterMacro 18 = .ok (.iload_n 3, 1) := by decide +kernel
theorem dX1_enterMacro_19 : decode cX1_enterMacro 19 = .ok (.invokevirtual 45, 3) := by decide +kernel
theorem dX1_enterMacro_22 : decode cX1_enterMacro 22 = .ok (.return_, 1) := by decide +kernel
theorem dX1_leave_0 : decode cX1_leave 0 = .ok (.aload_n 0, 1) := by decide +kernel
theorem dX1_leave_1 : decode cX1_leave 1 = .ok (.iconst 0, 1) := by decide +kernel
theorem dX1_leave_2 : decode cX1_leave 2 = .ok (.aload_n 0, 1) := by decide +kernel
theorem dX1_leave_3 : decode cX1_leave 3 = .ok (.getfield 24, 3) := by decide +kernel
theorem dX1_leave_6 : decode cX1_leave 6 = .ok (.iconst 1, 1) := by decide +kernel
theorem dX1_leave_7 : decode cX1_leave 7 = .ok (.isub, 1) := by decide +kernel
theorem dX1_leave_8 : decode cX1_leave 8 = .ok (.invokestatic 49, 3) := by decide +kernel
theorem dX1_leave_11 : decode cX1_leave 11 = .ok (.putfield 24, 3) := by decide +kernel
theorem dX1_leave_14 : decode cX1_leave 14 = .ok (.return_, 1) := by decide +kernel
theorem dX1_leaveAll_0 : decode cX1_leaveAll 0 = .ok (.aload_n 0, 1) := by decide +kernel
theorem dX1_leaveAll_1 : decode cX1_leaveAll 1 = .ok (.iconst 0, 1) := by decide +kernel
theorem dX1_leaveAll_2 : decode cX1_leaveAll 2 = .ok (.putfield 24, 3) := by decide +kernel
theorem dX1_leaveAll_5 : decode cX1_leaveAll 5 = .ok (.return_, 1) := by decide +kernel
set_option maxRecDepth 20000 in
theorem ggX1_innermostRow_X1_isUnderWay : GoodIn wsX1_innermostRow wsX1_isUnderWay := goodIn_r _ [7, 2, 1, 8, 9, 10, 11] (by decide +kernel) (by decide +kernel)
set_option maxRecDepth 20000 in
theorem gX1_innermostRow_X1_isUnderWay : GoodIn wsX1_innermostRow (wsV RX1 55 RX1 yX1_isUnderWay wsX1_isUnderWay) := goodIn_app (goodIn_of _ (by decide +kernel)) ggX1_innermostRow_X1_isUnderWay
theorem dX1_innermostRow_0 : decode cX1_innermostRow 0 = .ok (.aload_n 0, 1) := by decide +kernel
theorem dX1_innermostRow_1 : decode cX1_innermostRow 1 = .ok (.invokevirtual 55, 3) := by decide +kernel
theorem dX1_innermostRow_4 : decode cX1_innermostRow 4 = .ok (.ifCond .eq 17, 3) := by decide +kernel
theorem dX1_innermostRow_7 : decode cX1_innermostRow 7 = .ok (.aload_n 0, 1) := by decide +kernel
theorem dX1_innermostRow_8 : decode cX1_innermostRow 8 = .ok (.getfield 11, 3) := by decide +kernel
theorem dX1_innermostRow_11 : decode cX1_innermostRow 11 = .ok (.aload_n 0, 1) := by decide +kernel
theorem dX1_innermostRow_12 : decode cX1_innermostRow 12 = .ok (.getfield 24, 3) := by decide +kernel
theorem dX1_innermostRow_15 : decode cX1_innermostRow 15 = .ok (.iconst 1, 1) := by decide +kernel
theorem dX1_innermostRow_16 : decode cX1_innermostRow 16 = .ok (.isub, 1) := by decide +kernel
theorem dX1_innermostRow_17 : decode cX1_innermostRow 17 = .ok (.aaload, 1) := by decide +kernel
theorem dX1_innermostRow_18 : decode cX1_innermostRow 18 = .ok (.goto 4, 3) := by decide +kernel
theorem dX1_innermostRow_21 : decode cX1_innermostRow 21 = .ok (.aconst_null, 1) := by decide +kernel
theorem dX1_innermostRow_22 : decode cX1_innermostRow 22 = .ok (.areturn, 1) := by decide +kernel
set_option maxRecDepth 20000 in
theorem ggX1_position_X1_isUnderWay : GoodIn wsX1_position wsX1_isUnderWay := goodIn_r _ [7, 2, 8, 9, 10, 11, 12] (by decide +kernel) (by decide +kernel)
set_option maxRecDepth 20000 in
theorem gX1_position_X1_isUnderWay : GoodIn wsX1_position (wsV RX1 55 RX1 yX1_isUnderWay wsX1_isUnderWay) := goodIn_app (goodIn_of _ (by decide +kernel)) ggX1_position_X1_isUnderWay
theorem dX1_position_0 : decode cX1_position 0 = .ok (.aload_n 0, 1) := by decide +kernel
theorem dX1_position_1 : decode cX1_position 1 = .ok (.invokevirtual 55, 3) := by decide +kernel
theorem dX1_position_4 : decode cX1_position 4 = .ok (.ifCond .eq 17, 3) := by decide +kernel
theorem dX1_position_7 : decode cX1_position 7 = .ok (.aload_n 0, 1) := by decide +kernel
theorem dX1_position_8 : decode cX1_position 8 = .ok (.getfield 17, 3) := by decide +kernel
theorem dX1_position_11 : decode cX1_position 11 = .ok (.aload_n 0, 1) := by decide +kernel
theorem dX1_position_12 : decode cX1_position 12 = .ok (.getfield 24, 3) := by decide +kernel
theorem dX1_position_15 : decode cX1_position 15 = .ok (.iconst 1, 1) := by decide +kernel
theorem dX1_position_16 : decode cX1_position 16 = .ok (.isub, 1) := by decide +kernel
theorem dX1_position_17 : decode cX1_position 17 = .ok (.iaload, 1) := by decide +kernel
theorem dX1_position_18 : decode cX1_position 18 = .ok (.goto 4, 3) := by decide +kernel
theorem dX1_position_21 : decode cX1_position 21 = .ok (.iconst 0, 1) := by decide +kernel
theorem dX1_position_22 : decode cX1_position 22 = .ok (.ireturn, 1) := by decide +kernel
set_option maxRecDepth 20000 in
theorem ggX1_look_X1_isUnderWay : GoodIn wsX1_look wsX1_isUnderWay := goodIn_r _ [9, 2, 4, 17, 18, 19, 20] (by decide +kernel) (by decide +kernel)
set_option maxRecDepth 20000 in
theorem gX1_look_X1_isUnderWay : GoodIn wsX1_look (wsV RX1 55 RX1 yX1_isUnderWay wsX1_isUnderWay) := goodIn_app (goodIn_of _ (by decide +kernel)) ggX1_look_X1_isUnderWay
set_option maxRecDepth 20000 in
theorem ggX1_look_X2_charAt : GoodIn wsX1_look wsX2_charAt := goodIn_r _ [14, 15, 16, 21, 22] (by decide +kernel) (by decide +kernel)
set_option maxRecDepth 20000 in
theorem gX1_look_X2_charAt : GoodIn wsX1_look (wsV RX1 59 RX2 yX2_charAt wsX2_charAt) := goodIn_app (goodIn_of _ (by decide +kernel)) ggX1_look_X2_charAt
theorem dX1_look_0 : decode cX1_look 0 = .ok (.aload_n 0, 1) := by decide +kernel
theorem dX1_look_1 : decode cX1_look 1 = .ok (.invokevirtual 55, 3) := by decide +kernel
theorem dX1_look_4 : decode cX1_look 4 = .ok (.ifCond .eq 28, 3) := by decide +kernel
theorem dX1_look_7 : decode cX1_look 7 = .ok (.aload_n 0, 1) := by decide +kernel
theorem dX1_look_8 : decode cX1_look 8 = .ok (.getfield 17, 3) := by decide +kernel
theorem dX1_look_11 : decode cX1_look 11 = .ok (.aload_n 0, 1) := by decide +kernel
theorem dX1_look_12 : decode cX1_look 12 = .ok (.getfield 24, 3) := by decide +kernel
theorem dX1_look_15 : decode cX1_look 15 = .ok (.iconst 1, 1) := by decide +kernel
theorem dX1_look_16 : decode cX1_look 16 = .ok (.isub, 1) := by decide +kernel
theorem dX1_look_17 : decode cX1_look 17 = .ok (.iaload, 1) := by decide +kernel
theorem dX1_look_18 : decode cX1_look 18 = .ok (.aload_n 0, 1) := by decide +kernel
theorem dX1_look_19 : decode cX1_look 19 = .ok (.getfield 21, 3) := by decide +kernel
theorem dX1_look_22 : decode cX1_look 22 = .ok (.aload_n 0, 1) := by decide +kernel
theorem dX1_look_23 : decode cX1_look 23 = .ok (.getfield 24, 3) := by decide +kernel
theorem dX1_look_26 : decode cX1_look 26 = .ok (.iconst 1, 1) := by decide +kernel
theorem dX1_look_27 : decode cX1_look 27 = .ok (.isub, 1) := by decide +kernel
theorem dX1_look_28 : decode cX1_look 28 = .ok (.iaload, 1) := by decide +kernel
theorem dX1_look_29 : decode cX1_look 29 = .ok (.if_icmp .lt 5, 3) := by decide +kernel
theorem dX1_look_32 : decode cX1_look 32 = .ok (.iconst 0, 1) := by decide +kernel
theorem dX1_look_33 : decode cX1_look 33 = .ok (.ireturn, 1) := by decide +kernel
theorem dX1_look_34 : decode cX1_look 34 = .ok (.aload_n 0, 1) := by decide +kernel
theorem dX1_look_35 : decode cX1_look 35 = .ok (.getfield 11, 3) := by decide +kernel
theorem dX1_look_38 : decode cX1_look 38 = .ok (.aload_n 0, 1) := by decide +kernel
theorem dX1_look_39 : decode cX1_look 39 = .ok (.getfield 24, 3) := by decide +kernel
theorem dX1_look_42 : decode cX1_look 42 = .ok (.iconst 1, 1) := by decide +kernel
theorem dX1_look_43 : decode cX1_look 43 = .ok (.isub, 1) := by decide +kernel
theorem dX1_look_44 : decode cX1_look 44 = .ok (.aaload, 1) := by decide +kernel
theorem dX1_look_45 : decode cX1_look 45 = .ok (.astore_n 1, 1) := by decide +kernel
theorem dX1_look_46 : decode cX1_look 46 = .ok (.aload_n 1, 1) := by decide +kernel
theorem dX1_look_47 : decode cX1_look 47 = .ok (.ifnonnull 7, 3) := by decide +kernel
theorem dX1_look_50 : decode cX1_look 50 = .ok (.iconst 0, 1) := by decide +kernel
theorem dX1_look_51 : decode cX1_look 51 = .ok (.goto 18, 3) := by decide +kernel
theorem dX1_look_54 : decode cX1_look 54 = .ok (.aload_n 1, 1) := by decide +kernel
theorem dX1_look_55 : decode cX1_look 55 = .ok (.aload_n 0, 1) := by decide +kernel
theorem dX1_look_56 : decode cX1_look 56 = .ok (.getfield 17, 3) := by decide +kernel
theorem dX1_look_59 : decode cX1_look 59 = .ok (.aload_n 0, 1) := by decide +kernel
theorem dX1_look_60 : decode cX1_look 60 = .ok (.getfield 24, 3) := by decide +kernel
theorem dX1_look_63 : decode cX1_look 63 = .ok (.iconst 1, 1) := by decide +kernel
theorem dX1_look_64 : decode cX1_look 64 = .ok (.isub, 1) := by decide +kernel
theorem dX1_look_65 : decode cX1_look 65 = .ok (.iaload, 1) := by decide +kernel
theorem dX1_look_66 : decode cX1_look 66 = .ok (.invokevirtual 59, 3) := by decide +kernel
theorem dX1_look_69 : decode cX1_look 69 = .ok (.ireturn, 1) := by decide +kernel
set_option maxRecDepth 20000 in
theorem ggX1_pass_X1_isUnderWay : GoodIn wsX1_pass wsX1_isUnderWay := goodIn_r _ [7, 2, 8, 9, 10, 11, 12] (by decide +kernel) (by decide +kernel)
set_option maxRecDepth 20000 in
theorem gX1_pass_X1_isUnderWay : GoodIn wsX1_pass (wsV RX1 55 RX1 yX1_isUnderWay wsX1_isUnderWay) := goodIn_app (goodIn_of _ (by decide +kernel)) ggX1_pass_X1_isUnderWay
theorem dX1_pass_0 : decode cX1_pass 0 = .ok (.aload_n 0, 1) := by decide +kernel
theorem dX1_pass_1 : decode cX1_pass 1 = .ok (.invokevirtual 55, 3) := by decide +kernel
theorem dX1_pass_4 : decode cX1_pass 4 = .ok (.ifCond .eq 18, 3) := by decide +kernel
theorem dX1_pass_7 : decode cX1_pass 7 = .ok (.aload_n 0, 1) := by decide +kernel
theorem dX1_pass_8 : decode cX1_pass 8 = .ok (.getfield 17, 3) := by decide +kernel
theorem dX1_pass_11 : decode cX1_pass 11 = .ok (.aload_n 0, 1) := by decide +kernel
theorem dX1_pass_12 : decode cX1_pass 12 = .ok (.getfield 24, 3) := by decide +kernel
theorem dX1_pass_15 : decode cX1_pass 15 = .ok (.iconst 1, 1) := by decide +kernel
theorem dX1_pass_16 : decode cX1_pass 16 = .ok (.isub, 1) := by decide +kernel
theorem dX1_pass_17 : decode cX1_pass 17 = .ok (.dup2, 1) := by decide +kernel
theorem dX1_pass_18 : decode cX1_pass 18 = .ok (.iaload, 1) := by decide +kernel
theorem dX1_pass_19 : decode cX1_pass 19 = .ok (.iconst 1, 1) := by decide +kernel
theorem dX1_pass_20 : decode cX1_pass 20 = .ok (.iadd, 1) := by decide +kernel
theorem dX1_pass_21 : decode cX1_pass 21 = .ok (.iastore, 1) := by decide +kernel
theorem dX1_pass_22 : decode cX1_pass 22 = .ok (.return_, 1) := by decide +kernel
set_option maxRecDepth 20000 in
theorem ggX1_skipBlanks_X1_look : GoodIn wsX1_skipBlanks wsX1_look := goodIn_r _ [5, 6, 7, 8, 9, 10, 11, 12, 4, 13, 14, 15, 16, 17, 18, 19, 20, 25, 26, 27, 28, 29, 30] (by decide +kernel) (by decide +kernel)
set_option maxRecDepth 20000 in
theorem gX1_skipBlanks_X1_look : GoodIn wsX1_skipBlanks (wsV RX1 38 RX1 yX1_look wsX1_look) := goodIn_app (goodIn_of _ (by decide +kernel)) ggX1_skipBlanks_X1_look
set_option maxRecDepth 20000 in
theorem ggX1_skipBlanks_X1_pass : GoodIn wsX1_skipBlanks wsX1_pass := goodIn_r _ [24, 6, 7, 10, 11, 12, 4, 13, 9, 25, 26, 27, 28] (by decide +kernel) (by decide +kernel)
set_option maxRecDepth 20000 in
theorem gX1_skipBlanks_X1_pass : GoodIn wsX1_skipBlanks (wsV RX1 63 RX1 yX1_pass wsX1_pass) := goodIn_app (goodIn_of _ (by decide +kernel)) ggX1_skipBlanks_X1_pass
theorem dX1_skipBlanks_0 : decode cX1_skipBlanks 0 = .ok (.iconst 0, 1) := by decide +kernel
theorem dX1_skipBlanks_1 : decode cX1_skipBlanks 1 = .ok (.istore_n 1, 1) := by decide +kernel
theorem dX1_skipBlanks_2 : decode cX1_skipBlanks 2 = .ok (.iload_n 1, 1) := by decide +kernel
theorem dX1_skipBlanks_3 : decode cX1_skipBlanks 3 = .ok (.sipush 160, 3) := by decide +kernel
theorem dX1_skipBlanks_6 : decode cX1_skipBlanks 6 = .ok (.if_icmp .ge 31, 3) := by decide +kernel
theorem dX1_skipBlanks_9 : decode cX1_skipBlanks 9 = .ok (.aload_n 0, 1) := by decide +kernel
theorem dX1_skipBlanks_10 : decode cX1_skipBlanks 10 = .ok (.invokevirtual 38, 3) := by decide +kernel
theorem dX1_skipBlanks_13 : decode cX1_skipBlanks 13 = .ok (.bipush 32, 2) := by decide +kernel
theorem dX1_skipBlanks_15 : decode cX1_skipBlanks 15 = .ok (.if_icmp .eq 12, 3) := by decide +kernel
theorem dX1_skipBlanks_18 : decode cX1_skipBlanks 18 = .ok (.aload_n 0, 1) := by decide +kernel
theorem dX1_skipBlanks_19 : decode cX1_skipBlanks 19 = .ok (.invokevirtual 38, 3) := by decide +kernel
theorem dX1_skipBlanks_22 : decode cX1_skipBlanks 22 = .ok (.bipush 10, 2) := by decide +kernel
theorem dX1_skipBlanks_24 : decode cX1_skipBlanks 24 = .ok (.if_icmp .ne 13, 3) := by decide +kernel
theorem dX1_skipBlanks_27 : decode cX1_skipBlanks 27 = .ok (.aload_n 0, 1) := by decide +kernel
theorem dX1_skipBlanks_28 : decode cX1_skipBlanks 28 = .ok (.invokevirtual 63, 3) := by decide +kernel
theorem dX1_skipBlanks_31 : decode cX1_skipBlanks 31 = .ok (.iinc 1 1, 3) := by decide +kernel
theorem dX1_skipBlanks_34 : decode cX1_skipBlanks 34 = .ok (.goto (-32), 3) := by decide +kernel
theorem dX1_skipBlanks_37 : decode cX1_skipBlanks 37 = .ok (.return_, 1) := by decide +kernel
theorem dX2_init_0 : decode cX2_init 0 = .ok (.aload_n 0, 1) := by decide +kernel
theorem dX2_init_1 : decode cX2_init 1 = .ok (.invokespecial 3, 3) := by decide +kernel
theorem dX2_init_4 : decode cX2_init 4 = .ok (.aload_n 0, 1) := by decide +kernel
theorem dX2_init_5 : decode cX2_init 5 = .ok (.sipush 160, 3) := by decide +kernel
theorem dX2_init_8 : decode cX2_init 8 = .ok (.newarray .byte, 2) := by decide +kernel
theorem dX2_init_10 : decode cX2_init 10 = .ok (.putfield 9, 3) := by decide +kernel
theorem dX2_init_13 : decode cX2_init 13 = .ok (.aload_n 0, 1) := by decide +kernel
theorem dX2_init_14 : decode cX2_init 14 = .ok (.iconst 0, 1) := by decide +kernel
theorem dX2_init_15 : decode cX2_init 15 = .ok (.putfield 15, 3) := by decide +kernel
theorem dX2_init_18 : decode cX2_init 18 = .ok (.return_, 1) := by decide +kernel
theorem dX2_append_0 : decode cX2_append 0 = .ok (.aload_n 0, 1) := by decide +kernel
theorem dX2_append_1 : decode cX2_append 1 = .ok (.getfield 15, 3) := by decide +kernel
theorem dX2_append_4 : decode cX2_append 4 = .ok (.aload_n 0, 1) := by decide +kernel
theorem dX2_append_5 : decode cX2_append 5 = .ok (.getfield 9, 3) := by decide +kernel
theorem dX2_append_8 : decode cX2_append 8 = .ok (.arraylength, 1) := by decide +kernel
theorem dX2_append_9 : decode cX2_append 9 = .ok (.if_icmp .ge 24, 3) := by decide +kernel
theorem dX2_append_12 : decode cX2_append 12 = .ok (.aload_n 0, 1) := by decide +kernel
theorem dX2_append_13 : decode cX2_append 13 = .ok (.getfield 9, 3) := by decide +kernel
theorem dX2_append_16 : decode cX2_append 16 = .ok (.aload_n 0, 1) := by decide +kernel
theorem dX2_append_17 : decode cX2_append 17 = .ok (.getfield 15, 3) := by decide +kernel
theorem dX2_append_20 : decode cX2_append 20 = .ok (.iload_n 1, 1) := by decide +kernel
theorem dX2_append_21 : decode cX2_append 21 = .ok (.i2b, 1) := by decide +kernel
theorem dX2_append_22 : decode cX2_append 22 = .ok (.bastore, 1) := by decide +kernel
theorem dX2_append_23 : decode cX2_append 23 = .ok (.aload_n 0, 1) := by decide +kernel
theorem dX2_append_24 : decode cX2_append 24 = .ok (.dup, 1) := by decide +kernel
theorem dX2_append_25 : decode cX2_append 25 = .ok (.getfield 15, 3) := by decide +kernel
theorem dX2_append_28 : decode cX2_append 28 = .ok (.iconst 1, 1) := by decide +kernel
theorem dX2_append_29 : decode cX2_append 29 = .ok (.iadd, 1) := by decide +kernel
theorem dX2_append_30 : decode cX2_append 30 = .ok (.putfield 15, 3) := by decide +kernel
theorem dX2_append_33 : decode cX2_append 33 = .ok (.return_, 1) := by decide +kernel
theorem dX2_charAt_0 : decode cX2_charAt 0 = .ok (.iload_n 1, 1) := by decide +kernel
theorem dX2_charAt_1 : decode cX2_charAt 1 = .ok (.ifCond .lt 20, 3) := by decide +kernel
theorem dX2_charAt_4 : decode cX2_charAt 4 = .ok (.iload_n 1, 1) := by decide +kernel
theorem dX2_charAt_5 : decode cX2_charAt 5 = .ok (.aload_n 0, 1) := by decide +kernel
theorem dX2_charAt_6 : decode cX2_charAt 6 = .ok (.getfield 15, 3) := by decide +kernel
theorem dX2_charAt_9 : decode cX2_charAt 9 = .ok (.if_icmp .ge 12, 3) := by decide +kernel
theorem dX2_charAt_12 : decode cX2_charAt 12 = .ok (.iload_n 1, 1) := by decide +kernel
theorem dX2_charAt_13 : decode cX2_charAt 13 = .ok (.aload_n 0, 1) := by decide +kernel
theorem dX2_charAt_14 : decode cX2_charAt 14 = .ok (.getfield 9, 3) := by decide +kernel
theorem dX2_charAt_17 : decode cX2_charAt 17 = .ok (.arraylength, 1) := by decide +kernel
theorem dX2_charAt_18 : decode cX2_charAt 18 = .ok (.if_icmp .lt 7, 3) := by decide +kernel
theorem dX2_charAt_21 : decode cX2_charAt 21 = .ok (.iconst 0, 1) := by decide +kernel
theorem dX2_charAt_22 : decode cX2_charAt 22 = .ok (.goto 9, 3) := by decide +kernel
theorem dX2_charAt_25 : decode cX2_charAt 25 = .ok (.aload_n 0, 1) := by decide +kernel
theorem dX2_charAt_26 : decode cX2_charAt 26 = .ok (.getfield 9, 3) := by decide +kernel
theorem dX2_charAt_29 : decode cX2_charAt 29 = .ok (.iload_n 1, 1) := by decide +kernel
theorem dX2_charAt_30 : decode cX2_charAt 30 = .ok (.baload, 1) := by decide +kernel
theorem dX2_charAt_31 : decode cX2_charAt 31 = .ok (.ireturn, 1) := by decide +kernel
theorem dX3_init_0 : decode cX3_init 0 = .ok (.aload_n 0, 1) := by decide +kernel
theorem dX3_init_1 : decode cX3_init 1 = .ok (.invokespecial 3, 3) := by decide +kernel
theorem dX3_init_4 : decode cX3_init 4 = .ok (.iload_n 1, 1) := by decide +kernel
theorem dX3_init_5 : decode cX3_init 5 = .ok (.ifCond .ge 7, 3) := by decide +kernel
theorem dX3_init_8 : decode cX3_init 8 = .ok (.iconst 0, 1) := by decide +kernel
theorem dX3_init_9 : decode cX3_init 9 = .ok (.goto 4, 3) := by decide +kernel
theorem dX3_init_12 : decode cX3_init 12 = .ok (.iload_n 1, 1) := by decide +kernel
theorem dX3_init_13 : decode cX3_init 13 = .ok (.istore_n 2, 1) := by decide +kernel
theorem dX3_init_14 : decode cX3_init 14 = .ok (.aload_n 0, 1) := by decide +kernel
theorem dX3_init_15 : decode cX3_init 15 = .ok (.iload_n 2, 1) := by decide +kernel
theorem dX3_init_16 : decode cX3_init 16 = .ok (.newarray .long, 2) := by decide +kernel
theorem dX3_init_18 : decode cX3_init 18 = .ok (.putfield 9, 3) := by decide +kernel
theorem dX3_init_21 : decode cX3_init 21 = .ok (.aload_n 0, 1) := by decide +kernel
theorem dX3_init_22 : decode cX3_init 22 = .ok (.iload_n 2, 1) := by decide +kernel
theorem dX3_init_23 : decode cX3_init 23 = .ok (.newarray .int, 2) := by decide +kernel
theorem dX3_init_25 : decode cX3_init 25 = .ok (.putfield 15, 3) := by decide +kernel
theorem dX3_init_28 : decode cX3_init 28 = .ok (.aload_n 0, 1) := by decide +kernel
theorem dX3_init_29 : decode cX3_init 29 = .ok (.iload_n 2, 1) := by decide +kernel
theorem dX3_init_30 : decode cX3_init 30 = .ok (.anewarray 19, 3) := by decide +kernel
theorem dX3_init_33 : decode cX3_init 33 = .ok (.putfield 21, 3) := by decide +kernel
theorem dX3_init_36 : decode cX3_init 36 = .ok (.aload_n 0, 1) := by decide +kernel
theorem dX3_init_37 : decode cX3_init 37 = .ok (.iload_n 2, 1) := by decide +kernel
theorem dX3_init_38 : decode cX3_init 38 = .ok (.newarray .int, 2) := by decide +kernel
theorem dX3_init_40 : decode cX3_init 40 = .ok (.putfield 25, 3) := by decide +kernel
theorem dX3_init_43 : decode cX3_init 43 = .ok (.aload_n 0, 1) := by decide +kernel
theorem dX3_init_44 : decode cX3_init 44 = .ok (.iconst 0, 1) := by decide +kernel
theorem dX3_init_45 : decode cX3_init 45 = .ok (.putfield 28, 3) := by decide +kernel
theorem dX3_init_48 : decode cX3_init 48 = .ok (.return_, 1) := by decide +kernel
theorem dX3_isFull_0 : decode cX3_isFull 0 = .ok (.aload_n 0, 1) := by decide +kernel
theorem dX3_isFull_1 : decode cX3_isFull 1 = .ok (.getfield 28, 3) := by decide +kernel
theorem dX3_isFull_4 : decode cX3_isFull 4 = .ok (.aload_n 0, 1) := by decide +kernel
theorem dX3_isFull_5 : decode cX3_isFull 5 = .ok (.getfield 9, 3) := by decide +kernel
theorem dX3_isFull_8 : decode cX3_isFull 8 = .ok (.arraylength, 1) := by decide +kernel
theorem dX3_isFull_9 : decode cX3_isFull 9 = .ok (.if_icmp .lt 7, 3) := by decide +kernel
theorem dX3_isFull_12 : decode cX3_isFull 12 = .ok (.iconst 1, 1) := by decide +kernel
theorem dX3_isFull_13 : decode cX3_isFull 13 = .ok (.goto 4, 3) := by decide +kernel
theorem dX3_isFull_16 : decode cX3_isFull 16 = .ok (.iconst 0, 1) := by decide +kernel
theorem dX3_isFull_17 : decode cX3_isFull 17 = .ok (.ireturn, 1) := by decide +kernel
theorem dX3_has_0 : decode cX3_has 0 = .ok (.iload_n 1, 1) := by decide +kernel
theorem dX3_has_1 : decode cX3_has 1 = .ok (.ifCond .lt 24, 3) := by decide +kernel
theorem dX3_has_4 : decode cX3_has 4 = .ok (.iload_n 1, 1) := by decide +kernel
theorem dX3_has_5 : decode cX3_has 5 = .ok (.aload_n 0, 1) := by decide +kernel
theorem dX3_has_6 : decode cX3_has 6 = .ok (.getfield 28, 3) := by decide +kernel
theorem dX3_has_9 : decode cX3_has 9 = .ok (.if_icmp .ge 16, 3) := by decide +kernel
theorem dX3_has_12 : decode cX3_has 12 = .ok (.iload_n 1, 1) := by decide +kernel
theorem dX3_has_13 : decode cX3_has 13 = .ok (.aload_n 0, 1) := by decide +kernel
theorem dX3_has_14 : decode cX3_has 14 = .ok (.getfield 9, 3) := by decide +kernel
theorem dX3_has_17 : decode cX3_has 17 = .ok (.arraylength, 1) := by decide +kernel
theorem dX3_has_18 : decode cX3_has 18 = .ok (.if_icmp .ge 7, 3) := by decide +kernel
theorem dX3_has_21 : decode cX3_has 21 = .ok (.iconst 1, 1) := by decide +kernel
theorem dX3_has_22 : decode cX3_has 22 = .ok (.goto 4, 3) := by decide +kernel
theorem dX3_has_25 : decode cX3_has 25 = .ok (.iconst 0, 1) := by decide +kernel
theorem dX3_has_26 : decode cX3_has 26 = .ok (.ireturn, 1) := by decide +kernel
theorem dX3_slotBelowTop_0 : decode cX3_slotBelowTop 0 = .ok (.iload_n 1, 1) := by decide +kernel
theorem dX3_slotBelowTop_1 : decode cX3_slotBelowTop 1 = .ok (.ifCond .lt 11, 3) := by decide +kernel
theorem dX3_slotBelowTop_4 : decode cX3_slotBelowTop 4 = .ok (.iload_n 1, 1) := by decide +kernel
theorem dX3_slotBelowTop_5 : decode cX3_slotBelowTop 5 = .ok (.aload_n 0, 1) := by decide +kernel
theorem dX3_slotBelowTop_6 : decode cX3_slotBelowTop 6 = .ok (.getfield 28, 3) := by decide +kernel
theorem dX3_slotBelowTop_9 : decode cX3_slotBelowTop 9 = .ok (.if_icmp .lt 7, 3) := by decide +kernel
theorem dX3_slotBelowTop_12 : decode cX3_slotBelowTop 12 = .ok (.iconst (-1), 1) := by decide +kernel
theorem dX3_slotBelowTop_13 : decode cX3_slotBelowTop 13 = .ok (.goto 11, 3) := by decide +kernel
theorem dX3_slotBelowTop_16 : decode cX3_slotBelowTop 16 = .ok (.aload_n 0, 1) := by decide +kernel
theorem dX3_slotBelowTop_17 : decode cX3_slotBelowTop 17 = .ok (.getfield 28, 3) := by decide +kernel
theorem dX3_slotBelowTop_20 : decode cX3_slotBelowTop 20 = .ok (.iconst 1, 1) := by decide +kernel
theorem dX3_slotBelowTop_21 : decode cX3_slotBelowTop 21 = .ok (.isub, 1) := by decide +kernel
theorem dX3_slotBelowTop_22 : decode cX3_slotBelowTop 22 = .ok (.iload_n 1, 1) := by decide +kernel
theorem dX3_slotBelowTop_23 : decode cX3_slotBelowTop 23 = .ok (.isub, 1) := by decide +kernel
theorem dX3_slotBelowTop_24 : decode cX3_slotBelowTop 24 = .ok (.ireturn, 1) := by decide +kernel
set_option maxRecDepth 20000 in
theorem ggX3_valueAt_X3_has : GoodIn wsX3_valueAt wsX3_has := goodIn_r _ [6, 7, 1, 8, 9, 10, 11, 12] (by decide +kernel) (by decide +kernel)
set_option maxRecDepth 20000 in
theorem gX3_valueAt_X3_has : GoodIn wsX3_valueAt (wsV RX3 32 RX3 yX3_has wsX3_has) := goodIn_app (goodIn_of _ (by decide +kernel)) ggX3_valueAt_X3_has
theorem dX3_valueAt_0 : decode cX3_valueAt 0 = .ok (.aload_n 0, 1) := by decide +kernel
theorem dX3_valueAt_1 : decode cX3_valueAt 1 = .ok (.iload_n 1, 1) := by decide +kernel
theorem dX3_valueAt_2 : decode cX3_valueAt 2 = .ok (.invokevirtual 32, 3) := by decide +kernel
theorem dX3_valueAt_5 : decode cX3_valueAt 5 = .ok (.ifCond .eq 12, 3) := by decide +kernel
theorem dX3_valueAt_8 : decode cX3_valueAt 8 = .ok (.aload_n 0, 1) := by decide +kernel
theorem dX3_valueAt_9 : decode cX3_valueAt 9 = .ok (.getfield 9, 3) := by decide +kernel
theorem dX3_valueAt_12 : decode cX3_valueAt 12 = .ok (.iload_n 1, 1) := by decide +kernel
theorem dX3_valueAt_13 : decode cX3_valueAt 13 = .ok (.laload, 1) := by decide +kernel
theorem dX3_valueAt_14 : decode cX3_valueAt 14 = .ok (.goto 4, 3) := by decide +kernel
theorem dX3_valueAt_17 : decode cX3_valueAt 17 = .ok (.lconst 0, 1) := by decide +kernel
theorem dX3_valueAt_18 : decode cX3_valueAt 18 = .ok (.lreturn, 1) := by decide +kernel
set_option maxRecDepth 20000 in
theorem ggX3_placesAt_X3_has : GoodIn wsX3_placesAt wsX3_has := goodIn_r _ [6, 7, 8, 9, 10, 11, 12, 13] (by decide +kernel) (by decide +kernel)
set_option maxRecDepth 20000 in
theorem gX3_placesAt_X3_has : GoodIn wsX3_placesAt (wsV RX3 32 RX3 yX3_has wsX3_has) := goodIn_app (goodIn_of _ (by decide +kernel)) ggX3_placesAt_X3_has
theorem dX3_placesAt_0 : decode cX3_placesAt 0 = .ok (.aload_n 0, 1) := by decide +kernel
theorem dX3_placesAt_1 : decode cX3_placesAt 1 = .ok (.iload_n 1, 1) := by decide +kernel
theorem dX3_placesAt_2 : decode cX3_placesAt 2 = .ok (.invokevirtual 32, 3) := by decide +kernel
theorem dX3_placesAt_5 : decode cX3_placesAt 5 = .ok (.ifCond .eq 12, 3) := by decide +kernel
theorem dX3_placesAt_8 : decode cX3_placesAt 8 = .ok (.aload_n 0, 1) := by decide +kernel
theorem dX3_placesAt_9 : decode cX3_placesAt 9 = .ok (.getfield 15, 3) := by decide +kernel
theorem dX3_placesAt_12 : decode cX3_placesAt 12 = .ok (.iload_n 1, 1) := by decide +kernel
theorem dX3_placesAt_13 : decode cX3_placesAt 13 = .ok (.iaload, 1) := by decide +kernel
theorem dX3_placesAt_14 : decode cX3_placesAt 14 = .ok (.goto 5, 3) := by decide +kernel
theorem dX3_placesAt_17 : decode cX3_placesAt 17 = .ok (.bipush (-2), 2) := by decide +kernel
theorem dX3_placesAt_19 : decode cX3_placesAt 19 = .ok (.ireturn, 1) := by decide +kernel
set_option maxRecDepth 20000 in
theorem ggX3_rowAt_X3_has : GoodIn wsX3_rowAt wsX3_has := goodIn_r _ [6, 7, 8, 9, 10, 11, 12, 13] (by decide +kernel) (by decide +kernel)
set_option maxRecDepth 20000 in
theorem gX3_rowAt_X3_has : GoodIn wsX3_rowAt (wsV RX3 32 RX3 yX3_has wsX3_has) := goodIn_app (goodIn_of _ (by decide +kernel)) ggX3_rowAt_X3_has
theorem dX3_rowAt_0 : decode cX3_rowAt 0 = .ok (.aload_n 0, 1) := by decide +kernel
theorem dX3_rowAt_1 : decode cX3_rowAt 1 = .ok (.iload_n 1, 1) := by decide +kernel
theorem dX3_rowAt_2 : decode cX3_rowAt 2 = .ok (.invokevirtual 32, 3) := by decide +kernel
theorem dX3_rowAt_5 : decode cX3_rowAt 5 = .ok (.ifCond .eq 12, 3) := by decide +kernel
theorem dX3_rowAt_8 : decode cX3_rowAt 8 = .ok (.aload_n 0, 1) := by decide +kernel
theorem dX3_rowAt_9 : decode cX3_rowAt 9 = .ok (.getfield 21, 3) := by decide +kernel
theorem dX3_rowAt_12 : decode cX3_rowAt 12 = .ok (.iload_n 1, 1) := by decide +kernel
theorem dX3_rowAt_13 : decode cX3_rowAt 13 = .ok (.aaload, 1) := by decide +kernel
theorem dX3_rowAt_14 : decode cX3_rowAt 14 = .ok (.goto 4, 3) := by decide +kernel
theorem dX3_rowAt_17 : decode cX3_rowAt 17 = .ok (.aconst_null, 1) := by decide +kernel
theorem dX3_rowAt_18 : decode cX3_rowAt 18 = .ok (.areturn, 1) := by decide +kernel
set_option maxRecDepth 20000 in
theorem ggX3_startAt_X3_has : GoodIn wsX3_startAt wsX3_has := goodIn_r _ [6, 7, 8, 9, 10, 11, 12, 13] (by decide +kernel) (by decide +kernel)
set_option maxRecDepth 20000 in
theorem gX3_startAt_X3_has : GoodIn wsX3_startAt (wsV RX3 32 RX3 yX3_has wsX3_has) := goodIn_app (goodIn_of _ (by decide +kernel)) ggX3_startAt_X3_has
theorem dX3_startAt_0 : decode cX3_startAt 0 = .ok (.aload_n 0, 1) := by decide +kernel
theorem dX3_startAt_1 : decode cX3_startAt 1 = .ok (.iload_n 1, 1) := by decide +kernel
theorem dX3_startAt_2 : decode cX3_startAt 2 = .ok (.invokevirtual 32, 3) := by decide +kernel
theorem dX3_startAt_5 : decode cX3_startAt 5 = .ok (.ifCond .eq 12, 3) := by decide +kernel
theorem dX3_startAt_8 : decode cX3_startAt 8 = .ok (.aload_n 0, 1) := by decide +kernel
theorem dX3_startAt_9 : decode cX3_startAt 9 = .ok (.getfield 25, 3) := by decide +kernel
theorem dX3_startAt_12 : decode cX3_startAt 12 = .ok (.iload_n 1, 1) := by decide +kernel
theorem dX3_startAt_13 : decode cX3_startAt 13 = .ok (.iaload, 1) := by decide +kernel
theorem dX3_startAt_14 : decode cX3_startAt 14 = .ok (.goto 4, 3) := by decide +kernel
theorem dX3_startAt_17 : decode cX3_startAt 17 = .ok (.iconst 0, 1) := by decide +kernel
theorem dX3_startAt_18 : decode cX3_startAt 18 = .ok (.ireturn, 1) := by decide +kernel
set_option maxRecDepth 20000 in
theorem ggX3_putNumber_X3_put : GoodIn wsX3_putNumber wsX3_put := goodIn_ca (goodIn_r _ [5, 6, 7, 8, 9, 10, 11, 4, 12, 13, 14, 15, 16, 17, 18, 19, 20, 21, 22, 23, 24, 25, 26, 27, 28, 29] (by decide +kernel) (by decide +kernel)) (goodIn_sub (fun _ h => List.mem_cons_of_mem _ (List.mem_append_right _ h)) (by decide +kernel))
set_option maxRecDepth 20000 in
theorem gX3_putNumber_X3_put : GoodIn wsX3_putNumber (wsV RX3 36 RX3 yX3_put wsX3_put) := goodIn_app (goodIn_of _ (by decide +kernel)) ggX3_putNumber_X3_put
theorem dX3_putNumber_0 : decode cX3_putNumber 0 = .ok (.aload_n 0, 1) := by decide +kernel
theorem dX3_putNumber_1 : decode cX3_putNumber 1 = .ok (.lload_n 1, 1) := by decide +kernel
theorem dX3_putNumber_2 : decode cX3_putNumber 2 = .ok (.iload_n 3, 1) := by decide +kernel
theorem dX3_putNumber_3 : decode cX3_putNumber 3 = .ok (.aconst_null, 1) := by decide +kernel
theorem dX3_putNumber_4 : decode cX3_putNumber 4 = .ok (.iconst 0, 1) := by decide +kernel
theorem dX3_putNumber_5 : decode cX3_putNumber 5 = .ok (.invokevirtual 36, 3) := by decide +kernel
theorem dX3_putNumber_8 : decode cX3_putNumber 8 = .ok (.return_, 1) := by decide +kernel
set_option maxRecDepth 20000 in
theorem ggX3_putText_X3_put : GoodIn wsX3_putText wsX3_put := goodIn_ca (goodIn_r _ [5, 6, 7, 8, 9, 10, 11, 4, 12, 13, 14, 15, 16, 17, 18, 19, 20, 21, 22, 23, 24, 25, 26, 27, 28, 29] (by decide +kernel) (by decide +kernel)) (goodIn_sub (fun _ h => List.mem_cons_of_mem _ (List.mem_append_right _ h)) (by decide +kernel))
set_option maxRecDepth 20000 in
theorem gX3_putText_X3_put : GoodIn wsX3_putText (wsV RX3 36 RX3 yX3_put wsX3_put) := goodIn_app (goodIn_of _ (by decide +kernel)) ggX3_putText_X3_put
theorem dX3_putText_0 : decode cX3_putText 0 = .ok (.aload_n 0, 1) := by decide +kernel
theorem dX3_putText_1 : decode cX3_putText 1 = .ok (.iload_n 3, 1) := by decide +kernel
theorem dX3_putText_2 : decode cX3_putText 2 = .ok (.i2l, 1) := by decide +kernel
theorem dX3_putText_3 : decode cX3_putText 3 = .ok (.iconst (-1), 1) := by decide +kernel
theorem dX3_putText_4 : decode cX3_putText 4 = .ok (.aload_n 1, 1) := by decide +kernel
theorem dX3_putText_5 : decode cX3_putText 5 = .ok (.iload_n 2, 1) := by decide +kernel
theorem dX3_putText_6 : decode cX3_putText 6 = .ok (.invokevirtual 36, 3) := by decide +kernel
theorem dX3_putText_9 : decode cX3_putText 9 = .ok (.return_, 1) := by decide +kernel
set_option maxRecDepth 20000 in
theorem ggX3_putTopOf_X3_slotBelowTop : GoodIn wsX3_putTopOf wsX3_slotBelowTop := goodIn_r _ [5, 6, 45, 46, 47, 48, 49] (by decide +kernel) (by decide +kernel)
set_option maxRecDepth 20000 in
theorem gX3_putTopOf_X3_slotBelowTop : GoodIn wsX3_putTopOf (wsV RX3 40 RX3 yX3_slotBelowTop wsX3_slotBelowTop) := goodIn_app (goodIn_of _ (by decide +kernel)) ggX3_putTopOf_X3_slotBelowTop
set_option maxRecDepth 20000 in
theorem ggX3_putTopOf_X3_valueAt : GoodIn wsX3_putTopOf wsX3_valueAt := goodIn_r _ [10, 11, 12, 13, 14, 4, 15, 6, 45, 46, 47, 48, 49] (by decide +kernel) (by decide +kernel)
set_option maxRecDepth 20000 in
theorem gX3_putTopOf_X3_valueAt : GoodIn wsX3_putTopOf (wsV RX3 44 RX3 yX3_valueAt wsX3_valueAt) := goodIn_app (goodIn_of _ (by decide +kernel)) ggX3_putTopOf_X3_valueAt
set_option maxRecDepth 20000 in
theorem ggX3_putTopOf_X3_placesAt : GoodIn wsX3_putTopOf wsX3_placesAt := goodIn_r _ [19, 20, 12, 13, 14, 4, 15, 6, 11, 45, 46, 47, 48, 49] (by decide +kernel) (by decide +kernel)
set_option maxRecDepth 20000 in
theorem gX3_putTopOf_X3_placesAt : GoodIn wsX3_putTopOf (wsV RX3 48 RX3 yX3_placesAt wsX3_placesAt) := goodIn_app (goodIn_of _ (by decide +kernel)) ggX3_putTopOf_X3_placesAt
set_option maxRecDepth 20000 in
theorem ggX3_putTopOf_X3_rowAt : GoodIn wsX3_putTopOf wsX3_rowAt := goodIn_r _ [24, 25, 12, 13, 14, 4, 15, 6, 11, 45, 46, 47, 48, 49] (by decide +kernel) (by decide +kernel)
set_option maxRecDepth 20000 in
theorem gX3_putTopOf_X3_rowAt : GoodIn wsX3_putTopOf (wsV RX3 51 RX3 yX3_rowAt wsX3_rowAt) := goodIn_app (goodIn_of _ (by decide +kernel)) ggX3_putTopOf_X3_rowAt
set_option maxRecDepth 20000 in
theorem ggX3_putTopOf_X3_startAt : GoodIn wsX3_putTopOf wsX3_startAt := goodIn_r _ [29, 30, 12, 13, 14, 4, 15, 6, 11, 45, 46, 47, 48, 49] (by decide +kernel) (by decide +kernel)
set_option maxRecDepth 20000 in
theorem gX3_putTopOf_X3_startAt : GoodIn wsX3_putTopOf (wsV RX3 55 RX3 yX3_startAt wsX3_startAt) := goodIn_app (goodIn_of _ (by decide +kernel)) ggX3_putTopOf_X3_startAt
set_option maxRecDepth 20000 in
theorem ggX3_putTopOf_X3_put : GoodIn wsX3_putTopOf wsX3_put := goodIn_ca (goodIn_r _ [34, 35, 36, 6, 37, 38, 39, 4, 40, 11, 41, 42, 43, 44, 20, 25, 30, 12, 13, 14, 15, 45, 46, 47, 48, 49] (by decide +kernel) (by decide +kernel)) (goodIn_sub (fun _ h => List.mem_cons_of_mem _ (List.mem_append_right _ h)) (by decide +kernel))
set_option maxRecDepth 20000 in
theorem gX3_putTopOf_X3_put : GoodIn wsX3_putTopOf (wsV RX3 36 RX3 yX3_put wsX3_put) := goodIn_app (goodIn_of _ (by decide +kernel)) ggX3_putTopOf_X3_put
theorem dX3_putTopOf_0 : decode cX3_putTopOf 0 = .ok (.aload_n 1, 1) := by decide +kernel
theorem dX3_putTopOf_1 : decode cX3_putTopOf 1 = .ok (.iconst 0, 1) := by decide +kernel
theorem dX3_putTopOf_2 : decode cX3_putTopOf 2 = .ok (.invokevirtual 40, 3) := by decide +kernel
theorem dX3_putTopOf_5 : decode cX3_putTopOf 5 = .ok (.istore_n 2, 1) := by decide +kernel
theorem dX3_putTopOf_6 : decode cX3_putTopOf 6 = .ok (.aload_n 0, 1) := by decide +kernel
theorem dX3_putTopOf_7 : decode cX3_putTopOf 7 = .ok (.aload_n 1, 1) := by decide +kernel
theorem dX3_putTopOf_8 : decode cX3_putTopOf 8 = .ok (.iload_n 2, 1) := by decide +kernel
theorem dX3_putTopOf_9 : decode cX3_putTopOf 9 = .ok (.invokevirtual 44, 3) := by decide +kernel
theorem dX3_putTopOf_12 : decode cX3_putTopOf 12 = .ok (.aload_n 1, 1) := by decide +kernel
theorem dX3_putTopOf_13 : decode cX3_putTopOf 13 = .ok (.iload_n 2, 1) := by decide +kernel
theorem dX3_putTopOf_14 : decode cX3_putTopOf 14 = .ok (.invokevirtual 48, 3) := by decide +kernel
theorem dX3_putTopOf_17 : decode cX3_putTopOf 17 = .ok (.aload_n 1, 1) := by decide +kernel
theorem dX3_putTopOf_18 : decode cX3_putTopOf 18 = .ok (.iload_n 2, 1) := by decide +kernel
theorem dX3_putTopOf_19 : decode cX3_putTopOf 19 = .ok (.invokevirtual 51, 3) := by decide +kernel
theorem dX3_putTopOf_22 : decode cX3_putTopOf 22 = .ok (.aload_n 1, 1) := by decide +kernel
theorem dX3_putTopOf_23 : decode cX3_putTopOf 23 = .ok (.iload_n 2, 1) := by decide +kernel
theorem dX3_putTopOf_24 : decode cX3_putTopOf 24 = .ok (.invokevirtual 55, 3) := by decide +kernel
theorem dX3_putTopOf_27 : decode cX3_putTopOf 27 = .ok (.invokevirtual 36, 3) := by decide +kernel
theorem dX3_putTopOf_30 : decode cX3_putTopOf 30 = .ok (.return_, 1) := by decide +kernel
set_option maxRecDepth 20000 in
theorem ggX3_put_X3_isFull : GoodIn wsX3_put wsX3_isFull := goodIn_r _ [8, 3, 9, 21, 22, 23, 24, 25] (by decide +kernel) (by decide +kernel)
set_option maxRecDepth 20000 in
theorem gX3_put_X3_isFull : GoodIn wsX3_put (wsV RX3 58 RX3 yX3_isFull wsX3_isFull) := goodIn_app (goodIn_of _ (by decide +kernel)) ggX3_put_X3_isFull
set_option maxRecDepth 20000 in
theorem ggX3_put_X3_set : GoodIn wsX3_put wsX3_set := goodIn_r _ [13, 9, 14, 15, 16, 17, 18, 19, 7, 20, 3, 21, 22, 23, 24, 25] (by decide +kernel) (by decide +kernel)
set_option maxRecDepth 20000 in
theorem gX3_put_X3_set : GoodIn wsX3_put (wsV RX3 69 RX3 yX3_set wsX3_set) := goodIn_app (goodIn_of _ (by decide +kernel)) ggX3_put_X3_set
theorem dX3_put_0 : decode cX3_put 0 = .ok (.aload_n 0, 1) := by decide +kernel
theorem dX3_put_1 : decode cX3_put 1 = .ok (.invokevirtual 58, 3) := by decide +kernel
theorem dX3_put_4 : decode cX3_put 4 = .ok (.ifCond .eq 13, 3) := by decide +kernel
theorem dX3_put_7 : decode cX3_put 7 = .ok (.new 62, 3) := by decide +kernel
theorem dX3_put_10 : decode cX3_put 10 = .ok (.dup, 1) := by decide +kernel
theorem dX3_put_11 : decode cX3_put 11 = .ok (.ldc 64, 2) := by decide +kernel
theorem dX3_put_13 : decode cX3_put 13 = .ok (.invokespecial 66, 3) := by decide +kernel
theorem dX3_put_16 : decode cX3_put 16 = .ok (.athrow, 1) := by decide +kernel
theorem dX3_put_17 : decode cX3_put 17 = .ok (.aload_n 0, 1) := by decide +kernel
theorem dX3_put_18 : decode cX3_put 18 = .ok (.dup, 1) := by decide +kernel
theorem dX3_put_19 : decode cX3_put 19 = .ok (.getfield 28, 3) := by decide +kernel
theorem dX3_put_22 : decode cX3_put 22 = .ok (.iconst 1, 1) := by decide +kernel
theorem dX3_put_23 : decode cX3_put 23 = .ok (.iadd, 1) := by decide +kernel
theorem dX3_put_24 : decode cX3_put 24 = .ok (.putfield 28, 3) := by decide +kernel
theorem dX3_put_27 : decode cX3_put 27 = .ok (.aload_n 0, 1) := by decide +kernel
theorem dX3_put_28 : decode cX3_put 28 = .ok (.aload_n 0, 1) := by decide +kernel
theorem dX3_put_29 : decode cX3_put 29 = .ok (.getfield 28, 3) := by decide +kernel
theorem dX3_put_32 : decode cX3_put 32 = .ok (.iconst 1, 1) := by decide +kernel
theorem dX3_put_33 : decode cX3_put 33 = .ok (.isub, 1) := by decide +kernel
theorem dX3_put_34 : decode cX3_put 34 = .ok (.lload_n 1, 1) := by decide +kernel
theorem dX3_put_35 : decode cX3_put 35 = .ok (.iload_n 3, 1) := by decide +kernel
theorem dX3_put_36 : decode cX3_put 36 = .ok (.aload 4, 2) := by decide +kernel
theorem dX3_put_38 : decode cX3_put 38 = .ok (.iload 5, 2) := by decide +kernel
theorem dX3_put_40 : decode cX3_put 40 = .ok (.invokevirtual 69, 3) := by decide +kernel
theorem dX3_put_43 : decode cX3_put 43 = .ok (.return_, 1) := by decide +kernel
set_option maxRecDepth 20000 in
theorem ggX3_set_X3_has : GoodIn wsX3_set wsX3_has := goodIn_r _ [9, 10, 1, 11, 12, 13, 14, 15] (by decide +kernel) (by decide +kernel)
set_option maxRecDepth 20000 in
theorem gX3_set_X3_has : GoodIn wsX3_set (wsV RX3 32 RX3 yX3_has wsX3_has) := goodIn_app (goodIn_of _ (by decide +kernel)) ggX3_set_X3_has
theorem dX3_set_0 : decode cX3_set 0 = .ok (.aload_n 0, 1) := by decide +kernel
theorem dX3_set_1 : decode cX3_set 1 = .ok (.iload_n 1, 1) := by decide +kernel
theorem dX3_set_2 : decode cX3_set 2 = .ok (.invokevirtual 32, 3) := by decide +kernel
theorem dX3_set_5 : decode cX3_set 5 = .ok (.ifCond .eq 34, 3) := by decide +kernel
theorem dX3_set_8 : decode cX3_set 8 = .ok (.aload_n 0, 1) := by decide +kernel
theorem dX3_set_9 : decode cX3_set 9 = .ok (.getfield 9, 3) := by decide +kernel
theorem dX3_set_12 : decode cX3_set 12 = .ok (.iload_n 1, 1) := by decide +kernel
theorem dX3_set_13 : decode cX3_set 13 = .ok (.lload_n 2, 1) := by decide +kernel
theorem dX3_set_14 : decode cX3_set 14 = .ok (.lastore, 1) := by decide +kernel
theorem dX3_set_15 : decode cX3_set 15 = .ok (.aload_n 0, 1) := by decide +kernel
theorem dX3_set_16 : decode cX3_set 16 = .ok (.getfield 15, 3) := by decide +kernel
theorem dX3_set_19 : decode cX3_set 19 = .ok (.iload_n 1, 1) := by decide +kernel
theorem dX3_set_20 : decode cX3_set 20 = .ok (.iload 4, 2) := by decide +kernel
theorem dX3_set_22 : decode cX3_set 22 = .ok (.iastore, 1) := by decide +kernel
theorem dX3_set_23 : decode cX3_set 23 = .ok (.aload_n 0, 1) := by decide +kernel
theorem dX3_set_24 : decode cX3_set 24 = .ok (.getfield 21, 3) := by decide +kernel
theorem dX3_set_27 : decode cX3_set 27 = .ok (.iload_n 1, 1) := by decide +kernel
theorem dX3_set_28 : decode cX3_set 28 = .ok (.aload 5, 2) := by decide +kernel
theorem dX3_set_30 : decode cX3_set 30 = .ok (.aastore, 1) := by decide +kernel
theorem dX3_set_31 : decode cX3_set 31 = .ok (.aload_n 0, 1) := by decide +kernel
theorem dX3_set_32 : decode cX3_set 32 = .ok (.getfield 25, 3) := by decide +kernel
theorem dX3_set_35 : decode cX3_set 35 = .ok (.iload_n 1, 1) := by decide +kernel
theorem dX3_set_36 : decode cX3_set 36 = .ok (.iload 6, 2) := by decide +kernel
theorem dX3_set_38 : decode cX3_set 38 = .ok (.iastore, 1) := by decide +kernel
theorem dX3_set_39 : decode cX3_set 39 = .ok (.return_, 1) := by decide +kernel
set_option maxRecDepth 20000 in
theorem ggX3_swapTopTwo_X3_slotBelowTop : GoodIn wsX3_swapTopTwo wsX3_slotBelowTop := goodIn_r _ [5, 6, 35, 36, 37, 38, 39] (by decide +kernel) (by decide +kernel)
set_option maxRecDepth 20000 in
theorem gX3_swapTopTwo_X3_slotBelowTop : GoodIn wsX3_swapTopTwo (wsV RX3 40 RX3 yX3_slotBelowTop wsX3_slotBelowTop) := goodIn_app (goodIn_of _ (by decide +kernel)) ggX3_swapTopTwo_X3_slotBelowTop
set_option maxRecDepth 20000 in
theorem ggX3_swapTopTwo_X3_valueAt : GoodIn wsX3_swapTopTwo wsX3_valueAt := goodIn_r _ [10, 11, 12, 13, 14, 4, 15, 6, 35, 36, 37, 38, 39] (by decide +kernel) (by decide +kernel)
set_option maxRecDepth 20000 in
theorem gX3_swapTopTwo_X3_valueAt : GoodIn wsX3_swapTopTwo (wsV RX3 44 RX3 yX3_valueAt wsX3_valueAt) := goodIn_app (goodIn_of _ (by decide +kernel)) ggX3_swapTopTwo_X3_valueAt
set_option maxRecDepth 20000 in
theorem ggX3_swapTopTwo_X3_placesAt : GoodIn wsX3_swapTopTwo wsX3_placesAt := goodIn_r _ [19, 20, 12, 13, 14, 4, 15, 6, 11, 35, 36, 37, 38, 39] (by decide +kernel) (by decide +kernel)
set_option maxRecDepth 20000 in
theorem gX3_swapTopTwo_X3_placesAt : GoodIn wsX3_swapTopTwo (wsV RX3 48 RX3 yX3_placesAt wsX3_placesAt) := goodIn_app (goodIn_of _ (by decide +kernel)) ggX3_swapTopTwo_X3_placesAt
set_option maxRecDepth 20000 in
theorem ggX3_swapTopTwo_X3_rowAt : GoodIn wsX3_swapTopTwo wsX3_rowAt := goodIn_r _ [24, 25, 12, 13, 14, 4, 15, 6, 11, 35, 36, 37, 38, 39] (by decide +kernel) (by decide +kernel)
set_option maxRecDepth 20000 in
theorem gX3_swapTopTwo_X3_rowAt : GoodIn wsX3_swapTopTwo (wsV RX3 51 RX3 yX3_rowAt wsX3_rowAt) := goodIn_app (goodIn_of _ (by decide +kernel)) ggX3_swapTopTwo_X3_rowAt
set_option maxRecDepth 20000 in
theorem ggX3_swapTopTwo_X3_startAt : GoodIn wsX3_swapTopTwo wsX3_startAt := goodIn_r _ [29, 30, 12, 13, 14, 4, 15, 6, 11, 35, 36, 37, 38, 39] (by decide +kernel) (by decide +kernel)
set_option maxRecDepth 20000 in
theorem gX3_swapTopTwo_X3_startAt : GoodIn wsX3_swapTopTwo (wsV RX3 55 RX3 yX3_startAt wsX3_startAt) := goodIn_app (goodIn_of _ (by decide +kernel)) ggX3_swapTopTwo_X3_startAt
set_option maxRecDepth 20000 in
theorem ggX3_swapTopTwo_X3_set : GoodIn wsX3_swapTopTwo wsX3_set := goodIn_r _ [34, 11, 20, 25, 30, 12, 13, 14, 4, 15, 6, 35, 36, 37, 38, 39] (by decide +kernel) (by decide +kernel)
set_option maxRecDepth 20000 in
theorem gX3_swapTopTwo_X3_set : GoodIn wsX3_swapTopTwo (wsV RX3 69 RX3 yX3_set wsX3_set) := goodIn_app (goodIn_of _ (by decide +kernel)) ggX3_swapTopTwo_X3_set
theorem dX3_swapTopTwo_0 : decode cX3_swapTopTwo 0 = .ok (.aload_n 0, 1) := by decide +kernel
theorem dX3_swapTopTwo_1 : decode cX3_swapTopTwo 1 = .ok (.iconst 0, 1) := by decide +kernel
theorem dX3_swapTopTwo_2 : decode cX3_swapTopTwo 2 = .ok (.invokevirtual 40, 3) := by decide +kernel
theorem dX3_swapTopTwo_5 : decode cX3_swapTopTwo 5 = .ok (.istore_n 1, 1) := by decide +kernel
theorem dX3_swapTopTwo_6 : decode cX3_swapTopTwo 6 = .ok (.aload_n 0, 1) := by decide +kernel
theorem dX3_swapTopTwo_7 : decode cX3_swapTopTwo 7 = .ok (.iconst 1, 1) := by decide +kernel
theorem dX3_swapTopTwo_8 : decode cX3_swapTopTwo 8 = .ok (.invokevirtual 40, 3) := by decide +kernel
theorem dX3_swapTopTwo_11 : decode cX3_swapTopTwo 11 = .ok (.istore_n 2, 1) := by decide +kernel
theorem dX3_swapTopTwo_12 : decode cX3_swapTopTwo 12 = .ok (.aload_n 0, 1) := by decide +kernel
theorem dX3_swapTopTwo_13 : decode cX3_swapTopTwo 13 = .ok (.iload_n 1, 1) := by decide +kernel
theorem dX3_swapTopTwo_14 : decode cX3_swapTopTwo 14 = .ok (.invokevirtual 44, 3) := by decide +kernel
theorem dX3_swapTopTwo_17 : decode cX3_swapTopTwo 17 = .ok (.lstore_n 3, 1) := by decide +kernel
theorem dX3_swapTopTwo_18 : decode cX3_swapTopTwo 18 = .ok (.aload_n 0, 1) := by decide +kernel
end
section
theorem dX3_swapTopTwo_19 : decode cX3_swapTopTwo 19 = .ok (.iload_n 1, 1) := by decide +kernel
theorem dX3_swapTopTwo_20 : decode cX3_swapTopTwo 20 = .ok (.invokevirtual 48, 3) := by decide +kernel
theorem dX3_swapTopTwo_23 : decode cX3_swapTopTwo 23 = .ok (.istore 5, 2) := by decide +kernel
theorem dX3_swapTopTwo_25 : decode cX3_swapTopTwo 25 = .ok (.aload_n 0, 1) := by decide +kernel
theorem dX3_swapTopTwo_26 : decode cX3_swapTopTwo 26 = .ok (.iload_n 1, 1) := by decide +kernel
theorem dX3_swapTopTwo_27 : decode cX3_swapTopTwo 27 = .ok (.invokevirtual 51, 3) := by decide +kernel
theorem dX3_swapTopTwo_30 : decode cX3_swapTopTwo 30 = .ok (.astore 6, 2) := by decide +kernel
theorem dX3_swapTopTwo_32 : decode cX3_swapTopTwo 32 = .ok (.aload_n 0, 1) := by decide +kernel
theorem dX3_swapTopTwo_33 : decode cX3_swapTopTwo 33 = .ok (.iload_n 1, 1) := by decide +kernel
theorem dX3_swapTopTwo_34 : decode cX3_swapTopTwo 34 = .ok (.invokevirtual 55, 3) := by decide +kernel
theorem dX3_swapTopTwo_37 : decode cX3_swapTopTwo 37 = .ok (.istore 7, 2) := by decide +kernel
theorem dX3_swapTopTwo_39 : decode cX3_swapTopTwo 39 = .ok (.aload_n 0, 1) := by decide +kernel
theorem dX3_swapTopTwo_40 : decode cX3_swapTopTwo 40 = .ok (.iload_n 1, 1) := by decide +kernel
theorem dX3_swapTopTwo_41 : decode cX3_swapTopTwo 41 = .ok (.aload_n 0, 1) := by decide +kernel
theorem dX3_swapTopTwo_42 : decode cX3_swapTopTwo 42 = .ok (.iload_n 2, 1) := by decide +kernel
theorem dX3_swapTopTwo_43 : decode cX3_swapTopTwo 43 = .ok (.invokevirtual 44, 3) := by decide +kernel
theorem dX3_swapTopTwo_46 : decode cX3_swapTopTwo 46 = .ok (.aload_n 0, 1) := by decide +kernel
theorem dX3_swapTopTwo_47 : decode cX3_swapTopTwo 47 = .ok (.iload_n 2, 1) := by decide +kernel
theorem dX3_swapTopTwo_48 : decode cX3_swapTopTwo 48 = .ok (.invokevirtual 48, 3) := by decide +kernel
theorem dX3_swapTopTwo_51 : decode cX3_swapTopTwo 51 = .ok (.aload_n 0, 1) := by decide +kernel
theorem dX3_swapTopTwo_52 : decode cX3_swapTopTwo 52 = .ok (.iload_n 2, 1) := by decide +kernel
theorem dX3_swapTopTwo_53 : decode cX3_swapTopTwo 53 = .ok (.invokevirtual 51, 3) := by decide +kernel
theorem dX3_swapTopTwo_56 : decode cX3_swapTopTwo 56 = .ok (.aload_n 0, 1) := by decide +kernel
theorem dX3_swapTopTwo_57 : decode cX3_swapTopTwo 57 = .ok (.iload_n 2, 1) := by decide +kernel
theorem dX3_swapTopTwo_58 : decode cX3_swapTopTwo 58 = .ok (.invokevirtual 55, 3) := by decide +kernel
theorem dX3_swapTopTwo_61 : decode cX3_swapTopTwo 61 = .ok (.invokevirtual 69, 3) := by decide +kernel
theorem dX3_swapTopTwo_64 : decode cX3_swapTopTwo 64 = .ok (.aload_n 0, 1) := by decide +kernel
theorem dX3_swapTopTwo_65 : decode cX3_swapTopTwo 65 = .ok (.iload_n 2, 1) := by decide +kernel
theorem dX3_swapTopTwo_66 : decode cX3_swapTopTwo 66 = .ok (.lload_n 3, 1) := by decide +kernel
theorem dX3_swapTopTwo_67 : decode cX3_swapTopTwo 67 = .ok (.iload 5, 2) := by decide +kernel
theorem dX3_swapTopTwo_69 : decode cX3_swapTopTwo 69 = .ok (.aload 6, 2) := by decide +kernel
theorem dX3_swapTopTwo_71 : decode cX3_swapTopTwo 71 = .ok (.iload 7, 2) := by decide +kernel
theorem dX3_swapTopTwo_73 : decode cX3_swapTopTwo 73 = .ok (.invokevirtual 69, 3) := by decide +kernel
theorem dX3_swapTopTwo_76 : decode cX3_swapTopTwo 76 = .ok (.return_, 1) := by decide +kernel
theorem dX3_drop_0 : decode cX3_drop 0 = .ok (.aload_n 0, 1) := by decide +kernel
theorem dX3_drop_1 : decode cX3_drop 1 = .ok (.iconst 0, 1) := by decide +kernel
theorem dX3_drop_2 : decode cX3_drop 2 = .ok (.aload_n 0, 1) := by decide +kernel
theorem dX3_drop_3 : decode cX3_drop 3 = .ok (.getfield 28, 3) := by decide +kernel
theorem dX3_drop_6 : decode cX3_drop 6 = .ok (.iload_n 1, 1) := by decide +kernel
theorem dX3_drop_7 : decode cX3_drop 7 = .ok (.isub, 1) := by decide +kernel
theorem dX3_drop_8 : decode cX3_drop 8 = .ok (.invokestatic 73, 3) := by decide +kernel
theorem dX3_drop_11 : decode cX3_drop 11 = .ok (.putfield 28, 3) := by decide +kernel
theorem dX3_drop_14 : decode cX3_drop 14 = .ok (.return_, 1) := by decide +kernel
theorem dX3_clear_0 : decode cX3_clear 0 = .ok (.aload_n 0, 1) := by decide +kernel
theorem dX3_clear_1 : decode cX3_clear 1 = .ok (.iconst 0, 1) := by decide +kernel
theorem dX3_clear_2 : decode cX3_clear 2 = .ok (.putfield 28, 3) := by decide +kernel
theorem dX3_clear_5 : decode cX3_clear 5 = .ok (.return_, 1) := by decide +kernel
set_option maxRecDepth 20000 in
theorem ggX4_init_X3_init : GoodIn wsX4_init wsX3_init := goodIn_r _ [22, 23, 2, 3, 24, 25, 26, 27, 28, 29, 30, 31, 48, 49, 50, 51, 52] (by decide +kernel) (by decide +kernel)
set_option maxRecDepth 20000 in
theorem gX4_init_X3_init : GoodIn wsX4_init (wsX3_init) := ggX4_init_X3_init
set_option maxRecDepth 20000 in
theorem ggX4_init_X1_init : GoodIn wsX4_init wsX1_init := goodIn_r _ [34, 35, 2, 3, 36, 37, 26, 38, 39, 40, 60, 61, 62, 63] (by decide +kernel) (by decide +kernel)
set_option maxRecDepth 20000 in
theorem gX4_init_X1_init : GoodIn wsX4_init (wsX1_init) := ggX4_init_X1_init
set_option maxRecDepth 20000 in
theorem ggX4_init_X2_init : GoodIn wsX4_init wsX2_init := goodIn_r _ [43, 44, 2, 3, 45, 46, 47, 64, 65] (by decide +kernel) (by decide +kernel)
set_option maxRecDepth 20000 in
theorem gX4_init_X2_init : GoodIn wsX4_init (wsX2_init) := ggX4_init_X2_init
theorem dX4_init_0 : decode cX4_init 0 = .ok (.aload_n 0, 1) := by decide +kernel
theorem dX4_init_1 : decode cX4_init 1 = .ok (.invokespecial 1, 3) := by decide +kernel
theorem dX4_init_4 : decode cX4_init 4 = .ok (.aload_n 0, 1) := by decide +kernel
theorem dX4_init_5 : decode cX4_init 5 = .ok (.new 7, 3) := by decide +kernel
theorem dX4_init_8 : decode cX4_init 8 = .ok (.dup, 1) := by decide +kernel
theorem dX4_init_9 : decode cX4_init 9 = .ok (.bipush 40, 2) := by decide +kernel
theorem dX4_init_11 : decode cX4_init 11 = .ok (.invokespecial 11, 3) := by decide +kernel
theorem dX4_init_14 : decode cX4_init 14 = .ok (.putfield 14, 3) := by decide +kernel
theorem dX4_init_17 : decode cX4_init 17 = .ok (.aload_n 0, 1) := by decide +kernel
theorem dX4_init_18 : decode cX4_init 18 = .ok (.iconst 4, 1) := by decide +kernel
theorem dX4_init_19 : decode cX4_init 19 = .ok (.anewarray 7, 3) := by decide +kernel
theorem dX4_init_22 : decode cX4_init 22 = .ok (.putfield 18, 3) := by decide +kernel
theorem dX4_init_25 : decode cX4_init 25 = .ok (.iconst 0, 1) := by decide +kernel
theorem dX4_init_26 : decode cX4_init 26 = .ok (.istore_n 1, 1) := by decide +kernel
theorem dX4_init_27 : decode cX4_init 27 = .ok (.iload_n 1, 1) := by decide +kernel
theorem dX4_init_28 : decode cX4_init 28 = .ok (.aload_n 0, 1) := by decide +kernel
theorem dX4_init_29 : decode cX4_init 29 = .ok (.getfield 18, 3) := by decide +kernel
theorem dX4_init_32 : decode cX4_init 32 = .ok (.arraylength, 1) := by decide +kernel
theorem dX4_init_33 : decode cX4_init 33 = .ok (.if_icmp .ge 24, 3) := by decide +kernel
theorem dX4_init_36 : decode cX4_init 36 = .ok (.aload_n 0, 1) := by decide +kernel
theorem dX4_init_37 : decode cX4_init 37 = .ok (.getfield 18, 3) := by decide +kernel
theorem dX4_init_40 : decode cX4_init 40 = .ok (.iload_n 1, 1) := by decide +kernel
theorem dX4_init_41 : decode cX4_init 41 = .ok (.new 7, 3) := by decide +kernel
theorem dX4_init_44 : decode cX4_init 44 = .ok (.dup, 1) := by decide +kernel
theorem dX4_init_45 : decode cX4_init 45 = .ok (.bipush 10, 2) := by decide +kernel
theorem dX4_init_47 : decode cX4_init 47 = .ok (.invokespecial 11, 3) := by decide +kernel
theorem dX4_init_50 : decode cX4_init 50 = .ok (.aastore, 1) := by decide +kernel
theorem dX4_init_51 : decode cX4_init 51 = .ok (.iinc 1 1, 3) := by decide +kernel
theorem dX4_init_54 : decode cX4_init 54 = .ok (.goto (-27), 3) := by decide +kernel
theorem dX4_init_57 : decode cX4_init 57 = .ok (.aload_n 0, 1) := by decide +kernel
theorem dX4_init_58 : decode cX4_init 58 = .ok (.new 7, 3) := by decide +kernel
theorem dX4_init_61 : decode cX4_init 61 = .ok (.dup, 1) := by decide +kernel
theorem dX4_init_62 : decode cX4_init 62 = .ok (.bipush 40, 2) := by decide +kernel
theorem dX4_init_64 : decode cX4_init 64 = .ok (.invokespecial 11, 3) := by decide +kernel
theorem dX4_init_67 : decode cX4_init 67 = .ok (.putfield 22, 3) := by decide +kernel
theorem dX4_init_70 : decode cX4_init 70 = .ok (.aload_n 0, 1) := by decide +kernel
theorem dX4_init_71 : decode cX4_init 71 = .ok (.new 25, 3) := by decide +kernel
theorem dX4_init_74 : decode cX4_init 74 = .ok (.dup, 1) := by decide +kernel
theorem dX4_init_75 : decode cX4_init 75 = .ok (.invokespecial 27, 3) := by decide +kernel
theorem dX4_init_78 : decode cX4_init 78 = .ok (.putfield 28, 3) := by decide +kernel
theorem dX4_init_81 : decode cX4_init 81 = .ok (.aload_n 0, 1) := by decide +kernel
theorem dX4_init_82 : decode cX4_init 82 = .ok (.new 32, 3) := by decide +kernel
theorem dX4_init_85 : decode cX4_init 85 = .ok (.dup, 1) := by decide +kernel
theorem dX4_init_86 : decode cX4_init 86 = .ok (.invokespecial 34, 3) := by decide +kernel
theorem dX4_init_89 : decode cX4_init 89 = .ok (.putfield 35, 3) := by decide +kernel
theorem dX4_init_92 : decode cX4_init 92 = .ok (.aload_n 0, 1) := by decide +kernel
theorem dX4_init_93 : decode cX4_init 93 = .ok (.iconst 0, 1) := by decide +kernel
theorem dX4_init_94 : decode cX4_init 94 = .ok (.putfield 39, 3) := by decide +kernel
theorem dX4_init_97 : decode cX4_init 97 = .ok (.aload_n 0, 1) := by decide +kernel
theorem dX4_init_98 : decode cX4_init 98 = .ok (.iconst 0, 1) := by decide +kernel
theorem dX4_init_99 : decode cX4_init 99 = .ok (.putfield 43, 3) := by decide +kernel
theorem dX4_init_102 : decode cX4_init 102 = .ok (.return_, 1) := by decide +kernel
set_option maxRecDepth 20000 in
theorem ggX4_write_X4_charOf : GoodIn wsX4_write wsX4_charOf := goodIn_r _ [6] (by decide +kernel) (by decide +kernel)
set_option maxRecDepth 20000 in
theorem gX4_write_X4_charOf : GoodIn wsX4_write (va_wsS RX4 46 yX4_charOf wsX4_charOf) := goodIn_app (goodIn_of _ (by decide +kernel)) ggX4_write_X4_charOf
set_option maxRecDepth 20000 in
theorem ggX4_write_X2_append : GoodIn wsX4_write wsX2_append := goodIn_r _ [11, 12, 13, 21, 22] (by decide +kernel) (by decide +kernel)
set_option maxRecDepth 20000 in
theorem gX4_write_X2_append : GoodIn wsX4_write (wsV RX4 53 RX2 yX2_append wsX2_append) := goodIn_app (goodIn_of _ (by decide +kernel)) ggX4_write_X2_append
theorem dX4_write_0 : decode cX4_write 0 = .ok (.iconst 0, 1) := by decide +kernel
theorem dX4_write_1 : decode cX4_write 1 = .ok (.istore_n 3, 1) := by decide +kernel
theorem dX4_write_2 : decode cX4_write 2 = .ok (.iload_n 3, 1) := by decide +kernel
theorem dX4_write_3 : decode cX4_write 3 = .ok (.bipush 8, 2) := by decide +kernel
theorem dX4_write_5 : decode cX4_write 5 = .ok (.if_icmp .ge 29, 3) := by decide +kernel
theorem dX4_write_8 : decode cX4_write 8 = .ok (.lload_n 1, 1) := by decide +kernel
theorem dX4_write_9 : decode cX4_write 9 = .ok (.iload_n 3, 1) := by decide +kernel
theorem dX4_write_10 : decode cX4_write 10 = .ok (.invokestatic 46, 3) := by decide +kernel
theorem dX4_write_13 : decode cX4_write 13 = .ok (.ifCond .eq 21, 3) := by decide +kernel
theorem dX4_write_16 : decode cX4_write 16 = .ok (.lload_n 1, 1) := by decide +kernel
theorem dX4_write_17 : decode cX4_write 17 = .ok (.iload_n 3, 1) := by decide +kernel
theorem dX4_write_18 : decode cX4_write 18 = .ok (.invokestatic 46, 3) := by decide +kernel
theorem dX4_write_21 : decode cX4_write 21 = .ok (.bipush 127, 2) := by decide +kernel
theorem dX4_write_23 : decode cX4_write 23 = .ok (.if_icmp .le 5, 3) := by decide +kernel
theorem dX4_write_26 : decode cX4_write 26 = .ok (.iconst (-1), 1) := by decide +kernel
theorem dX4_write_27 : decode cX4_write 27 = .ok (.ireturn, 1) := by decide +kernel
theorem dX4_write_28 : decode cX4_write 28 = .ok (.iinc 3 1, 3) := by decide +kernel
theorem dX4_write_31 : decode cX4_write 31 = .ok (.goto (-29), 3) := by decide +kernel
theorem dX4_write_34 : decode cX4_write 34 = .ok (.aload_n 0, 1) := by decide +kernel
theorem dX4_write_35 : decode cX4_write 35 = .ok (.getfield 35, 3) := by decide +kernel
theorem dX4_write_38 : decode cX4_write 38 = .ok (.getfield 50, 3) := by decide +kernel
theorem dX4_write_41 : decode cX4_write 41 = .ok (.iload_n 3, 1) := by decide +kernel
theorem dX4_write_42 : decode cX4_write 42 = .ok (.iadd, 1) := by decide +kernel
theorem dX4_write_43 : decode cX4_write 43 = .ok (.sipush 160, 3) := by decide +kernel
theorem dX4_write_46 : decode cX4_write 46 = .ok (.if_icmp .le 5, 3) := by decide +kernel
theorem dX4_write_49 : decode cX4_write 49 = .ok (.iconst (-1), 1) := by decide +kernel
theorem dX4_write_50 : decode cX4_write 50 = .ok (.ireturn, 1) := by decide +kernel
theorem dX4_write_51 : decode cX4_write 51 = .ok (.iconst 0, 1) := by decide +kernel
theorem dX4_write_52 : decode cX4_write 52 = .ok (.istore 4, 2) := by decide +kernel
theorem dX4_write_54 : decode cX4_write 54 = .ok (.iload 4, 2) := by decide +kernel
theorem dX4_write_56 : decode cX4_write 56 = .ok (.iload_n 3, 1) := by decide +kernel
theorem dX4_write_57 : decode cX4_write 57 = .ok (.if_icmp .ge 22, 3) := by decide +kernel
theorem dX4_write_60 : decode cX4_write 60 = .ok (.aload_n 0, 1) := by decide +kernel
theorem dX4_write_61 : decode cX4_write 61 = .ok (.getfield 35, 3) := by decide +kernel
theorem dX4_write_64 : decode cX4_write 64 = .ok (.lload_n 1, 1) := by decide +kernel
theorem dX4_write_65 : decode cX4_write 65 = .ok (.iload 4, 2) := by decide +kernel
theorem dX4_write_67 : decode cX4_write 67 = .ok (.invokestatic 46, 3) := by decide +kernel
theorem dX4_write_70 : decode cX4_write 70 = .ok (.invokevirtual 53, 3) := by decide +kernel
theorem dX4_write_73 : decode cX4_write 73 = .ok (.iinc 4 1, 3) := by decide +kernel
theorem dX4_write_76 : decode cX4_write 76 = .ok (.goto (-22), 3) := by decide +kernel
theorem dX4_write_79 : decode cX4_write 79 = .ok (.iload_n 3, 1) := by decide +kernel
theorem dX4_write_80 : decode cX4_write 80 = .ok (.ireturn, 1) := by decide +kernel
set_option maxRecDepth 20000 in
theorem ggX4_erase_X2_init : GoodIn wsX4_erase wsX2_init := goodIn_r _ [8, 9, 10, 11, 12, 13, 14, 22, 23] (by decide +kernel) (by decide +kernel)
set_option maxRecDepth 20000 in
theorem gX4_erase_X2_init : GoodIn wsX4_erase (wsX2_init) := ggX4_erase_X2_init
theorem dX4_erase_0 : decode cX4_erase 0 = .ok (.aload_n 0, 1) := by decide +kernel
theorem dX4_erase_1 : decode cX4_erase 1 = .ok (.getfield 35, 3) := by decide +kernel
theorem dX4_erase_4 : decode cX4_erase 4 = .ok (.getfield 50, 3) := by decide +kernel
theorem dX4_erase_7 : decode cX4_erase 7 = .ok (.istore_n 1, 1) := by decide +kernel
theorem dX4_erase_8 : decode cX4_erase 8 = .ok (.iload_n 1, 1) := by decide +kernel
theorem dX4_erase_9 : decode cX4_erase 9 = .ok (.ifCond .le 14, 3) := by decide +kernel
theorem dX4_erase_12 : decode cX4_erase 12 = .ok (.aload_n 0, 1) := by decide +kernel
theorem dX4_erase_13 : decode cX4_erase 13 = .ok (.new 32, 3) := by decide +kernel
theorem dX4_erase_16 : decode cX4_erase 16 = .ok (.dup, 1) := by decide +kernel
theorem dX4_erase_17 : decode cX4_erase 17 = .ok (.invokespecial 34, 3) := by decide +kernel
theorem dX4_erase_20 : decode cX4_erase 20 = .ok (.putfield 35, 3) := by decide +kernel
theorem dX4_erase_23 : decode cX4_erase 23 = .ok (.iload_n 1, 1) := by decide +kernel
theorem dX4_erase_24 : decode cX4_erase 24 = .ok (.ireturn, 1) := by decide +kernel
set_option maxRecDepth 20000 in
theorem ggX4_run_X3_clear : GoodIn wsX4_run wsX3_clear := goodIn_r _ [16, 17, 293, 294, 295, 296, 297] (by decide +kernel) (by decide +kernel)
set_option maxRecDepth 20000 in
theorem gX4_run_X3_clear : GoodIn wsX4_run (wsV RX4 63 RX3 yX3_clear wsX3_clear) := goodIn_app (goodIn_of _ (by decide +kernel)) ggX4_run_X3_clear
set_option maxRecDepth 20000 in
theorem ggX4_run_X1_leaveAll : GoodIn wsX4_run wsX1_leaveAll := goodIn_r _ [22, 23, 289, 290, 291, 292] (by decide +kernel) (by decide +kernel)
set_option maxRecDepth 20000 in
theorem gX4_run_X1_leaveAll : GoodIn wsX4_run (wsV RX4 66 RX1 yX1_leaveAll wsX1_leaveAll) := goodIn_app (goodIn_of _ (by decide +kernel)) ggX4_run_X1_leaveAll
set_option maxRecDepth 20000 in
theorem ggX4_run_X1_enter : GoodIn wsX4_run wsX1_enter := goodIn_ca (goodIn_r _ [27, 28, 4, 23, 29, 30, 31, 289, 290, 291, 292] (by decide +kernel) (by decide +kernel)) (goodIn_sub (fun _ h => List.mem_cons_of_mem _ (List.mem_append_left _ (List.mem_append_left _ (List.mem_append_left _ (List.mem_append_left _ (List.mem_append_left _ (List.mem_append_right _ h))))))) (by decide +kernel))
set_option maxRecDepth 20000 in
theorem gX4_run_X1_enter : GoodIn wsX4_run (wsV RX4 69 RX1 yX1_enter wsX1_enter) := goodIn_app (goodIn_of _ (by decide +kernel)) ggX4_run_X1_enter
set_option maxRecDepth 20000 in
theorem ggX4_run_X1_skipBlanks : GoodIn wsX4_run wsX1_skipBlanks := goodIn_r _ [35, 36, 37, 38, 21, 39, 30, 23, 31, 29, 40, 41, 42, 43, 44, 45, 46, 47, 48, 49, 50, 51, 52, 53, 54, 289, 290, 291, 292, 287, 288] (by decide +kernel) (by decide +kernel)
set_option maxRecDepth 20000 in
theorem gX4_run_X1_skipBlanks : GoodIn wsX4_run (wsV RX4 77 RX1 yX1_skipBlanks wsX1_skipBlanks) := goodIn_app (goodIn_of _ (by decide +kernel)) ggX4_run_X1_skipBlanks
set_option maxRecDepth 20000 in
theorem ggX4_run_X1_look : GoodIn wsX4_run wsX1_look := goodIn_r _ [39, 30, 23, 31, 29, 40, 41, 42, 21, 43, 44, 45, 46, 47, 48, 49, 50, 289, 290, 291, 292, 287, 288] (by decide +kernel) (by decide +kernel)
set_option maxRecDepth 20000 in
theorem gX4_run_X1_look : GoodIn wsX4_run (wsV RX4 80 RX1 yX1_look wsX1_look) := goodIn_app (goodIn_of _ (by decide +kernel)) ggX4_run_X1_look
set_option maxRecDepth 20000 in
theorem ggX4_run_X1_leave : GoodIn wsX4_run wsX1_leave := goodIn_r _ [59, 23, 60, 61, 62, 63, 289, 290, 291, 292] (by decide +kernel) (by decide +kernel)
set_option maxRecDepth 20000 in
theorem gX4_run_X1_leave : GoodIn wsX4_run (wsV RX4 84 RX1 yX1_leave wsX1_leave) := goodIn_app (goodIn_of _ (by decide +kernel)) ggX4_run_X1_leave
set_option maxRecDepth 20000 in
theorem ggX4_run_X4_doCommand : GoodIn wsX4_run wsX4_doCommand := goodIn_ca (goodIn_ca (goodIn_ca (goodIn_ca (goodIn_ca (goodIn_ca (goodIn_ca (goodIn_r _ [68, 7, 55, 37, 38, 21, 39, 30, 23, 31, 29, 40, 41, 42, 43, 44, 45, 46, 47, 48, 49, 50, 69, 70, 67, 71, 72, 73, 74, 75, 76, 77, 78, 1, 2, 79, 80, 81, 52, 53, 54, 82, 83, 84, 15, 85, 86, 87, 88, 89, 90, 4, 17, 91, 92, 93, 94, 95, 96, 97, 98, 99, 100, 101, 102, 103, 104, 105, 106, 107, 108, 109, 110, 111, 112, 113, 114, 115, 116, 117, 118, 119, 120, 121, 122, 123, 124, 125, 126, 127, 61, 62, 63, 128, 129, 130, 131, 132, 133, 134, 135, 136, 137, 138, 139, 140, 141, 142, 143, 144, 145, 146, 147, 148, 149, 150, 151, 152, 153, 154, 155, 156, 157, 158, 159, 160, 161, 162, 163, 164, 165, 166, 167, 168, 169, 170, 171, 172, 173, 174, 175, 176, 177, 178, 179, 180, 181, 182, 183, 184, 185, 186, 187, 188, 189, 190, 191, 192, 193, 194, 195, 196, 197, 198, 199, 200, 201, 202, 203, 204, 205, 206, 207, 208, 209, 210, 211, 212, 213, 214, 215, 216, 217, 218, 219, 220, 221, 222, 223, 224, 225, 226, 227, 228, 229, 230, 231, 232, 233, 234, 235, 236, 237, 238, 239, 240, 241, 242, 243, 244, 245, 246, 247, 248, 249, 250, 251, 252, 253, 254, 255, 256, 257, 258, 259, 260, 261, 262, 263, 264, 33, 34, 35, 36, 51, 265, 57, 58, 59, 60, 266, 25, 26, 27, 28, 267, 268, 269, 270, 18, 19, 20, 22, 271, 272, 273, 274, 5, 275, 276, 277, 278, 12, 13, 14, 16, 279, 280, 281, 282, 283, 284, 285, 286, 289, 290, 291, 292, 287, 288, 293, 294, 295, 296, 297] (by decide +kernel) (by decide +kernel)) (goodIn_sub (fun _ h => List.mem_cons_of_mem _ (List.mem_append_left _ (List.mem_append_left _ (List.mem_append_left _ (List.mem_append_left _ (List.mem_append_left _ (List.mem_append_left _ (List.mem_append_left _ (List.mem_append_right _ h))))))))) (by decide +kernel))) (goodIn_sub (fun _ h => List.mem_cons_of_mem _ (List.mem_append_left _ (List.mem_append_left _ (List.mem_append_left _ (List.mem_append_left _ (List.mem_append_right _ h)))))) (by decide +kernel))) (goodIn_sub (fun _ h => List.mem_cons_of_mem _ (List.mem_append_left _ (List.mem_append_left _ (List.mem_append_left _ (List.mem_append_right _ h))))) (by decide +kernel))) (goodIn_sub (fun _ h => List.mem_cons_of_mem _ (List.mem_append_left _ (List.mem_append_left _ (List.mem_append_right _ h)))) (by decide +kernel))) (goodIn_sub (fun _ h => List.mem_cons_of_mem _ (List.mem_append_left _ (List.mem_append_right _ h))) (by decide +kernel))) (goodIn_sub (fun _ h => List.mem_cons_of_mem _ (List.mem_append_right _ h)) (by decide +kernel))) (goodIn_sub (fun _ h => List.mem_cons_of_mem _ (List.mem_append_left _ (List.mem_append_left _ (List.mem_append_left _ (List.mem_append_left _ (List.mem_append_left _ (List.mem_append_right _ h))))))) (by decide +kernel))
set_option maxRecDepth 20000 in
theorem gX4_run_X4_doCommand : GoodIn wsX4_run (wsV RX4 92 RX4 yX4_doCommand wsX4_doCommand) := goodIn_app (goodIn_of _ (by decide +kernel)) ggX4_run_X4_doCommand
theorem dX4_run_0 : decode cX4_run 0 = .ok (.iload_n 1, 1) := by decide +kernel
theorem dX4_run_1 : decode cX4_run 1 = .ok (.ifCond .lt 10, 3) := by decide +kernel
theorem dX4_run_4 : decode cX4_run 4 = .ok (.iload_n 1, 1) := by decide +kernel
theorem dX4_run_5 : decode cX4_run 5 = .ok (.sipush 500, 3) := by decide +kernel
theorem dX4_run_8 : decode cX4_run 8 = .ok (.if_icmp .le 13, 3) := by decide +kernel
theorem dX4_run_11 : decode cX4_run 11 = .ok (.new 56, 3) := by decide +kernel
theorem dX4_run_14 : decode cX4_run 14 = .ok (.dup, 1) := by decide +kernel
theorem dX4_run_15 : decode cX4_run 15 = .ok (.ldc 58, 2) := by decide +kernel
theorem dX4_run_17 : decode cX4_run 17 = .ok (.invokespecial 60, 3) := by decide +kernel
theorem dX4_run_20 : decode cX4_run 20 = .ok (.athrow, 1) := by decide +kernel
theorem dX4_run_21 : decode cX4_run 21 = .ok (.aload_n 0, 1) := by decide +kernel
theorem dX4_run_22 : decode cX4_run 22 = .ok (.getfield 22, 3) := by decide +kernel
theorem dX4_run_25 : decode cX4_run 25 = .ok (.invokevirtual 63, 3) := by decide +kernel
theorem dX4_run_28 : decode cX4_run 28 = .ok (.aload_n 0, 1) := by decide +kernel
theorem dX4_run_29 : decode cX4_run 29 = .ok (.iconst 0, 1) := by decide +kernel
theorem dX4_run_30 : decode cX4_run 30 = .ok (.putfield 43, 3) := by decide +kernel
theorem dX4_run_33 : decode cX4_run 33 = .ok (.aload_n 0, 1) := by decide +kernel
theorem dX4_run_34 : decode cX4_run 34 = .ok (.getfield 28, 3) := by decide +kernel
theorem dX4_run_37 : decode cX4_run 37 = .ok (.invokevirtual 66, 3) := by decide +kernel
theorem dX4_run_40 : decode cX4_run 40 = .ok (.aload_n 0, 1) := by decide +kernel
theorem dX4_run_41 : decode cX4_run 41 = .ok (.getfield 28, 3) := by decide +kernel
theorem dX4_run_44 : decode cX4_run 44 = .ok (.aload_n 0, 1) := by decide +kernel
theorem dX4_run_45 : decode cX4_run 45 = .ok (.getfield 35, 3) := by decide +kernel
theorem dX4_run_48 : decode cX4_run 48 = .ok (.iconst 0, 1) := by decide +kernel
theorem dX4_run_49 : decode cX4_run 49 = .ok (.aload_n 0, 1) := by decide +kernel
theorem dX4_run_50 : decode cX4_run 50 = .ok (.getfield 35, 3) := by decide +kernel
theorem dX4_run_53 : decode cX4_run 53 = .ok (.getfield 50, 3) := by decide +kernel
theorem dX4_run_56 : decode cX4_run 56 = .ok (.invokevirtual 69, 3) := by decide +kernel
theorem dX4_run_59 : decode cX4_run 59 = .ok (.iconst 0, 1) := by decide +kernel
theorem dX4_run_60 : decode cX4_run 60 = .ok (.istore_n 2, 1) := by decide +kernel
theorem dX4_run_61 : decode cX4_run 61 = .ok (.iload_n 2, 1) := by decide +kernel
theorem dX4_run_62 : decode cX4_run 62 = .ok (.ldc 73, 2) := by decide +kernel
theorem dX4_run_64 : decode cX4_run 64 = .ok (.if_icmp .ge 78, 3) := by decide +kernel
theorem dX4_run_67 : decode cX4_run 67 = .ok (.aload_n 0, 1) := by decide +kernel
theorem dX4_run_68 : decode cX4_run 68 = .ok (.getfield 28, 3) := by decide +kernel
theorem dX4_run_71 : decode cX4_run 71 = .ok (.getfield 74, 3) := by decide +kernel
theorem dX4_run_74 : decode cX4_run 74 = .ok (.ifCond .le 68, 3) := by decide +kernel
theorem dX4_run_77 : decode cX4_run 77 = .ok (.aload_n 0, 1) := by decide +kernel
theorem dX4_run_78 : decode cX4_run 78 = .ok (.getfield 28, 3) := by decide +kernel
theorem dX4_run_81 : decode cX4_run 81 = .ok (.invokevirtual 77, 3) := by decide +kernel
theorem dX4_run_84 : decode cX4_run 84 = .ok (.aload_n 0, 1) := by decide +kernel
theorem dX4_run_85 : decode cX4_run 85 = .ok (.getfield 28, 3) := by decide +kernel
theorem dX4_run_88 : decode cX4_run 88 = .ok (.invokevirtual 80, 3) := by decide +kernel
theorem dX4_run_91 : decode cX4_run 91 = .ok (.ifCond .ne 13, 3) := by decide +kernel
theorem dX4_run_94 : decode cX4_run 94 = .ok (.aload_n 0, 1) := by decide +kernel
theorem dX4_run_95 : decode cX4_run 95 = .ok (.getfield 28, 3) := by decide +kernel
theorem dX4_run_98 : decode cX4_run 98 = .ok (.invokevirtual 84, 3) := by decide +kernel
theorem dX4_run_101 : decode cX4_run 101 = .ok (.goto 35, 3) := by decide +kernel
theorem dX4_run_104 : decode cX4_run 104 = .ok (.aload_n 0, 1) := by decide +kernel
theorem dX4_run_105 : decode cX4_run 105 = .ok (.getfield 43, 3) := by decide +kernel
theorem dX4_run_108 : decode cX4_run 108 = .ok (.iload_n 1, 1) := by decide +kernel
theorem dX4_run_109 : decode cX4_run 109 = .ok (.if_icmp .lt 13, 3) := by decide +kernel
theorem dX4_run_112 : decode cX4_run 112 = .ok (.new 87, 3) := by decide +kernel
theorem dX4_run_115 : decode cX4_run 115 = .ok (.dup, 1) := by decide +kernel
theorem dX4_run_116 : decode cX4_run 116 = .ok (.ldc 89, 2) := by decide +kernel
theorem dX4_run_118 : decode cX4_run 118 = .ok (.invokespecial 91, 3) := by decide +kernel
theorem dX4_run_121 : decode cX4_run 121 = .ok (.athrow, 1) := by decide +kernel
theorem dX4_run_122 : decode cX4_run 122 = .ok (.aload_n 0, 1) := by decide +kernel
theorem dX4_run_123 : decode cX4_run 123 = .ok (.invokevirtual 92, 3) := by decide +kernel
theorem dX4_run_126 : decode cX4_run 126 = .ok (.aload_n 0, 1) := by decide +kernel
theorem dX4_run_127 : decode cX4_run 127 = .ok (.dup, 1) := by decide +kernel
theorem dX4_run_128 : decode cX4_run 128 = .ok (.getfield 43, 3) := by decide +kernel
theorem dX4_run_131 : decode cX4_run 131 = .ok (.iconst 1, 1) := by decide +kernel
theorem dX4_run_132 : decode cX4_run 132 = .ok (.iadd, 1) := by decide +kernel
theorem dX4_run_133 : decode cX4_run 133 = .ok (.putfield 43, 3) := by decide +kernel
theorem dX4_run_136 : decode cX4_run 136 = .ok (.iinc 2 1, 3) := by decide +kernel
theorem dX4_run_139 : decode cX4_run 139 = .ok (.goto (-78), 3) := by decide +kernel
theorem dX4_run_142 : decode cX4_run 142 = .ok (.aload_n 0, 1) := by decide +kernel
theorem dX4_run_143 : decode cX4_run 143 = .ok (.getfield 43, 3) := by decide +kernel
theorem dX4_run_146 : decode cX4_run 146 = .ok (.ireturn, 1) := by decide +kernel
theorem dX4_cost_0 : decode cX4_cost 0 = .ok (.aload_n 0, 1) := by decide +kernel
theorem dX4_cost_1 : decode cX4_cost 1 = .ok (.getfield 43, 3) := by decide +kernel
theorem dX4_cost_4 : decode cX4_cost 4 = .ok (.ireturn, 1) := by decide +kernel
theorem dX4_prints_0 : decode cX4_prints 0 = .ok (.aload_n 0, 1) := by decide +kernel
theorem dX4_prints_1 : decode cX4_prints 1 = .ok (.getfield 22, 3) := by decide +kernel
theorem dX4_prints_4 : decode cX4_prints 4 = .ok (.getfield 95, 3) := by decide +kernel
theorem dX4_prints_7 : decode cX4_prints 7 = .ok (.ireturn, 1) := by decide +kernel
set_option maxRecDepth 20000 in
theorem ggX4_printed_X3_valueAt : GoodIn wsX4_printed wsX3_valueAt := goodIn_r _ [6, 7, 8, 9, 10, 5, 11, 12, 20, 21, 22, 23, 24] (by decide +kernel) (by decide +kernel)
set_option maxRecDepth 20000 in
theorem gX4_printed_X3_valueAt : GoodIn wsX4_printed (wsV RX4 96 RX3 yX3_valueAt wsX3_valueAt) := goodIn_app (goodIn_of _ (by decide +kernel)) ggX4_printed_X3_valueAt
theorem dX4_printed_0 : decode cX4_printed 0 = .ok (.aload_n 0, 1) := by decide +kernel
theorem dX4_printed_1 : decode cX4_printed 1 = .ok (.getfield 22, 3) := by decide +kernel
theorem dX4_printed_4 : decode cX4_printed 4 = .ok (.iload_n 1, 1) := by decide +kernel
theorem dX4_printed_5 : decode cX4_printed 5 = .ok (.invokevirtual 96, 3) := by decide +kernel
theorem dX4_printed_8 : decode cX4_printed 8 = .ok (.lreturn, 1) := by decide +kernel
set_option maxRecDepth 20000 in
theorem ggX4_places_X3_placesAt : GoodIn wsX4_places wsX3_placesAt := goodIn_r _ [6, 7, 8, 9, 10, 5, 11, 12, 13, 21, 22, 23, 24, 25] (by decide +kernel) (by decide +kernel)
set_option maxRecDepth 20000 in
theorem gX4_places_X3_placesAt : GoodIn wsX4_places (wsV RX4 100 RX3 yX3_placesAt wsX3_placesAt) := goodIn_app (goodIn_of _ (by decide +kernel)) ggX4_places_X3_placesAt
theorem dX4_places_0 : decode cX4_places 0 = .ok (.aload_n 0, 1) := by decide +kernel
theorem dX4_places_1 : decode cX4_places 1 = .ok (.getfield 22, 3) := by decide +kernel
theorem dX4_places_4 : decode cX4_places 4 = .ok (.iload_n 1, 1) := by decide +kernel
theorem dX4_places_5 : decode cX4_places 5 = .ok (.invokevirtual 100, 3) := by decide +kernel
theorem dX4_places_8 : decode cX4_places 8 = .ok (.ireturn, 1) := by decide +kernel
theorem dX4_depth_0 : decode cX4_depth 0 = .ok (.aload_n 0, 1) := by decide +kernel
theorem dX4_depth_1 : decode cX4_depth 1 = .ok (.getfield 14, 3) := by decide +kernel
theorem dX4_depth_4 : decode cX4_depth 4 = .ok (.getfield 95, 3) := by decide +kernel
theorem dX4_depth_7 : decode cX4_depth 7 = .ok (.ireturn, 1) := by decide +kernel
set_option maxRecDepth 20000 in
theorem ggX4_item_X3_slotBelowTop : GoodIn wsX4_item wsX3_slotBelowTop := goodIn_r _ [6, 7, 24, 25, 26, 27, 28] (by decide +kernel) (by decide +kernel)
set_option maxRecDepth 20000 in
theorem gX4_item_X3_slotBelowTop : GoodIn wsX4_item (wsV RX4 104 RX3 yX3_slotBelowTop wsX3_slotBelowTop) := goodIn_app (goodIn_of _ (by decide +kernel)) ggX4_item_X3_slotBelowTop
set_option maxRecDepth 20000 in
theorem ggX4_item_X3_valueAt : GoodIn wsX4_item wsX3_valueAt := goodIn_r _ [11, 12, 13, 14, 15, 5, 16, 7, 24, 25, 26, 27, 28] (by decide +kernel) (by decide +kernel)
set_option maxRecDepth 20000 in
theorem gX4_item_X3_valueAt : GoodIn wsX4_item (wsV RX4 96 RX3 yX3_valueAt wsX3_valueAt) := goodIn_app (goodIn_of _ (by decide +kernel)) ggX4_item_X3_valueAt
theorem dX4_item_0 : decode cX4_item 0 = .ok (.aload_n 0, 1) := by decide +kernel
theorem dX4_item_1 : decode cX4_item 1 = .ok (.getfield 14, 3) := by decide +kernel
theorem dX4_item_4 : decode cX4_item 4 = .ok (.aload_n 0, 1) := by decide +kernel
theorem dX4_item_5 : decode cX4_item 5 = .ok (.getfield 14, 3) := by decide +kernel
theorem dX4_item_8 : decode cX4_item 8 = .ok (.iload_n 1, 1) := by decide +kernel
theorem dX4_item_9 : decode cX4_item 9 = .ok (.invokevirtual 104, 3) := by decide +kernel
theorem dX4_item_12 : decode cX4_item 12 = .ok (.invokevirtual 96, 3) := by decide +kernel
theorem dX4_item_15 : decode cX4_item 15 = .ok (.lreturn, 1) := by decide +kernel
set_option maxRecDepth 20000 in
theorem ggX4_scale_X3_slotBelowTop : GoodIn wsX4_scale wsX3_slotBelowTop := goodIn_r _ [6, 7, 25, 26, 27, 28, 29] (by decide +kernel) (by decide +kernel)
set_option maxRecDepth 20000 in
theorem gX4_scale_X3_slotBelowTop : GoodIn wsX4_scale (wsV RX4 104 RX3 yX3_slotBelowTop wsX3_slotBelowTop) := goodIn_app (goodIn_of _ (by decide +kernel)) ggX4_scale_X3_slotBelowTop
set_option maxRecDepth 20000 in
theorem ggX4_scale_X3_placesAt : GoodIn wsX4_scale wsX3_placesAt := goodIn_r _ [11, 12, 13, 14, 15, 5, 16, 7, 17, 25, 26, 27, 28, 29] (by decide +kernel) (by decide +kernel)
set_option maxRecDepth 20000 in
theorem gX4_scale_X3_placesAt : GoodIn wsX4_scale (wsV RX4 100 RX3 yX3_placesAt wsX3_placesAt) := goodIn_app (goodIn_of _ (by decide +kernel)) ggX4_scale_X3_placesAt
theorem dX4_scale_0 : decode cX4_scale 0 = .ok (.aload_n 0, 1) := by decide +kernel
theorem dX4_scale_1 : decode cX4_scale 1 = .ok (.getfield 14, 3) := by decide +kernel
theorem dX4_scale_4 : decode cX4_scale 4 = .ok (.aload_n 0, 1) := by decide +kernel
theorem dX4_scale_5 : decode cX4_scale 5 = .ok (.getfield 14, 3) := by decide +kernel
theorem dX4_scale_8 : decode cX4_scale 8 = .ok (.iload_n 1, 1) := by decide +kernel
theorem dX4_scale_9 : decode cX4_scale 9 = .ok (.invokevirtual 104, 3) := by decide +kernel
theorem dX4_scale_12 : decode cX4_scale 12 = .ok (.invokevirtual 100, 3) := by decide +kernel
theorem dX4_scale_15 : decode cX4_scale 15 = .ok (.ireturn, 1) := by decide +kernel
set_option maxRecDepth 20000 in
theorem ggX4_held_X4_registerNumbered : GoodIn wsX4_held wsX4_registerNumbered := goodIn_r _ [6, 7, 13, 14, 15, 16, 17, 18, 19] (by decide +kernel) (by decide +kernel)
set_option maxRecDepth 20000 in
theorem gX4_held_X4_registerNumbered : GoodIn wsX4_held (wsV RX4 107 RX4 yX4_registerNumbered wsX4_registerNumbered) := goodIn_app (goodIn_of _ (by decide +kernel)) ggX4_held_X4_registerNumbered
theorem dX4_held_0 : decode cX4_held 0 = .ok (.aload_n 0, 1) := by decide +kernel
theorem dX4_held_1 : decode cX4_held 1 = .ok (.iload_n 1, 1) := by decide +kernel
theorem dX4_held_2 : decode cX4_held 2 = .ok (.invokevirtual 107, 3) := by decide +kernel
theorem dX4_held_5 : decode cX4_held 5 = .ok (.astore_n 2, 1) := by decide +kernel
theorem dX4_held_6 : decode cX4_held 6 = .ok (.aload_n 2, 1) := by decide +kernel
theorem dX4_held_7 : decode cX4_held 7 = .ok (.ifnonnull 7, 3) := by decide +kernel
theorem dX4_held_10 : decode cX4_held 10 = .ok (.iconst (-1), 1) := by decide +kernel
theorem dX4_held_11 : decode cX4_held 11 = .ok (.goto 7, 3) := by decide +kernel
theorem dX4_held_14 : decode cX4_held 14 = .ok (.aload_n 2, 1) := by decide +kernel
theorem dX4_held_15 : decode cX4_held 15 = .ok (.getfield 95, 3) := by decide +kernel
theorem dX4_held_18 : decode cX4_held 18 = .ok (.ireturn, 1) := by decide +kernel
theorem dX4_precision_0 : decode cX4_precision 0 = .ok (.aload_n 0, 1) := by decide +kernel
theorem dX4_precision_1 : decode cX4_precision 1 = .ok (.getfield 39, 3) := by decide +kernel
theorem dX4_precision_4 : decode cX4_precision 4 = .ok (.ireturn, 1) := by decide +kernel
set_option maxRecDepth 20000 in
theorem ggX4_reset_X3_clear : GoodIn wsX4_reset wsX3_clear := goodIn_r _ [8, 9, 23, 24, 25, 26, 27] (by decide +kernel) (by decide +kernel)
set_option maxRecDepth 20000 in
theorem gX4_reset_X3_clear : GoodIn wsX4_reset (wsV RX4 63 RX3 yX3_clear wsX3_clear) := goodIn_app (goodIn_of _ (by decide +kernel)) ggX4_reset_X3_clear
set_option maxRecDepth 20000 in
theorem ggX4_reset_X4_registerNumbered : GoodIn wsX4_reset wsX4_registerNumbered := goodIn_r _ [14, 15, 16, 17, 18, 19, 20, 21, 22] (by decide +kernel) (by decide +kernel)
set_option maxRecDepth 20000 in
theorem gX4_reset_X4_registerNumbered : GoodIn wsX4_reset (wsV RX4 107 RX4 yX4_registerNumbered wsX4_registerNumbered) := goodIn_app (goodIn_of _ (by decide +kernel)) ggX4_reset_X4_registerNumbered
theorem dX4_reset_0 : decode cX4_reset 0 = .ok (.aload_n 0, 1) := by decide +kernel
theorem dX4_reset_1 : decode cX4_reset 1 = .ok (.getfield 14, 3) := by decide +kernel
theorem dX4_reset_4 : decode cX4_reset 4 = .ok (.invokevirtual 63, 3) := by decide +kernel
theorem dX4_reset_7 : decode cX4_reset 7 = .ok (.iconst 0, 1) := by decide +kernel
theorem dX4_reset_8 : decode cX4_reset 8 = .ok (.istore_n 1, 1) := by decide +kernel
theorem dX4_reset_9 : decode cX4_reset 9 = .ok (.iload_n 1, 1) := by decide +kernel
theorem dX4_reset_10 : decode cX4_reset 10 = .ok (.iconst 4, 1) := by decide +kernel
theorem dX4_reset_11 : decode cX4_reset 11 = .ok (.if_icmp .ge 23, 3) := by decide +kernel
theorem dX4_reset_14 : decode cX4_reset 14 = .ok (.aload_n 0, 1) := by decide +kernel
theorem dX4_reset_15 : decode cX4_reset 15 = .ok (.iload_n 1, 1) := by decide +kernel
theorem dX4_reset_16 : decode cX4_reset 16 = .ok (.invokevirtual 107, 3) := by decide +kernel
theorem dX4_reset_19 : decode cX4_reset 19 = .ok (.astore_n 2, 1) := by decide +kernel
theorem dX4_reset_20 : decode cX4_reset 20 = .ok (.aload_n 2, 1) := by decide +kernel
theorem dX4_reset_21 : decode cX4_reset 21 = .ok (.ifnull 7, 3) := by decide +kernel
theorem dX4_reset_24 : decode cX4_reset 24 = .ok (.aload_n 2, 1) := by decide +kernel
theorem dX4_reset_25 : decode cX4_reset 25 = .ok (.invokevirtual 63, 3) := by decide +kernel
theorem dX4_reset_28 : decode cX4_reset 28 = .ok (.iinc 1 1, 3) := by decide +kernel
theorem dX4_reset_31 : decode cX4_reset 31 = .ok (.goto (-22), 3) := by decide +kernel
theorem dX4_reset_34 : decode cX4_reset 34 = .ok (.aload_n 0, 1) := by decide +kernel
theorem dX4_reset_35 : decode cX4_reset 35 = .ok (.getfield 22, 3) := by decide +kernel
theorem dX4_reset_38 : decode cX4_reset 38 = .ok (.invokevirtual 63, 3) := by decide +kernel
theorem dX4_reset_41 : decode cX4_reset 41 = .ok (.aload_n 0, 1) := by decide +kernel
theorem dX4_reset_42 : decode cX4_reset 42 = .ok (.iconst 0, 1) := by decide +kernel
theorem dX4_reset_43 : decode cX4_reset 43 = .ok (.putfield 39, 3) := by decide +kernel
theorem dX4_reset_46 : decode cX4_reset 46 = .ok (.return_, 1) := by decide +kernel
theorem dX4_charOf_0 : decode cX4_charOf 0 = .ok (.lload_n 0, 1) := by decide +kernel
theorem dX4_charOf_1 : decode cX4_charOf 1 = .ok (.bipush 8, 2) := by decide +kernel
theorem dX4_charOf_3 : decode cX4_charOf 3 = .ok (.iload_n 2, 1) := by decide +kernel
theorem dX4_charOf_4 : decode cX4_charOf 4 = .ok (.imul, 1) := by decide +kernel
theorem dX4_charOf_5 : decode cX4_charOf 5 = .ok (.lushr, 1) := by decide +kernel
theorem dX4_charOf_6 : decode cX4_charOf 6 = .ok (.l2i, 1) := by decide +kernel
theorem dX4_charOf_7 : decode cX4_charOf 7 = .ok (.sipush 255, 3) := by decide +kernel
theorem dX4_charOf_10 : decode cX4_charOf 10 = .ok (.iand, 1) := by decide +kernel
theorem dX4_charOf_11 : decode cX4_charOf 11 = .ok (.ireturn, 1) := by decide +kernel
theorem dX4_registerNumbered_0 : decode cX4_registerNumbered 0 = .ok (.iload_n 1, 1) := by decide +kernel
theorem dX4_registerNumbered_1 : decode cX4_registerNumbered 1 = .ok (.ifCond .lt 12, 3) := by decide +kernel
theorem dX4_registerNumbered_4 : decode cX4_registerNumbered 4 = .ok (.iload_n 1, 1) := by decide +kernel
theorem dX4_registerNumbered_5 : decode cX4_registerNumbered 5 = .ok (.aload_n 0, 1) := by decide +kernel
theorem dX4_registerNumbered_6 : decode cX4_registerNumbered 6 = .ok (.getfield 18, 3) := by decide +kernel
theorem dX4_registerNumbered_9 : decode cX4_registerNumbered 9 = .ok (.arraylength, 1) := by decide +kernel
theorem dX4_registerNumbered_10 : decode cX4_registerNumbered 10 = .ok (.if_icmp .lt 7, 3) := by decide +kernel
theorem dX4_registerNumbered_13 : decode cX4_registerNumbered 13 = .ok (.aconst_null, 1) := by decide +kernel
theorem dX4_registerNumbered_14 : decode cX4_registerNumbered 14 = .ok (.goto 9, 3) := by decide +kernel
theorem dX4_registerNumbered_17 : decode cX4_registerNumbered 17 = .ok (.aload_n 0, 1) := by decide +kernel
theorem dX4_registerNumbered_18 : decode cX4_registerNumbered 18 = .ok (.getfield 18, 3) := by decide +kernel
theorem dX4_registerNumbered_21 : decode cX4_registerNumbered 21 = .ok (.iload_n 1, 1) := by decide +kernel
theorem dX4_registerNumbered_22 : decode cX4_registerNumbered 22 = .ok (.aaload, 1) := by decide +kernel
theorem dX4_registerNumbered_23 : decode cX4_registerNumbered 23 = .ok (.areturn, 1) := by decide +kernel
set_option maxRecDepth 20000 in
theorem ggX4_doCommand_X1_look : GoodIn wsX4_doCommand wsX1_look := goodIn_r _ [6, 7, 8, 9, 10, 11, 12, 13, 5, 14, 15, 16, 17, 18, 19, 20, 21, 274, 275, 276, 277, 278, 279] (by decide +kernel) (by decide +kernel)
set_option maxRecDepth 20000 in
theorem gX4_doCommand_X1_look : GoodIn wsX4_doCommand (wsV RX4 80 RX1 yX1_look wsX1_look) := goodIn_app (goodIn_of _ (by decide +kernel)) ggX4_doCommand_X1_look
set_option maxRecDepth 20000 in
theorem ggX4_doCommand_X4_beginsNumber : GoodIn wsX4_doCommand wsX4_beginsNumber := goodIn_r _ [25, 26, 27, 24, 28] (by decide +kernel) (by decide +kernel)
set_option maxRecDepth 20000 in
theorem gX4_doCommand_X4_beginsNumber : GoodIn wsX4_doCommand (va_wsS RX4 111 yX4_beginsNumber wsX4_beginsNumber) := goodIn_app (goodIn_of _ (by decide +kernel)) ggX4_doCommand_X4_beginsNumber
set_option maxRecDepth 20000 in
theorem ggX4_doCommand_X4_putWrittenNumber : GoodIn wsX4_doCommand wsX4_putWrittenNumber := goodIn_ca (goodIn_ca (goodIn_r _ [32, 33, 34, 1, 35, 36, 2, 3, 4, 5, 6, 7, 8, 9, 10, 11, 12, 13, 14, 15, 16, 17, 18, 19, 20, 21, 37, 38, 39, 40, 26, 27, 24, 28, 41, 42, 43, 44, 45, 46, 47, 48, 49, 50, 51, 52, 53, 54, 55, 56, 57, 58, 59, 60, 61, 62, 63, 64, 65, 66, 67, 68, 267, 268, 269, 270, 271, 272, 273, 274, 275, 276, 277, 278, 279, 280, 281, 282, 283, 284] (by decide +kernel) (by decide +kernel)) (goodIn_sub (fun _ h => List.mem_cons_of_mem _ (List.mem_append_left _ (List.mem_append_left _ (List.mem_append_left _ (List.mem_append_left _ (List.mem_append_left _ (List.mem_append_left _ (List.mem_append_right _ h)))))))) (by decide +kernel))) (goodIn_sub (fun _ h => List.mem_cons_of_mem _ (List.mem_append_left _ (List.mem_append_left _ (List.mem_append_left _ (List.mem_append_left _ (List.mem_append_left _ (List.mem_append_right _ h))))))) (by decide +kernel))
set_option maxRecDepth 20000 in
theorem gX4_doCommand_X4_putWrittenNumber : GoodIn wsX4_doCommand (wsV RX4 115 RX4 yX4_putWrittenNumber wsX4_putWrittenNumber) := goodIn_app (goodIn_of _ (by decide +kernel)) ggX4_doCommand_X4_putWrittenNumber
set_option maxRecDepth 20000 in
theorem ggX4_doCommand_X1_pass : GoodIn wsX4_doCommand wsX1_pass := goodIn_r _ [40, 7, 8, 11, 12, 13, 5, 14, 10, 274, 275, 276, 277] (by decide +kernel) (by decide +kernel)
set_option maxRecDepth 20000 in
theorem gX4_doCommand_X1_pass : GoodIn wsX4_doCommand (wsV RX4 118 RX1 yX1_pass wsX1_pass) := goodIn_app (goodIn_of _ (by decide +kernel)) ggX4_doCommand_X1_pass
set_option maxRecDepth 20000 in
theorem ggX4_doCommand_X4_putWrittenText : GoodIn wsX4_doCommand wsX4_putWrittenText := goodIn_ca (goodIn_ca (goodIn_r _ [72, 33, 34, 1, 36, 73, 74, 75, 5, 76, 10, 8, 11, 12, 13, 14, 77, 78, 79, 80, 7, 2, 3, 4, 6, 9, 15, 16, 17, 18, 19, 20, 21, 37, 38, 39, 40, 81, 82, 83, 44, 84, 46, 47, 48, 49, 50, 51, 52, 53, 54, 55, 56, 57, 58, 59, 60, 61, 62, 63, 64, 65, 66, 67, 68, 267, 268, 269, 270, 271, 272, 273, 274, 275, 276, 277, 278, 279, 280, 281, 282, 283, 284] (by decide +kernel) (by decide +kernel)) (goodIn_sub (fun _ h => List.mem_cons_of_mem _ (List.mem_append_left _ (List.mem_append_left _ (List.mem_append_left _ (List.mem_append_left _ (List.mem_append_left _ (List.mem_append_left _ (List.mem_append_right _ h)))))))) (by decide +kernel))) (goodIn_sub (fun _ h => List.mem_cons_of_mem _ (List.mem_append_left _ (List.mem_append_left _ (List.mem_append_left _ (List.mem_append_left _ (List.mem_append_left _ (List.mem_append_right _ h))))))) (by decide +kernel))
set_option maxRecDepth 20000 in
theorem gX4_doCommand_X4_putWrittenText : GoodIn wsX4_doCommand (wsV RX4 121 RX4 yX4_putWrittenText wsX4_putWrittenText) := goodIn_app (goodIn_of _ (by decide +kernel)) ggX4_doCommand_X4_putWrittenText
set_option maxRecDepth 20000 in
theorem ggX4_doCommand_X4_calculate : GoodIn wsX4_doCommand wsX4_calculate := goodIn_ca (goodIn_ca (goodIn_ca (goodIn_ca (goodIn_ca (goodIn_r _ [88, 36, 89, 90, 91, 92, 93, 94, 95, 96, 97, 98, 99, 24, 100, 101, 102, 103, 104, 105, 106, 107, 108, 109, 110, 111, 112, 44, 113, 52, 114, 115, 116, 117, 63, 65, 66, 67, 68, 57, 118, 119, 120, 121, 122, 123, 124, 125, 62, 126, 127, 128, 129, 130, 131, 132, 133, 134, 135, 136, 137, 138, 139, 140, 141, 142, 51, 143, 144, 145, 146, 147, 148, 149, 150, 151, 152, 153, 154, 155, 156, 157, 158, 159, 160, 161, 162, 163, 164, 165, 166, 167, 168, 169, 170, 41, 42, 43, 45, 46, 47, 48, 49, 50, 53, 54, 55, 56, 58, 59, 60, 61, 64, 267, 268, 269, 270, 271, 272, 273, 280, 281, 282, 283, 284] (by decide +kernel) (by decide +kernel)) (goodIn_sub (fun _ h => List.mem_cons_of_mem _ (List.mem_append_left _ (List.mem_append_left _ (List.mem_append_left _ (List.mem_append_left _ (List.mem_append_right _ h)))))) (by decide +kernel))) (goodIn_sub (fun _ h => List.mem_cons_of_mem _ (List.mem_append_left _ (List.mem_append_left _ (List.mem_append_left _ (List.mem_append_right _ h))))) (by decide +kernel))) (goodIn_sub (fun _ h => List.mem_cons_of_mem _ (List.mem_append_left _ (List.mem_append_left _ (List.mem_append_right _ h)))) (by decide +kernel))) (goodIn_sub (fun _ h => List.mem_cons_of_mem _ (List.mem_append_left _ (List.mem_append_right _ h))) (by decide +kernel))) (goodIn_sub (fun _ h => List.mem_cons_of_mem _ (List.mem_append_left _ (List.mem_append_left _ (List.mem_append_left _ (List.mem_append_left _ (List.mem_append_left _ (List.mem_append_right _ h))))))) (by decide +kernel))
set_option maxRecDepth 20000 in
theorem gX4_doCommand_X4_calculate : GoodIn wsX4_doCommand (wsV RX4 124 RX4 yX4_calculate wsX4_calculate) := goodIn_app (goodIn_of _ (by decide +kernel)) ggX4_doCommand_X4_calculate
set_option maxRecDepth 20000 in
theorem ggX4_doCommand_X4_changeNumber : GoodIn wsX4_doCommand wsX4_changeNumber := goodIn_ca (goodIn_ca (goodIn_ca (goodIn_ca (goodIn_ca (goodIn_r _ [174, 36, 93, 89, 90, 91, 92, 97, 98, 99, 24, 100, 101, 102, 103, 104, 105, 106, 107, 108, 109, 110, 111, 112, 44, 113, 52, 114, 115, 116, 117, 63, 65, 66, 67, 68, 57, 118, 119, 120, 121, 122, 123, 124, 125, 62, 175, 176, 128, 177, 160, 161, 178, 179, 152, 153, 134, 135, 136, 137, 130, 138, 95, 96, 154, 155, 156, 131, 132, 133, 139, 140, 141, 142, 51, 143, 144, 145, 146, 166, 167, 168, 169, 170, 180, 181, 182, 183, 184, 41, 42, 43, 45, 46, 47, 48, 49, 50, 53, 54, 55, 56, 58, 59, 60, 61, 64, 267, 268, 269, 270, 271, 272, 273, 280, 281, 282, 283, 284] (by decide +kernel) (by decide +kernel)) (goodIn_sub (fun _ h => List.mem_cons_of_mem _ (List.mem_append_left _ (List.mem_append_left _ (List.mem_append_left _ (List.mem_append_left _ (List.mem_append_right _ h)))))) (by decide +kernel))) (goodIn_sub (fun _ h => List.mem_cons_of_mem _ (List.mem_append_left _ (List.mem_append_left _ (List.mem_append_left _ (List.mem_append_right _ h))))) (by decide +kernel))) (goodIn_sub (fun _ h => List.mem_cons_of_mem _ (List.mem_append_left _ (List.mem_append_right _ h))) (by decide +kernel))) (goodIn_sub (fun _ h => List.mem_cons_of_mem _ (List.mem_append_left _ (List.mem_append_left _ (List.mem_append_right _ h)))) (by decide +kernel))) (goodIn_sub (fun _ h => List.mem_cons_of_mem _ (List.mem_append_left _ (List.mem_append_left _ (List.mem_append_left _ (List.mem_append_left _ (List.mem_append_left _ (List.mem_append_right _ h))))))) (by decide +kernel))
set_option maxRecDepth 20000 in
theorem gX4_doCommand_X4_changeNumber : GoodIn wsX4_doCommand (wsV RX4 127 RX4 yX4_changeNumber wsX4_changeNumber) := goodIn_app (goodIn_of _ (by decide +kernel)) ggX4_doCommand_X4_changeNumber
set_option maxRecDepth 20000 in
theorem ggX4_doCommand_X4_moveToOrFromRegister : GoodIn wsX4_doCommand wsX4_moveToOrFromRegister := goodIn_ca (goodIn_ca (goodIn_ca (goodIn_r _ [188, 36, 189, 190, 191, 24, 192, 33, 34, 1, 2, 3, 4, 5, 6, 7, 8, 9, 10, 11, 12, 13, 14, 15, 16, 17, 18, 19, 20, 21, 193, 194, 195, 196, 197, 37, 38, 39, 40, 103, 104, 105, 106, 107, 108, 109, 166, 167, 168, 44, 169, 52, 170, 90, 91, 92, 198, 199, 200, 201, 202, 111, 112, 113, 203, 119, 120, 121, 57, 65, 66, 67, 68, 204, 123, 124, 125, 62, 205, 115, 116, 117, 63, 206, 207, 208, 209, 64, 46, 47, 48, 49, 50, 51, 53, 54, 55, 56, 58, 59, 60, 61, 210, 211, 212, 267, 268, 269, 270, 271, 272, 273, 274, 275, 276, 277, 278, 279, 280, 281, 282, 283, 284] (by decide +kernel) (by decide +kernel)) (goodIn_sub (fun _ h => List.mem_cons_of_mem _ (List.mem_append_left _ (List.mem_append_left _ (List.mem_append_left _ (List.mem_append_left _ (List.mem_append_left _ (List.mem_append_left _ (List.mem_append_right _ h)))))))) (by decide +kernel))) (goodIn_sub (fun _ h => List.mem_cons_of_mem _ (List.mem_append_left _ (List.mem_append_left _ (List.mem_append_left _ (List.mem_append_right _ h))))) (by decide +kernel))) (goodIn_sub (fun _ h => List.mem_cons_of_mem _ (List.mem_append_left _ (List.mem_append_left _ (List.mem_append_left _ (List.mem_append_left _ (List.mem_append_left _ (List.mem_append_right _ h))))))) (by decide +kernel))
set_option maxRecDepth 20000 in
theorem gX4_doCommand_X4_moveToOrFromRegister : GoodIn wsX4_doCommand (wsV RX4 130 RX4 yX4_moveToOrFromRegister wsX4_moveToOrFromRegister) := goodIn_app (goodIn_of _ (by decide +kernel)) ggX4_doCommand_X4_moveToOrFromRegister
set_option maxRecDepth 20000 in
theorem ggX4_doCommand_X4_runIfOrdered : GoodIn wsX4_doCommand wsX4_runIfOrdered := goodIn_ca (goodIn_ca (goodIn_ca (goodIn_ca (goodIn_ca (goodIn_r _ [216, 101, 102, 36, 1, 189, 190, 191, 24, 192, 33, 34, 2, 3, 4, 5, 6, 7, 8, 9, 10, 11, 12, 13, 14, 15, 16, 17, 18, 19, 20, 21, 193, 194, 195, 196, 197, 37, 38, 39, 40, 97, 98, 99, 100, 103, 104, 105, 106, 107, 108, 109, 110, 111, 112, 44, 113, 52, 114, 115, 116, 117, 63, 65, 66, 67, 68, 57, 118, 119, 120, 121, 122, 123, 124, 125, 62, 217, 218, 128, 219, 130, 90, 91, 92, 131, 132, 133, 134, 135, 136, 137, 138, 95, 96, 139, 140, 141, 142, 51, 143, 144, 145, 146, 220, 221, 222, 223, 210, 211, 212, 224, 207, 208, 209, 64, 225, 226, 227, 228, 229, 230, 231, 232, 233, 234, 235, 236, 237, 238, 239, 240, 241, 242, 243, 244, 166, 167, 168, 169, 170, 267, 268, 269, 270, 271, 272, 273, 274, 275, 276, 277, 278, 279, 280, 281, 282, 283, 284] (by decide +kernel) (by decide +kernel)) (goodIn_sub (fun _ h => List.mem_cons_of_mem _ (List.mem_append_left _ (List.mem_append_left _ (List.mem_append_left _ (List.mem_append_left _ (List.mem_append_right _ h)))))) (by decide +kernel))) (goodIn_sub (fun _ h => List.mem_cons_of_mem _ (List.mem_append_left _ (List.mem_append_left _ (List.mem_append_left _ (List.mem_append_left _ (List.mem_append_left _ (List.mem_append_left _ (List.mem_append_right _ h)))))))) (by decide +kernel))) (goodIn_sub (fun _ h => List.mem_cons_of_mem _ (List.mem_append_left _ (List.mem_append_left _ (List.mem_append_left _ (List.mem_append_right _ h))))) (by decide +kernel))) (goodIn_sub (fun _ h => List.mem_cons_of_mem _ (List.mem_append_left _ (List.mem_append_left _ (List.mem_append_right _ h)))) (by decide +kernel))) (goodIn_sub (fun _ h => List.mem_cons_of_mem _ (List.mem_append_right _ h)) (by decide +kernel))
set_option maxRecDepth 20000 in
theorem gX4_doCommand_X4_runIfOrdered : GoodIn wsX4_doCommand (wsV RX4 133 RX4 yX4_runIfOrdered wsX4_runIfOrdered) := goodIn_app (goodIn_of _ (by decide +kernel)) ggX4_doCommand_X4_runIfOrdered
set_option maxRecDepth 20000 in
theorem ggX4_doCommand_X4_runTop : GoodIn wsX4_doCommand wsX4_runTop := goodIn_ca (goodIn_ca (goodIn_r _ [248, 36, 1, 103, 104, 105, 24, 106, 107, 108, 109, 110, 111, 112, 44, 113, 52, 114, 115, 116, 117, 63, 65, 66, 67, 68, 57, 224, 207, 208, 209, 64, 118, 119, 120, 121, 225, 226, 227, 5, 228, 229, 230, 231, 232, 233, 3, 4, 6, 7, 8, 9, 10, 11, 12, 13, 14, 15, 16, 17, 18, 19, 20, 21, 234, 38, 39, 40, 235, 236, 237, 238, 239, 90, 91, 92, 240, 241, 242, 243, 244, 51, 166, 167, 168, 169, 170, 267, 268, 269, 270, 271, 272, 273, 280, 281, 282, 283, 284, 274, 275, 276, 277, 278, 279] (by decide +kernel) (by decide +kernel)) (goodIn_sub (fun _ h => List.mem_cons_of_mem _ (List.mem_append_left _ (List.mem_append_left _ (List.mem_append_left _ (List.mem_append_right _ h))))) (by decide +kernel))) (goodIn_sub (fun _ h => List.mem_cons_of_mem _ (List.mem_append_right _ h)) (by decide +kernel))
set_option maxRecDepth 20000 in
theorem gX4_doCommand_X4_runTop : GoodIn wsX4_doCommand (wsV RX4 136 RX4 yX4_runTop wsX4_runTop) := goodIn_app (goodIn_of _ (by decide +kernel)) ggX4_doCommand_X4_runTop
set_option maxRecDepth 20000 in
theorem ggX4_doCommand_X1_leaveAll : GoodIn wsX4_doCommand wsX1_leaveAll := goodIn_r _ [252, 8, 274, 275, 276, 277] (by decide +kernel) (by decide +kernel)
set_option maxRecDepth 20000 in
theorem gX4_doCommand_X1_leaveAll : GoodIn wsX4_doCommand (wsV RX4 66 RX1 yX1_leaveAll wsX1_leaveAll) := goodIn_app (goodIn_of _ (by decide +kernel)) ggX4_doCommand_X1_leaveAll
set_option maxRecDepth 20000 in
theorem ggX4_doCommand_X4_arrangeStack : GoodIn wsX4_doCommand wsX4_arrangeStack := goodIn_ca (goodIn_ca (goodIn_ca (goodIn_r _ [256, 33, 34, 36, 109, 93, 257, 103, 104, 105, 24, 106, 107, 108, 198, 199, 200, 44, 201, 202, 111, 112, 113, 52, 203, 119, 120, 121, 57, 65, 66, 67, 68, 204, 123, 124, 125, 62, 205, 115, 116, 117, 63, 206, 207, 208, 209, 64, 46, 47, 48, 49, 50, 51, 53, 54, 55, 56, 58, 59, 60, 61, 258, 259, 260, 261, 166, 167, 168, 169, 170, 90, 91, 92, 262, 263, 264, 265, 41, 42, 43, 45, 266, 267, 268, 269, 270, 271, 272, 273, 280, 281, 282, 283, 284] (by decide +kernel) (by decide +kernel)) (goodIn_sub (fun _ h => List.mem_cons_of_mem _ (List.mem_append_left _ (List.mem_append_left _ (List.mem_append_left _ (List.mem_append_left _ (List.mem_append_left _ (List.mem_append_left _ (List.mem_append_right _ h)))))))) (by decide +kernel))) (goodIn_sub (fun _ h => List.mem_cons_of_mem _ (List.mem_append_left _ (List.mem_append_left _ (List.mem_append_left _ (List.mem_append_right _ h))))) (by decide +kernel))) (goodIn_sub (fun _ h => List.mem_cons_of_mem _ (List.mem_append_left _ (List.mem_append_left _ (List.mem_append_left _ (List.mem_append_left _ (List.mem_append_left _ (List.mem_append_right _ h))))))) (by decide +kernel))
set_option maxRecDepth 20000 in
theorem gX4_doCommand_X4_arrangeStack : GoodIn wsX4_doCommand (wsV RX4 139 RX4 yX4_arrangeStack wsX4_arrangeStack) := goodIn_app (goodIn_of _ (by decide +kernel)) ggX4_doCommand_X4_arrangeStack
theorem dX4_doCommand_0 : decode cX4_doCommand 0 = .ok (.aload_n 0, 1) := by decide +kernel
theorem dX4_doCommand_1 : decode cX4_doCommand 1 = .ok (.getfield 28, 3) := by decide +kernel
theorem dX4_doCommand_4 : decode cX4_doCommand 4 = .ok (.invokevirtual 80, 3) := by decide +kernel
theorem dX4_doCommand_7 : decode cX4_doCommand 7 = .ok (.istore_n 1, 1) := by decide +kernel
theorem dX4_doCommand_8 : decode cX4_doCommand 8 = .ok (.iload_n 1, 1) := by decide +kernel
theorem dX4_doCommand_9 : decode cX4_doCommand 9 = .ok (.invokestatic 111, 3) := by decide +kernel
theorem dX4_doCommand_12 : decode cX4_doCommand 12 = .ok (.ifCond .eq 8, 3) := by decide +kernel
theorem dX4_doCommand_15 : decode cX4_doCommand 15 = .ok (.aload_n 0, 1) := by decide +kernel
theorem dX4_doCommand_16 : decode cX4_doCommand 16 = .ok (.invokevirtual 115, 3) := by decide +kernel
theorem dX4_doCommand_19 : decode cX4_doCommand 19 = .ok (.return_, 1) := by decide +kernel
theorem dX4_doCommand_20 : decode cX4_doCommand 20 = .ok (.aload_n 0, 1) := by decide +kernel
theorem dX4_doCommand_21 : decode cX4_doCommand 21 = .ok (.getfield 28, 3) := by decide +kernel
theorem dX4_doCommand_24 : decode cX4_doCommand 24 = .ok (.invokevirtual 118, 3) := by decide +kernel
theorem dX4_doCommand_27 : decode cX4_doCommand 27 = .ok (.iload_n 1, 1) := by decide +kernel
theorem dX4_doCommand_28 : decode cX4_doCommand 28 = .ok (.lookupswitch 220 #[(37, 171), (42, 171), (43, 171), (45, 171), (47, 171), (60, 195), (61, 195), (62, 195), (76, 187), (83, 187), (88, 179), (91, 164), (107, 179), (108, 187), (113, 210), (115, 187), (118, 179), (120, 203), (126, 179)], 164) := by decide +kernel
theorem dX4_doCommand_192 : decode cX4_doCommand 192 = .ok (.aload_n 0, 1) := by decide +kernel
theorem dX4_doCommand_193 : decode cX4_doCommand 193 = .ok (.invokevirtual 121, 3) := by decide +kernel
theorem dX4_doCommand_196 : decode cX4_doCommand 196 = .ok (.goto 57, 3) := by decide +kernel
theorem dX4_doCommand_199 : decode cX4_doCommand 199 = .ok (.aload_n 0, 1) := by decide +kernel
theorem dX4_doCommand_200 : decode cX4_doCommand 200 = .ok (.iload_n 1, 1) := by decide +kernel
theorem dX4_doCommand_201 : decode cX4_doCommand 201 = .ok (.invokevirtual 124, 3) := by decide +kernel
theorem dX4_doCommand_204 : decode cX4_doCommand 204 = .ok (.goto 49, 3) := by decide +kernel
theorem dX4_doCommand_207 : decode cX4_doCommand 207 = .ok (.aload_n 0, 1) := by decide +kernel
theorem dX4_doCommand_208 : decode cX4_doCommand 208 = .ok (.iload_n 1, 1) := by decide +kernel
theorem dX4_doCommand_209 : decode cX4_doCommand 209 = .ok (.invokevirtual 127, 3) := by decide +kernel
theorem dX4_doCommand_212 : decode cX4_doCommand 212 = .ok (.goto 41, 3) := by decide +kernel
theorem dX4_doCommand_215 : decode cX4_doCommand 215 = .ok (.aload_n 0, 1) := by decide +kernel
theorem dX4_doCommand_216 : decode cX4_doCommand 216 = .ok (.iload_n 1, 1) := by decide +kernel
theorem dX4_doCommand_217 : decode cX4_doCommand 217 = .ok (.invokevirtual 130, 3) := by decide +kernel
theorem dX4_doCommand_220 : decode cX4_doCommand 220 = .ok (.goto 33, 3) := by decide +kernel
theorem dX4_doCommand_223 : decode cX4_doCommand 223 = .ok (.aload_n 0, 1) := by decide +kernel
theorem dX4_doCommand_224 : decode cX4_doCommand 224 = .ok (.iload_n 1, 1) := by decide +kernel
theorem dX4_doCommand_225 : decode cX4_doCommand 225 = .ok (.invokevirtual 133, 3) := by decide +kernel
theorem dX4_doCommand_228 : decode cX4_doCommand 228 = .ok (.goto 25, 3) := by decide +kernel
theorem dX4_doCommand_231 : decode cX4_doCommand 231 = .ok (.aload_n 0, 1) := by decide +kernel
theorem dX4_doCommand_232 : decode cX4_doCommand 232 = .ok (.invokevirtual 136, 3) := by decide +kernel
theorem dX4_doCommand_235 : decode cX4_doCommand 235 = .ok (.goto 18, 3) := by decide +kernel
theorem dX4_doCommand_238 : decode cX4_doCommand 238 = .ok (.aload_n 0, 1) := by decide +kernel
theorem dX4_doCommand_239 : decode cX4_doCommand 239 = .ok (.getfield 28, 3) := by decide +kernel
theorem dX4_doCommand_242 : decode cX4_doCommand 242 = .ok (.invokevirtual 66, 3) := by decide +kernel
theorem dX4_doCommand_245 : decode cX4_doCommand 245 = .ok (.goto 8, 3) := by decide +kernel
theorem dX4_doCommand_248 : decode cX4_doCommand 248 = .ok (.aload_n 0, 1) := by decide +kernel
theorem dX4_doCommand_249 : decode cX4_doCommand 249 = .ok (.iload_n 1, 1) := by decide +kernel
theorem dX4_doCommand_250 : decode cX4_doCommand 250 = .ok (.invokevirtual 139, 3) := by decide +kernel
theorem dX4_doCommand_253 : decode cX4_doCommand 253 = .ok (.return_, 1) := by decide +kernel
theorem dX4_isDigit_0 : decode cX4_isDigit 0 = .ok (.iload_n 0, 1) := by decide +kernel
theorem dX4_isDigit_1 : decode cX4_isDigit 1 = .ok (.bipush 48, 2) := by decide +kernel
theorem dX4_isDigit_3 : decode cX4_isDigit 3 = .ok (.if_icmp .lt 13, 3) := by decide +kernel
theorem dX4_isDigit_6 : decode cX4_isDigit 6 = .ok (.iload_n 0, 1) := by decide +kernel
theorem dX4_isDigit_7 : decode cX4_isDigit 7 = .ok (.bipush 57, 2) := by decide +kernel
theorem dX4_isDigit_9 : decode cX4_isDigit 9 = .ok (.if_icmp .gt 7, 3) := by decide +kernel
theorem dX4_isDigit_12 : decode cX4_isDigit 12 = .ok (.iconst 1, 1) := by decide +kernel
theorem dX4_isDigit_13 : decode cX4_isDigit 13 = .ok (.goto 4, 3) := by decide +kernel
theorem dX4_isDigit_16 : decode cX4_isDigit 16 = .ok (.iconst 0, 1) := by decide +kernel
theorem dX4_isDigit_17 : decode cX4_isDigit 17 = .ok (.ireturn, 1) := by decide +kernel
set_option maxRecDepth 20000 in
theorem ggX4_beginsNumber_X4_isDigit : GoodIn wsX4_beginsNumber wsX4_isDigit := goodIn_r _ [4] (by decide +kernel) (by decide +kernel)
set_option maxRecDepth 20000 in
theorem gX4_beginsNumber_X4_isDigit : GoodIn wsX4_beginsNumber (va_wsS RX4 142 yX4_isDigit wsX4_isDigit) := goodIn_app (goodIn_of _ (by decide +kernel)) ggX4_beginsNumber_X4_isDigit
theorem dX4_beginsNumber_0 : decode cX4_beginsNumber 0 = .ok (.iload_n 0, 1) := by decide +kernel
theorem dX4_beginsNumber_1 : decode cX4_beginsNumber 1 = .ok (.invokestatic 142, 3) := by decide +kernel
theorem dX4_beginsNumber_4 : decode cX4_beginsNumber 4 = .ok (.ifCond .ne 15, 3) := by decide +kernel
theorem dX4_beginsNumber_7 : decode cX4_beginsNumber 7 = .ok (.iload_n 0, 1) := by decide +kernel
theorem dX4_beginsNumber_8 : decode cX4_beginsNumber 8 = .ok (.bipush 46, 2) := by decide +kernel
theorem dX4_beginsNumber_10 : decode cX4_beginsNumber 10 = .ok (.if_icmp .eq 9, 3) := by decide +kernel
theorem dX4_beginsNumber_13 : decode cX4_beginsNumber 13 = .ok (.iload_n 0, 1) := by decide +kernel
theorem dX4_beginsNumber_14 : decode cX4_beginsNumber 14 = .ok (.bipush 95, 2) := by decide +kernel
theorem dX4_beginsNumber_16 : decode cX4_beginsNumber 16 = .ok (.if_icmp .ne 7, 3) := by decide +kernel
theorem dX4_beginsNumber_19 : decode cX4_beginsNumber 19 = .ok (.iconst 1, 1) := by decide +kernel
theorem dX4_beginsNumber_20 : decode cX4_beginsNumber 20 = .ok (.goto 4, 3) := by decide +kernel
theorem dX4_beginsNumber_23 : decode cX4_beginsNumber 23 = .ok (.iconst 0, 1) := by decide +kernel
theorem dX4_beginsNumber_24 : decode cX4_beginsNumber 24 = .ok (.ireturn, 1) := by decide +kernel
set_option maxRecDepth 20000 in
theorem ggX4_putWrittenNumber_X1_look : GoodIn wsX4_putWrittenNumber wsX1_look := goodIn_r _ [10, 11, 12, 13, 14, 15, 16, 17, 9, 18, 19, 20, 21, 22, 23, 24, 25, 69, 70, 71, 72, 73, 74] (by decide +kernel) (by decide +kernel)
set_option maxRecDepth 20000 in
theorem gX4_putWrittenNumber_X1_look : GoodIn wsX4_putWrittenNumber (wsV RX4 80 RX1 yX1_look wsX1_look) := goodIn_app (goodIn_of _ (by decide +kernel)) ggX4_putWrittenNumber_X1_look
set_option maxRecDepth 20000 in
theorem ggX4_putWrittenNumber_X1_pass : GoodIn wsX4_putWrittenNumber wsX1_pass := goodIn_r _ [29, 11, 12, 15, 16, 17, 9, 18, 14, 69, 70, 71, 72] (by decide +kernel) (by decide +kernel)
set_option maxRecDepth 20000 in
theorem gX4_putWrittenNumber_X1_pass : GoodIn wsX4_putWrittenNumber (wsV RX4 118 RX1 yX1_pass wsX1_pass) := goodIn_app (goodIn_of _ (by decide +kernel)) ggX4_putWrittenNumber_X1_pass
set_option maxRecDepth 20000 in
theorem ggX4_putWrittenNumber_X4_isDigit : GoodIn wsX4_putWrittenNumber wsX4_isDigit := goodIn_r _ [33] (by decide +kernel) (by decide +kernel)
set_option maxRecDepth 20000 in
theorem gX4_putWrittenNumber_X4_isDigit : GoodIn wsX4_putWrittenNumber (va_wsS RX4 142 yX4_isDigit wsX4_isDigit) := goodIn_app (goodIn_of _ (by decide +kernel)) ggX4_putWrittenNumber_X4_isDigit
set_option maxRecDepth 20000 in
theorem ggX4_putWrittenNumber_X3_putNumber : GoodIn wsX4_putWrittenNumber wsX3_putNumber := goodIn_ca (goodIn_r _ [38, 39, 40, 41, 37, 42, 43, 44, 45, 46, 47, 48, 49, 50, 51, 52, 53, 54, 55, 56, 57, 58, 59, 60, 61, 75, 76, 77, 78, 79] (by decide +kernel) (by decide +kernel)) (goodIn_sub (fun _ h => List.mem_cons_of_mem _ (List.mem_append_right _ h)) (by decide +kernel))
set_option maxRecDepth 20000 in
theorem gX4_putWrittenNumber_X3_putNumber : GoodIn wsX4_putWrittenNumber (wsV RX4 149 RX3 yX3_putNumber wsX3_putNumber) := goodIn_app (goodIn_of _ (by decide +kernel)) ggX4_putWrittenNumber_X3_putNumber
theorem dX4_putWrittenNumber_0 : decode cX4_putWrittenNumber 0 = .ok (.aload_n 0, 1) := by decide +kernel
theorem dX4_putWrittenNumber_1 : decode cX4_putWrittenNumber 1 = .ok (.getfield 28, 3) := by decide +kernel
theorem dX4_putWrittenNumber_4 : decode cX4_putWrittenNumber 4 = .ok (.invokevirtual 80, 3) := by decide +kernel
theorem dX4_putWrittenNumber_7 : decode cX4_putWrittenNumber 7 = .ok (.bipush 95, 2) := by decide +kernel
theorem dX4_putWrittenNumber_9 : decode cX4_putWrittenNumber 9 = .ok (.if_icmp .ne 7, 3) := by decide +kernel
theorem dX4_putWrittenNumber_12 : decode cX4_putWrittenNumber 12 = .ok (.iconst 1, 1) := by decide +kernel
theorem dX4_putWrittenNumber_13 : decode cX4_putWrittenNumber 13 = .ok (.goto 4, 3) := by decide +kernel
theorem dX4_putWrittenNumber_16 : decode cX4_putWrittenNumber 16 = .ok (.iconst 0, 1) := by decide +kernel
theorem dX4_putWrittenNumber_17 : decode cX4_putWrittenNumber 17 = .ok (.istore_n 1, 1) := by decide +kernel
theorem dX4_putWrittenNumber_18 : decode cX4_putWrittenNumber 18 = .ok (.iload_n 1, 1) := by decide +kernel
theorem dX4_putWrittenNumber_19 : decode cX4_putWrittenNumber 19 = .ok (.ifCond .eq 10, 3) := by decide +kernel
theorem dX4_putWrittenNumber_22 : decode cX4_putWrittenNumber 22 = .ok (.aload_n 0, 1) := by decide +kernel
theorem dX4_putWrittenNumber_23 : decode cX4_putWrittenNumber 23 = .ok (.getfield 28, 3) := by decide +kernel
theorem dX4_putWrittenNumber_26 : decode cX4_putWrittenNumber 26 = .ok (.invokevirtual 118, 3) := by decide +kernel
theorem dX4_putWrittenNumber_29 : decode cX4_putWrittenNumber 29 = .ok (.lconst 0, 1) := by decide +kernel
theorem dX4_putWrittenNumber_30 : decode cX4_putWrittenNumber 30 = .ok (.lstore_n 2, 1) := by decide +kernel
theorem dX4_putWrittenNumber_31 : decode cX4_putWrittenNumber 31 = .ok (.iconst 0, 1) := by decide +kernel
theorem dX4_putWrittenNumber_32 : decode cX4_putWrittenNumber 32 = .ok (.istore 4, 2) := by decide +kernel
theorem dX4_putWrittenNumber_34 : decode cX4_putWrittenNumber 34 = .ok (.iconst 0, 1) := by decide +kernel
theorem dX4_putWrittenNumber_35 : decode cX4_putWrittenNumber 35 = .ok (.istore 5, 2) := by decide +kernel
theorem dX4_putWrittenNumber_37 : decode cX4_putWrittenNumber 37 = .ok (.iconst 0, 1) := by decide +kernel
theorem dX4_putWrittenNumber_38 : decode cX4_putWrittenNumber 38 = .ok (.istore 6, 2) := by decide +kernel
theorem dX4_putWrittenNumber_40 : decode cX4_putWrittenNumber 40 = .ok (.iconst 0, 1) := by decide +kernel
theorem dX4_putWrittenNumber_41 : decode cX4_putWrittenNumber 41 = .ok (.istore 7, 2) := by decide +kernel
theorem dX4_putWrittenNumber_43 : decode cX4_putWrittenNumber 43 = .ok (.iload 7, 2) := by decide +kernel
theorem dX4_putWrittenNumber_45 : decode cX4_putWrittenNumber 45 = .ok (.sipush 160, 3) := by decide +kernel
theorem dX4_putWrittenNumber_48 : decode cX4_putWrittenNumber 48 = .ok (.if_icmp .ge 93, 3) := by decide +kernel
theorem dX4_putWrittenNumber_51 : decode cX4_putWrittenNumber 51 = .ok (.aload_n 0, 1) := by decide +kernel
theorem dX4_putWrittenNumber_52 : decode cX4_putWrittenNumber 52 = .ok (.getfield 28, 3) := by decide +kernel
theorem dX4_putWrittenNumber_55 : decode cX4_putWrittenNumber 55 = .ok (.invokevirtual 80, 3) := by decide +kernel
theorem dX4_putWrittenNumber_58 : decode cX4_putWrittenNumber 58 = .ok (.istore 8, 2) := by decide +kernel
theorem dX4_putWrittenNumber_60 : decode cX4_putWrittenNumber 60 = .ok (.iload 8, 2) := by decide +kernel
theorem dX4_putWrittenNumber_62 : decode cX4_putWrittenNumber 62 = .ok (.invokestatic 142, 3) := by decide +kernel
theorem dX4_putWrittenNumber_65 : decode cX4_putWrittenNumber 65 = .ok (.ifCond .eq 48, 3) := by decide +kernel
theorem dX4_putWrittenNumber_68 : decode cX4_putWrittenNumber 68 = .ok (.iinc 4 1, 3) := by decide +kernel
theorem dX4_putWrittenNumber_71 : decode cX4_putWrittenNumber 71 = .ok (.iload 5, 2) := by decide +kernel
theorem dX4_putWrittenNumber_73 : decode cX4_putWrittenNumber 73 = .ok (.iload 6, 2) := by decide +kernel
theorem dX4_putWrittenNumber_75 : decode cX4_putWrittenNumber 75 = .ok (.ifCond .eq 7, 3) := by decide +kernel
theorem dX4_putWrittenNumber_78 : decode cX4_putWrittenNumber 78 = .ok (.iconst 1, 1) := by decide +kernel
theorem dX4_putWrittenNumber_79 : decode cX4_putWrittenNumber 79 = .ok (.goto 4, 3) := by decide +kernel
theorem dX4_putWrittenNumber_82 : decode cX4_putWrittenNumber 82 = .ok (.iconst 0, 1) := by decide +kernel
theorem dX4_putWrittenNumber_83 : decode cX4_putWrittenNumber 83 = .ok (.iadd, 1) := by decide +kernel
theorem dX4_putWrittenNumber_84 : decode cX4_putWrittenNumber 84 = .ok (.istore 5, 2) := by decide +kernel
theorem dX4_putWrittenNumber_86 : decode cX4_putWrittenNumber 86 = .ok (.iload 4, 2) := by decide +kernel
theorem dX4_putWrittenNumber_88 : decode cX4_putWrittenNumber 88 = .ok (.bipush 18, 2) := by decide +kernel
theorem dX4_putWrittenNumber_90 : decode cX4_putWrittenNumber 90 = .ok (.if_icmp .le 7, 3) := by decide +kernel
theorem dX4_putWrittenNumber_93 : decode cX4_putWrittenNumber 93 = .ok (.lload_n 2, 1) := by decide +kernel
theorem dX4_putWrittenNumber_94 : decode cX4_putWrittenNumber 94 = .ok (.goto 15, 3) := by decide +kernel
theorem dX4_putWrittenNumber_97 : decode cX4_putWrittenNumber 97 = .ok (.lload_n 2, 1) := by decide +kernel
theorem dX4_putWrittenNumber_98 : decode cX4_putWrittenNumber 98 = .ok (.ldc2_w 145, 3) := by decide +kernel
theorem dX4_putWrittenNumber_101 : decode cX4_putWrittenNumber 101 = .ok (.lmul, 1) := by decide +kernel
theorem dX4_putWrittenNumber_102 : decode cX4_putWrittenNumber 102 = .ok (.iload 8, 2) := by decide +kernel
theorem dX4_putWrittenNumber_104 : decode cX4_putWrittenNumber 104 = .ok (.bipush 48, 2) := by decide +kernel
theorem dX4_putWrittenNumber_106 : decode cX4_putWrittenNumber 106 = .ok (.isub, 1) := by decide +kernel
theorem dX4_putWrittenNumber_107 : decode cX4_putWrittenNumber 107 = .ok (.i2l, 1) := by decide +kernel
theorem dX4_putWrittenNumber_108 : decode cX4_putWrittenNumber 108 = .ok (.ladd, 1) := by decide +kernel
theorem dX4_putWrittenNumber_109 : decode cX4_putWrittenNumber 109 = .ok (.lstore_n 2, 1) := by decide +kernel
theorem dX4_putWrittenNumber_110 : decode cX4_putWrittenNumber 110 = .ok (.goto 18, 3) := by decide +kernel
theorem dX4_putWrittenNumber_113 : decode cX4_putWrittenNumber 113 = .ok (.iload 8, 2) := by decide +kernel
theorem dX4_putWrittenNumber_115 : decode cX4_putWrittenNumber 115 = .ok (.bipush 46, 2) := by decide +kernel
theorem dX4_putWrittenNumber_117 : decode cX4_putWrittenNumber 117 = .ok (.if_icmp .ne 24, 3) := by decide +kernel
theorem dX4_putWrittenNumber_120 : decode cX4_putWrittenNumber 120 = .ok (.iload 6, 2) := by decide +kernel
theorem dX4_putWrittenNumber_122 : decode cX4_putWrittenNumber 122 = .ok (.ifCond .ne 19, 3) := by decide +kernel
theorem dX4_putWrittenNumber_125 : decode cX4_putWrittenNumber 125 = .ok (.iconst 1, 1) := by decide +kernel
theorem dX4_putWrittenNumber_126 : decode cX4_putWrittenNumber 126 = .ok (.istore 6, 2) := by decide +kernel
theorem dX4_putWrittenNumber_128 : decode cX4_putWrittenNumber 128 = .ok (.aload_n 0, 1) := by decide +kernel
theorem dX4_putWrittenNumber_129 : decode cX4_putWrittenNumber 129 = .ok (.getfield 28, 3) := by decide +kernel
theorem dX4_putWrittenNumber_132 : decode cX4_putWrittenNumber 132 = .ok (.invokevirtual 118, 3) := by decide +kernel
theorem dX4_putWrittenNumber_135 : decode cX4_putWrittenNumber 135 = .ok (.iinc 7 1, 3) := by decide +kernel
theorem dX4_putWrittenNumber_138 : decode cX4_putWrittenNumber 138 = .ok (.goto (-95), 3) := by decide +kernel
theorem dX4_putWrittenNumber_141 : decode cX4_putWrittenNumber 141 = .ok (.iload 4, 2) := by decide +kernel
theorem dX4_putWrittenNumber_143 : decode cX4_putWrittenNumber 143 = .ok (.ifCond .eq 17, 3) := by decide +kernel
theorem dX4_putWrittenNumber_146 : decode cX4_putWrittenNumber 146 = .ok (.iload 4, 2) := by decide +kernel
theorem dX4_putWrittenNumber_148 : decode cX4_putWrittenNumber 148 = .ok (.bipush 18, 2) := by decide +kernel
theorem dX4_putWrittenNumber_150 : decode cX4_putWrittenNumber 150 = .ok (.if_icmp .gt 10, 3) := by decide +kernel
theorem dX4_putWrittenNumber_153 : decode cX4_putWrittenNumber 153 = .ok (.iload 5, 2) := by decide +kernel
theorem dX4_putWrittenNumber_155 : decode cX4_putWrittenNumber 155 = .ok (.bipush 9, 2) := by decide +kernel
theorem dX4_putWrittenNumber_157 : decode cX4_putWrittenNumber 157 = .ok (.if_icmp .le 13, 3) := by decide +kernel
theorem dX4_putWrittenNumber_160 : decode cX4_putWrittenNumber 160 = .ok (.new 56, 3) := by decide +kernel
theorem dX4_putWrittenNumber_163 : decode cX4_putWrittenNumber 163 = .ok (.dup, 1) := by decide +kernel
theorem dX4_putWrittenNumber_164 : decode cX4_putWrittenNumber 164 = .ok (.ldc 147, 2) := by decide +kernel
theorem dX4_putWrittenNumber_166 : decode cX4_putWrittenNumber 166 = .ok (.invokespecial 60, 3) := by decide +kernel
theorem dX4_putWrittenNumber_169 : decode cX4_putWrittenNumber 169 = .ok (.athrow, 1) := by decide +kernel
theorem dX4_putWrittenNumber_170 : decode cX4_putWrittenNumber 170 = .ok (.aload_n 0, 1) := by decide +kernel
theorem dX4_putWrittenNumber_171 : decode cX4_putWrittenNumber 171 = .ok (.getfield 14, 3) := by decide +kernel
theorem dX4_putWrittenNumber_174 : decode cX4_putWrittenNumber 174 = .ok (.iload_n 1, 1) := by decide +kernel
theorem dX4_putWrittenNumber_175 : decode cX4_putWrittenNumber 175 = .ok (.ifCond .eq 8, 3) := by decide +kernel
theorem dX4_putWrittenNumber_178 : decode cX4_putWrittenNumber 178 = .ok (.lload_n 2, 1) := by decide +kernel
theorem dX4_putWrittenNumber_179 : decode cX4_putWrittenNumber 179 = .ok (.lneg, 1) := by decide +kernel
theorem dX4_putWrittenNumber_180 : decode cX4_putWrittenNumber 180 = .ok (.goto 4, 3) := by decide +kernel
theorem dX4_putWrittenNumber_183 : decode cX4_putWrittenNumber 183 = .ok (.lload_n 2, 1) := by decide +kernel
theorem dX4_putWrittenNumber_184 : decode cX4_putWrittenNumber 184 = .ok (.iload 5, 2) := by decide +kernel
theorem dX4_putWrittenNumber_186 : decode cX4_putWrittenNumber 186 = .ok (.invokevirtual 149, 3) := by decide +kernel
theorem dX4_putWrittenNumber_189 : decode cX4_putWrittenNumber 189 = .ok (.return_, 1) := by decide +kernel
set_option maxRecDepth 20000 in
theorem ggX4_putWrittenText_X1_innermostRow : GoodIn wsX4_putWrittenText wsX1_innermostRow := goodIn_r _ [9, 10, 11, 12, 13, 14, 8, 15, 72, 73, 74, 75] (by decide +kernel) (by decide +kernel)
set_option maxRecDepth 20000 in
theorem gX4_putWrittenText_X1_innermostRow : GoodIn wsX4_putWrittenText (wsV RX4 153 RX1 yX1_innermostRow wsX1_innermostRow) := goodIn_app (goodIn_of _ (by decide +kernel)) ggX4_putWrittenText_X1_innermostRow
set_option maxRecDepth 20000 in
theorem ggX4_putWrittenText_X1_position : GoodIn wsX4_putWrittenText wsX1_position := goodIn_r _ [19, 20, 11, 12, 13, 14, 8, 15, 10, 72, 73, 74, 75] (by decide +kernel) (by decide +kernel)
set_option maxRecDepth 20000 in
theorem gX4_putWrittenText_X1_position : GoodIn wsX4_putWrittenText (wsV RX4 157 RX1 yX1_position wsX1_position) := goodIn_app (goodIn_of _ (by decide +kernel)) ggX4_putWrittenText_X1_position
set_option maxRecDepth 20000 in
theorem ggX4_putWrittenText_X1_look : GoodIn wsX4_putWrittenText wsX1_look := goodIn_r _ [24, 20, 11, 25, 10, 12, 13, 14, 8, 15, 26, 27, 28, 29, 30, 31, 32, 72, 73, 74, 75, 76, 77] (by decide +kernel) (by decide +kernel)
set_option maxRecDepth 20000 in
theorem gX4_putWrittenText_X1_look : GoodIn wsX4_putWrittenText (wsV RX4 80 RX1 yX1_look wsX1_look) := goodIn_app (goodIn_of _ (by decide +kernel)) ggX4_putWrittenText_X1_look
set_option maxRecDepth 20000 in
theorem ggX4_putWrittenText_X1_pass : GoodIn wsX4_putWrittenText wsX1_pass := goodIn_r _ [36, 20, 11, 12, 13, 14, 8, 15, 10, 72, 73, 74, 75] (by decide +kernel) (by decide +kernel)
set_option maxRecDepth 20000 in
theorem gX4_putWrittenText_X1_pass : GoodIn wsX4_putWrittenText (wsV RX4 118 RX1 yX1_pass wsX1_pass) := goodIn_app (goodIn_of _ (by decide +kernel)) ggX4_putWrittenText_X1_pass
set_option maxRecDepth 20000 in
theorem ggX4_putWrittenText_X3_putText : GoodIn wsX4_putWrittenText wsX3_putText := goodIn_ca (goodIn_r _ [41, 42, 43, 44, 40, 45, 46, 47, 48, 49, 50, 51, 52, 53, 54, 55, 56, 57, 58, 59, 60, 61, 62, 63, 64, 78, 79, 80, 81, 82] (by decide +kernel) (by decide +kernel)) (goodIn_sub (fun _ h => List.mem_cons_of_mem _ (List.mem_append_right _ h)) (by decide +kernel))
set_option maxRecDepth 20000 in
theorem gX4_putWrittenText_X3_putText : GoodIn wsX4_putWrittenText (wsV RX4 162 RX3 yX3_putText wsX3_putText) := goodIn_app (goodIn_of _ (by decide +kernel)) ggX4_putWrittenText_X3_putText
theorem dX4_putWrittenText_0 : decode cX4_putWrittenText 0 = .ok (.aload_n 0, 1) := by decide +kernel
theorem dX4_putWrittenText_1 : decode cX4_putWrittenText 1 = .ok (.getfield 28, 3) := by decide +kernel
theorem dX4_putWrittenText_4 : decode cX4_putWrittenText 4 = .ok (.invokevirtual 153, 3) := by decide +kernel
theorem dX4_putWrittenText_7 : decode cX4_putWrittenText 7 = .ok (.astore_n 1, 1) := by decide +kernel
theorem dX4_putWrittenText_8 : decode cX4_putWrittenText 8 = .ok (.aload_n 0, 1) := by decide +kernel
theorem dX4_putWrittenText_9 : decode cX4_putWrittenText 9 = .ok (.getfield 28, 3) := by decide +kernel
theorem dX4_putWrittenText_12 : decode cX4_putWrittenText 12 = .ok (.invokevirtual 157, 3) := by decide +kernel
theorem dX4_putWrittenText_15 : decode cX4_putWrittenText 15 = .ok (.istore_n 2, 1) := by decide +kernel
theorem dX4_putWrittenText_16 : decode cX4_putWrittenText 16 = .ok (.iconst 1, 1) := by decide +kernel
theorem dX4_putWrittenText_17 : decode cX4_putWrittenText 17 = .ok (.istore_n 3, 1) := by decide +kernel
theorem dX4_putWrittenText_18 : decode cX4_putWrittenText 18 = .ok (.iconst 0, 1) := by decide +kernel
theorem dX4_putWrittenText_19 : decode cX4_putWrittenText 19 = .ok (.istore 4, 2) := by decide +kernel
theorem dX4_putWrittenText_21 : decode cX4_putWrittenText 21 = .ok (.iload 4, 2) := by decide +kernel
theorem dX4_putWrittenText_23 : decode cX4_putWrittenText 23 = .ok (.sipush 160, 3) := by decide +kernel
theorem dX4_putWrittenText_26 : decode cX4_putWrittenText 26 = .ok (.if_icmp .ge 60, 3) := by decide +kernel
theorem dX4_putWrittenText_29 : decode cX4_putWrittenText 29 = .ok (.iload_n 3, 1) := by decide +kernel
theorem dX4_putWrittenText_30 : decode cX4_putWrittenText 30 = .ok (.ifCond .le 56, 3) := by decide +kernel
theorem dX4_putWrittenText_33 : decode cX4_putWrittenText 33 = .ok (.aload_n 0, 1) := by decide +kernel
theorem dX4_putWrittenText_34 : decode cX4_putWrittenText 34 = .ok (.getfield 28, 3) := by decide +kernel
theorem dX4_putWrittenText_37 : decode cX4_putWrittenText 37 = .ok (.invokevirtual 80, 3) := by decide +kernel
theorem dX4_putWrittenText_40 : decode cX4_putWrittenText 40 = .ok (.istore 5, 2) := by decide +kernel
theorem dX4_putWrittenText_42 : decode cX4_putWrittenText 42 = .ok (.iload 5, 2) := by decide +kernel
theorem dX4_putWrittenText_44 : decode cX4_putWrittenText 44 = .ok (.ifCond .ne 6, 3) := by decide +kernel
theorem dX4_putWrittenText_47 : decode cX4_putWrittenText 47 = .ok (.goto 39, 3) := by decide +kernel
theorem dX4_putWrittenText_50 : decode cX4_putWrittenText 50 = .ok (.iload 5, 2) := by decide +kernel
theorem dX4_putWrittenText_52 : decode cX4_putWrittenText 52 = .ok (.bipush 91, 2) := by decide +kernel
theorem dX4_putWrittenText_54 : decode cX4_putWrittenText 54 = .ok (.if_icmp .ne 9, 3) := by decide +kernel
theorem dX4_putWrittenText_57 : decode cX4_putWrittenText 57 = .ok (.iinc 3 1, 3) := by decide +kernel
theorem dX4_putWrittenText_60 : decode cX4_putWrittenText 60 = .ok (.goto 13, 3) := by decide +kernel
theorem dX4_putWrittenText_63 : decode cX4_putWrittenText 63 = .ok (.iload 5, 2) := by decide +kernel
theorem dX4_putWrittenText_65 : decode cX4_putWrittenText 65 = .ok (.bipush 93, 2) := by decide +kernel
theorem dX4_putWrittenText_67 : decode cX4_putWrittenText 67 = .ok (.if_icmp .ne 6, 3) := by decide +kernel
theorem dX4_putWrittenText_70 : decode cX4_putWrittenText 70 = .ok (.iinc 3 (-1), 3) := by decide +kernel
theorem dX4_putWrittenText_73 : decode cX4_putWrittenText 73 = .ok (.aload_n 0, 1) := by decide +kernel
theorem dX4_putWrittenText_74 : decode cX4_putWrittenText 74 = .ok (.getfield 28, 3) := by decide +kernel
theorem dX4_putWrittenText_77 : decode cX4_putWrittenText 77 = .ok (.invokevirtual 118, 3) := by decide +kernel
theorem dX4_putWrittenText_80 : decode cX4_putWrittenText 80 = .ok (.iinc 4 1, 3) := by decide +kernel
theorem dX4_putWrittenText_83 : decode cX4_putWrittenText 83 = .ok (.goto (-62), 3) := by decide +kernel
theorem dX4_putWrittenText_86 : decode cX4_putWrittenText 86 = .ok (.iload_n 3, 1) := by decide +kernel
theorem dX4_putWrittenText_87 : decode cX4_putWrittenText 87 = .ok (.ifCond .gt 7, 3) := by decide +kernel
theorem dX4_putWrittenText_90 : decode cX4_putWrittenText 90 = .ok (.aload_n 1, 1) := by decide +kernel
theorem dX4_putWrittenText_91 : decode cX4_putWrittenText 91 = .ok (.ifnonnull 13, 3) := by decide +kernel
theorem dX4_putWrittenText_94 : decode cX4_putWrittenText 94 = .ok (.new 56, 3) := by decide +kernel
theorem dX4_putWrittenText_97 : decode cX4_putWrittenText 97 = .ok (.dup, 1) := by decide +kernel
theorem dX4_putWrittenText_98 : decode cX4_putWrittenText 98 = .ok (.ldc 160, 2) := by decide +kernel
theorem dX4_putWrittenText_100 : decode cX4_putWrittenText 100 = .ok (.invokespecial 60, 3) := by decide +kernel
theorem dX4_putWrittenText_103 : decode cX4_putWrittenText 103 = .ok (.athrow, 1) := by decide +kernel
theorem dX4_putWrittenText_104 : decode cX4_putWrittenText 104 = .ok (.aload_n 0, 1) := by decide +kernel
theorem dX4_putWrittenText_105 : decode cX4_putWrittenText 105 = .ok (.getfield 14, 3) := by decide +kernel
theorem dX4_putWrittenText_108 : decode cX4_putWrittenText 108 = .ok (.aload_n 1, 1) := by decide +kernel
theorem dX4_putWrittenText_109 : decode cX4_putWrittenText 109 = .ok (.iload_n 2, 1) := by decide +kernel
theorem dX4_putWrittenText_110 : decode cX4_putWrittenText 110 = .ok (.aload_n 0, 1) := by decide +kernel
theorem dX4_putWrittenText_111 : decode cX4_putWrittenText 111 = .ok (.getfield 28, 3) := by decide +kernel
theorem dX4_putWrittenText_114 : decode cX4_putWrittenText 114 = .ok (.invokevirtual 157, 3) := by decide +kernel
theorem dX4_putWrittenText_117 : decode cX4_putWrittenText 117 = .ok (.iconst 1, 1) := by decide +kernel
theorem dX4_putWrittenText_118 : decode cX4_putWrittenText 118 = .ok (.isub, 1) := by decide +kernel
theorem dX4_putWrittenText_119 : decode cX4_putWrittenText 119 = .ok (.iload_n 2, 1) := by decide +kernel
theorem dX4_putWrittenText_120 : decode cX4_putWrittenText 120 = .ok (.isub, 1) := by decide +kernel
theorem dX4_putWrittenText_121 : decode cX4_putWrittenText 121 = .ok (.invokevirtual 162, 3) := by decide +kernel
theorem dX4_putWrittenText_124 : decode cX4_putWrittenText 124 = .ok (.return_, 1) := by decide +kernel
theorem dX4_needItems_0 : decode cX4_needItems 0 = .ok (.aload_n 0, 1) := by decide +kernel
theorem dX4_needItems_1 : decode cX4_needItems 1 = .ok (.getfield 14, 3) := by decide +kernel
theorem dX4_needItems_4 : decode cX4_needItems 4 = .ok (.getfield 95, 3) := by decide +kernel
theorem dX4_needItems_7 : decode cX4_needItems 7 = .ok (.iload_n 1, 1) := by decide +kernel
theorem dX4_needItems_8 : decode cX4_needItems 8 = .ok (.if_icmp .ge 13, 3) := by decide +kernel
theorem dX4_needItems_11 : decode cX4_needItems 11 = .ok (.new 165, 3) := by decide +kernel
theorem dX4_needItems_14 : decode cX4_needItems 14 = .ok (.dup, 1) := by decide +kernel
theorem dX4_needItems_15 : decode cX4_needItems 15 = .ok (.ldc 167, 2) := by decide +kernel
theorem dX4_needItems_17 : decode cX4_needItems 17 = .ok (.invokespecial 169, 3) := by decide +kernel
theorem dX4_needItems_20 : decode cX4_needItems 20 = .ok (.athrow, 1) := by decide +kernel
theorem dX4_needItems_21 : decode cX4_needItems 21 = .ok (.return_, 1) := by decide +kernel
set_option maxRecDepth 20000 in
theorem ggX4_needNumbers_X4_needItems : GoodIn wsX4_needNumbers wsX4_needItems := goodIn_ca (goodIn_r _ [8, 9, 10, 3, 11, 28, 29, 30, 31, 32, 33, 34, 35, 36, 37, 38, 39] (by decide +kernel) (by decide +kernel)) (goodIn_sub (fun _ h => List.mem_cons_of_mem _ (List.mem_append_right _ h)) (by decide +kernel))
set_option maxRecDepth 20000 in
theorem gX4_needNumbers_X4_needItems : GoodIn wsX4_needNumbers (wsV RX4 170 RX4 yX4_needItems wsX4_needItems) := goodIn_app (goodIn_of _ (by decide +kernel)) ggX4_needNumbers_X4_needItems
set_option maxRecDepth 20000 in
theorem ggX4_needNumbers_X3_slotBelowTop : GoodIn wsX4_needNumbers wsX3_slotBelowTop := goodIn_r _ [16, 17, 35, 36, 37, 38, 39] (by decide +kernel) (by decide +kernel)
set_option maxRecDepth 20000 in
theorem gX4_needNumbers_X3_slotBelowTop : GoodIn wsX4_needNumbers (wsV RX4 104 RX3 yX3_slotBelowTop wsX3_slotBelowTop) := goodIn_app (goodIn_of _ (by decide +kernel)) ggX4_needNumbers_X3_slotBelowTop
set_option maxRecDepth 20000 in
theorem ggX4_needNumbers_X3_rowAt : GoodIn wsX4_needNumbers wsX3_rowAt := goodIn_r _ [21, 22, 23, 24, 25, 15, 26, 17, 27, 35, 36, 37, 38, 39] (by decide +kernel) (by decide +kernel)
set_option maxRecDepth 20000 in
theorem gX4_needNumbers_X3_rowAt : GoodIn wsX4_needNumbers (wsV RX4 173 RX3 yX3_rowAt wsX3_rowAt) := goodIn_app (goodIn_of _ (by decide +kernel)) ggX4_needNumbers_X3_rowAt
theorem dX4_needNumbers_0 : decode cX4_needNumbers 0 = .ok (.aload_n 0, 1) := by decide +kernel
theorem dX4_needNumbers_1 : decode cX4_needNumbers 1 = .ok (.iload_n 1, 1) := by decide +kernel
theorem dX4_needNumbers_2 : decode cX4_needNumbers 2 = .ok (.invokevirtual 170, 3) := by decide +kernel
theorem dX4_needNumbers_5 : decode cX4_needNumbers 5 = .ok (.iconst 0, 1) := by decide +kernel
theorem dX4_needNumbers_6 : decode cX4_needNumbers 6 = .ok (.istore_n 2, 1) := by decide +kernel
theorem dX4_needNumbers_7 : decode cX4_needNumbers 7 = .ok (.iload_n 2, 1) := by decide +kernel
theorem dX4_needNumbers_8 : decode cX4_needNumbers 8 = .ok (.iload_n 1, 1) := by decide +kernel
theorem dX4_needNumbers_9 : decode cX4_needNumbers 9 = .ok (.if_icmp .ge 37, 3) := by decide +kernel
theorem dX4_needNumbers_12 : decode cX4_needNumbers 12 = .ok (.aload_n 0, 1) := by decide +kernel
theorem dX4_needNumbers_13 : decode cX4_needNumbers 13 = .ok (.getfield 14, 3) := by decide +kernel
theorem dX4_needNumbers_16 : decode cX4_needNumbers 16 = .ok (.aload_n 0, 1) := by decide +kernel
theorem dX4_needNumbers_17 : decode cX4_needNumbers 17 = .ok (.getfield 14, 3) := by decide +kernel
theorem dX4_needNumbers_20 : decode cX4_needNumbers 20 = .ok (.iload_n 2, 1) := by decide +kernel
theorem dX4_needNumbers_21 : decode cX4_needNumbers 21 = .ok (.invokevirtual 104, 3) := by decide +kernel
theorem dX4_needNumbers_24 : decode cX4_needNumbers 24 = .ok (.invokevirtual 173, 3) := by decide +kernel
theorem dX4_needNumbers_27 : decode cX4_needNumbers 27 = .ok (.ifnull 13, 3) := by decide +kernel
theorem dX4_needNumbers_30 : decode cX4_needNumbers 30 = .ok (.new 177, 3) := by decide +kernel
theorem dX4_needNumbers_33 : decode cX4_needNumbers 33 = .ok (.dup, 1) := by decide +kernel
theorem dX4_needNumbers_34 : decode cX4_needNumbers 34 = .ok (.ldc 179, 2) := by decide +kernel
theorem dX4_needNumbers_36 : decode cX4_needNumbers 36 = .ok (.invokespecial 181, 3) := by decide +kernel
theorem dX4_needNumbers_39 : decode cX4_needNumbers 39 = .ok (.athrow, 1) := by decide +kernel
theorem dX4_needNumbers_40 : decode cX4_needNumbers 40 = .ok (.iinc 2 1, 3) := by decide +kernel
theorem dX4_needNumbers_43 : decode cX4_needNumbers 43 = .ok (.goto (-36), 3) := by decide +kernel
theorem dX4_needNumbers_46 : decode cX4_needNumbers 46 = .ok (.return_, 1) := by decide +kernel
set_option maxRecDepth 20000 in
theorem ggX4_calculate_X4_needNumbers : GoodIn wsX4_calculate wsX4_needNumbers := goodIn_ca (goodIn_ca (goodIn_r _ [14, 15, 16, 1, 17, 18, 19, 13, 20, 21, 22, 23, 24, 25, 26, 27, 28, 29, 30, 31, 32, 33, 34, 35, 36, 37, 38, 39, 113, 114, 115, 116, 117, 118, 119, 120, 121, 122, 123, 124] (by decide +kernel) (by decide +kernel)) (goodIn_sub (fun _ h => List.mem_cons_of_mem _ (List.mem_append_left _ (List.mem_append_left _ (List.mem_append_left _ (List.mem_append_left _ (List.mem_append_right _ h)))))) (by decide +kernel))) (goodIn_sub (fun _ h => List.mem_cons_of_mem _ (List.mem_append_left _ (List.mem_append_left _ (List.mem_append_left _ (List.mem_append_right _ h))))) (by decide +kernel))
set_option maxRecDepth 20000 in
theorem gX4_calculate_X4_needNumbers : GoodIn wsX4_calculate (wsV RX4 182 RX4 yX4_needNumbers wsX4_needNumbers) := goodIn_app (goodIn_of _ (by decide +kernel)) ggX4_calculate_X4_needNumbers
set_option maxRecDepth 20000 in
theorem ggX4_calculate_X3_slotBelowTop : GoodIn wsX4_calculate wsX3_slotBelowTop := goodIn_r _ [28, 29, 120, 121, 122, 123, 124] (by decide +kernel) (by decide +kernel)
set_option maxRecDepth 20000 in
theorem gX4_calculate_X3_slotBelowTop : GoodIn wsX4_calculate (wsV RX4 104 RX3 yX3_slotBelowTop wsX3_slotBelowTop) := goodIn_app (goodIn_of _ (by decide +kernel)) ggX4_calculate_X3_slotBelowTop
set_option maxRecDepth 20000 in
theorem ggX4_calculate_X3_valueAt : GoodIn wsX4_calculate wsX3_valueAt := goodIn_r _ [43, 39, 35, 36, 37, 27, 38, 29, 120, 121, 122, 123, 124] (by decide +kernel) (by decide +kernel)
set_option maxRecDepth 20000 in
theorem gX4_calculate_X3_valueAt : GoodIn wsX4_calculate (wsV RX4 96 RX3 yX3_valueAt wsX3_valueAt) := goodIn_app (goodIn_of _ (by decide +kernel)) ggX4_calculate_X3_valueAt
set_option maxRecDepth 20000 in
theorem ggX4_calculate_X3_placesAt : GoodIn wsX4_calculate wsX3_placesAt := goodIn_r _ [47, 48, 35, 36, 37, 27, 38, 29, 39, 120, 121, 122, 123, 124] (by decide +kernel) (by decide +kernel)
set_option maxRecDepth 20000 in
theorem gX4_calculate_X3_placesAt : GoodIn wsX4_calculate (wsV RX4 100 RX3 yX3_placesAt wsX3_placesAt) := goodIn_app (goodIn_of _ (by decide +kernel)) ggX4_calculate_X3_placesAt
set_option maxRecDepth 20000 in
theorem ggX4_calculate_X0_sum : GoodIn wsX4_calculate wsX0_sum := goodIn_ca (goodIn_r _ [52, 53, 3, 4, 5, 54, 55, 51, 56, 57, 58, 59, 60, 61, 8, 9, 62, 63, 64, 65, 66, 67, 68, 69, 70, 71, 72, 73] (by decide +kernel) (by decide +kernel)) (goodIn_sub (fun _ h => List.mem_cons_of_mem _ (List.mem_append_left _ (List.mem_append_left _ (List.mem_append_right _ h)))) (by decide +kernel))
set_option maxRecDepth 20000 in
theorem gX4_calculate_X0_sum : GoodIn wsX4_calculate (va_wsS RX4 191 yX0_sum wsX0_sum) := goodIn_app (goodIn_of _ (by decide +kernel)) ggX4_calculate_X0_sum
set_option maxRecDepth 20000 in
theorem ggX4_calculate_X0_times : GoodIn wsX4_calculate wsX0_times := goodIn_ca (goodIn_r _ [64, 65, 66, 67, 68, 4, 69, 70] (by decide +kernel) (by decide +kernel)) (goodIn_sub (fun _ h => List.mem_cons_of_mem _ (List.mem_append_left _ (List.mem_append_left _ (List.mem_append_right _ h)))) (by decide +kernel))
set_option maxRecDepth 20000 in
theorem gX4_calculate_X0_times : GoodIn wsX4_calculate (va_wsS RX4 200 yX0_times wsX0_times) := goodIn_app (goodIn_of _ (by decide +kernel)) ggX4_calculate_X0_times
set_option maxRecDepth 20000 in
theorem ggX4_calculate_X0_cutOff : GoodIn wsX4_calculate wsX0_cutOff := goodIn_r _ [77, 57, 58, 51, 59, 60, 53, 3, 4, 5, 61, 8, 9, 78, 79, 80] (by decide +kernel) (by decide +kernel)
set_option maxRecDepth 20000 in
theorem gX4_calculate_X0_cutOff : GoodIn wsX4_calculate (va_wsS RX4 204 yX0_cutOff wsX0_cutOff) := goodIn_app (goodIn_of _ (by decide +kernel)) ggX4_calculate_X0_cutOff
set_option maxRecDepth 20000 in
theorem ggX4_calculate_X0_quotient : GoodIn wsX4_calculate wsX0_quotient := goodIn_ca (goodIn_ca (goodIn_r _ [83, 84, 85, 54, 55, 51, 56, 57, 58, 59, 60, 53, 3, 4, 5, 61, 8, 9, 62, 63, 64, 65, 66, 67, 68, 69, 70, 78, 79, 80] (by decide +kernel) (by decide +kernel)) (goodIn_sub (fun _ h => List.mem_cons_of_mem _ (List.mem_append_left _ (List.mem_append_right _ h))) (by decide +kernel))) (goodIn_sub (fun _ h => List.mem_cons_of_mem _ (List.mem_append_left _ (List.mem_append_left _ (List.mem_append_right _ h)))) (by decide +kernel))
set_option maxRecDepth 20000 in
theorem gX4_calculate_X0_quotient : GoodIn wsX4_calculate (va_wsS RX4 208 yX0_quotient wsX0_quotient) := goodIn_app (goodIn_of _ (by decide +kernel)) ggX4_calculate_X0_quotient
set_option maxRecDepth 20000 in
theorem ggX4_calculate_X0_remainder : GoodIn wsX4_calculate wsX0_remainder := goodIn_ca (goodIn_ca (goodIn_r _ [88, 65, 66, 53, 3, 4, 5, 89, 82, 51, 83, 84, 85, 54, 55, 56, 57, 58, 59, 60, 61, 8, 9, 62, 63, 64, 67, 68, 69, 70, 78, 79, 80, 71, 72, 73] (by decide +kernel) (by decide +kernel)) (goodIn_sub (fun _ h => List.mem_cons_of_mem _ (List.mem_append_left _ (List.mem_append_left _ (List.mem_append_right _ h)))) (by decide +kernel))) (goodIn_sub (fun _ h => List.mem_cons_of_mem _ (List.mem_append_left _ (List.mem_append_right _ h))) (by decide +kernel))
set_option maxRecDepth 20000 in
theorem gX4_calculate_X0_remainder : GoodIn wsX4_calculate (va_wsS RX4 212 yX0_remainder wsX0_remainder) := goodIn_app (goodIn_of _ (by decide +kernel)) ggX4_calculate_X0_remainder
set_option maxRecDepth 20000 in
theorem ggX4_calculate_X3_drop : GoodIn wsX4_calculate wsX3_drop := goodIn_r _ [93, 29, 94, 3, 4, 5, 120, 121, 122, 123, 124] (by decide +kernel) (by decide +kernel)
set_option maxRecDepth 20000 in
theorem gX4_calculate_X3_drop : GoodIn wsX4_calculate (wsV RX4 215 RX3 yX3_drop wsX3_drop) := goodIn_app (goodIn_of _ (by decide +kernel)) ggX4_calculate_X3_drop
set_option maxRecDepth 20000 in
theorem ggX4_calculate_X3_putNumber : GoodIn wsX4_calculate wsX3_putNumber := goodIn_ca (goodIn_r _ [98, 99, 100, 101, 27, 102, 103, 66, 29, 104, 105, 106, 107, 39, 108, 109, 110, 111, 48, 34, 112, 35, 36, 37, 38, 120, 121, 122, 123, 124] (by decide +kernel) (by decide +kernel)) (goodIn_sub (fun _ h => List.mem_cons_of_mem _ (List.mem_append_right _ h)) (by decide +kernel))
set_option maxRecDepth 20000 in
theorem gX4_calculate_X3_putNumber : GoodIn wsX4_calculate (wsV RX4 149 RX3 yX3_putNumber wsX3_putNumber) := goodIn_app (goodIn_of _ (by decide +kernel)) ggX4_calculate_X3_putNumber
theorem dX4_calculate_0 : decode cX4_calculate 0 = .ok (.aload_n 0, 1) := by decide +kernel
theorem dX4_calculate_1 : decode cX4_calculate 1 = .ok (.iconst 2, 1) := by decide +kernel
theorem dX4_calculate_2 : decode cX4_calculate 2 = .ok (.invokevirtual 182, 3) := by decide +kernel
theorem dX4_calculate_5 : decode cX4_calculate 5 = .ok (.aload_n 0, 1) := by decide +kernel
theorem dX4_calculate_6 : decode cX4_calculate 6 = .ok (.getfield 14, 3) := by decide +kernel
theorem dX4_calculate_9 : decode cX4_calculate 9 = .ok (.aload_n 0, 1) := by decide +kernel
theorem dX4_calculate_10 : decode cX4_calculate 10 = .ok (.getfield 14, 3) := by decide +kernel
theorem dX4_calculate_13 : decode cX4_calculate 13 = .ok (.iconst 1, 1) := by decide +kernel
theorem dX4_calculate_14 : decode cX4_calculate 14 = .ok (.invokevirtual 104, 3) := by decide +kernel
theorem dX4_calculate_17 : decode cX4_calculate 17 = .ok (.invokevirtual 96, 3) := by decide +kernel
theorem dX4_calculate_20 : decode cX4_calculate 20 = .ok (.lstore_n 2, 1) := by decide +kernel
theorem dX4_calculate_21 : decode cX4_calculate 21 = .ok (.aload_n 0, 1) := by decide +kernel
theorem dX4_calculate_22 : decode cX4_calculate 22 = .ok (.getfield 14, 3) := by decide +kernel
theorem dX4_calculate_25 : decode cX4_calculate 25 = .ok (.aload_n 0, 1) := by decide +kernel
theorem dX4_calculate_26 : decode cX4_calculate 26 = .ok (.getfield 14, 3) := by decide +kernel
theorem dX4_calculate_29 : decode cX4_calculate 29 = .ok (.iconst 1, 1) := by decide +kernel
theorem dX4_calculate_30 : decode cX4_calculate 30 = .ok (.invokevirtual 104, 3) := by decide +kernel
theorem dX4_calculate_33 : decode cX4_calculate 33 = .ok (.invokevirtual 100, 3) := by decide +kernel
theorem dX4_calculate_36 : decode cX4_calculate 36 = .ok (.istore 4, 2) := by decide +kernel
theorem dX4_calculate_38 : decode cX4_calculate 38 = .ok (.aload_n 0, 1) := by decide +kernel
theorem dX4_calculate_39 : decode cX4_calculate 39 = .ok (.getfield 14, 3) := by decide +kernel
theorem dX4_calculate_42 : decode cX4_calculate 42 = .ok (.aload_n 0, 1) := by decide +kernel
theorem dX4_calculate_43 : decode cX4_calculate 43 = .ok (.getfield 14, 3) := by decide +kernel
theorem dX4_calculate_46 : decode cX4_calculate 46 = .ok (.iconst 0, 1) := by decide +kernel
theorem dX4_calculate_47 : decode cX4_calculate 47 = .ok (.invokevirtual 104, 3) := by decide +kernel
theorem dX4_calculate_50 : decode cX4_calculate 50 = .ok (.invokevirtual 96, 3) := by decide +kernel
theorem dX4_calculate_53 : decode cX4_calculate 53 = .ok (.lstore 5, 2) := by decide +kernel
theorem dX4_calculate_55 : decode cX4_calculate 55 = .ok (.aload_n 0, 1) := by decide +kernel
theorem dX4_calculate_56 : decode cX4_calculate 56 = .ok (.getfield 14, 3) := by decide +kernel
theorem dX4_calculate_59 : decode cX4_calculate 59 = .ok (.aload_n 0, 1) := by decide +kernel
theorem dX4_calculate_60 : decode cX4_calculate 60 = .ok (.getfield 14, 3) := by decide +kernel
theorem dX4_calculate_63 : decode cX4_calculate 63 = .ok (.iconst 0, 1) := by decide +kernel
theorem dX4_calculate_64 : decode cX4_calculate 64 = .ok (.invokevirtual 104, 3) := by decide +kernel
theorem dX4_calculate_67 : decode cX4_calculate 67 = .ok (.invokevirtual 100, 3) := by decide +kernel
theorem dX4_calculate_70 : decode cX4_calculate 70 = .ok (.istore 7, 2) := by decide +kernel
theorem dX4_calculate_72 : decode cX4_calculate 72 = .ok (.iload 4, 2) := by decide +kernel
theorem dX4_calculate_74 : decode cX4_calculate 74 = .ok (.iload 7, 2) := by decide +kernel
theorem dX4_calculate_76 : decode cX4_calculate 76 = .ok (.invokestatic 185, 3) := by decide +kernel
theorem dX4_calculate_79 : decode cX4_calculate 79 = .ok (.istore 8, 2) := by decide +kernel
theorem dX4_calculate_81 : decode cX4_calculate 81 = .ok (.iload_n 1, 1) := by decide +kernel
theorem dX4_calculate_82 : decode cX4_calculate 82 = .ok (.tableswitch 143 42 47 #[77, 38, 143, 57, 143, 118], 38) := by decide +kernel
theorem dX4_calculate_120 : decode cX4_calculate 120 = .ok (.iload 8, 2) := by decide +kernel
theorem dX4_calculate_122 : decode cX4_calculate 122 = .ok (.istore 11, 2) := by decide +kernel
theorem dX4_calculate_124 : decode cX4_calculate 124 = .ok (.lload_n 2, 1) := by decide +kernel
theorem dX4_calculate_125 : decode cX4_calculate 125 = .ok (.iload 4, 2) := by decide +kernel
theorem dX4_calculate_127 : decode cX4_calculate 127 = .ok (.lload 5, 2) := by decide +kernel
theorem dX4_calculate_129 : decode cX4_calculate 129 = .ok (.iload 7, 2) := by decide +kernel
theorem dX4_calculate_131 : decode cX4_calculate 131 = .ok (.invokestatic 191, 3) := by decide +kernel
theorem dX4_calculate_134 : decode cX4_calculate 134 = .ok (.lstore 9, 2) := by decide +kernel
theorem dX4_calculate_136 : decode cX4_calculate 136 = .ok (.goto 119, 3) := by decide +kernel
theorem dX4_calculate_139 : decode cX4_calculate 139 = .ok (.iload 8, 2) := by decide +kernel
theorem dX4_calculate_141 : decode cX4_calculate 141 = .ok (.istore 11, 2) := by decide +kernel
theorem dX4_calculate_143 : decode cX4_calculate 143 = .ok (.lload_n 2, 1) := by decide +kernel
theorem dX4_calculate_144 : decode cX4_calculate 144 = .ok (.iload 4, 2) := by decide +kernel
theorem dX4_calculate_146 : decode cX4_calculate 146 = .ok (.lload 5, 2) := by decide +kernel
theorem dX4_calculate_148 : decode cX4_calculate 148 = .ok (.lneg, 1) := by decide +kernel
theorem dX4_calculate_149 : decode cX4_calculate 149 = .ok (.iload 7, 2) := by decide +kernel
theorem dX4_calculate_151 : decode cX4_calculate 151 = .ok (.invokestatic 191, 3) := by decide +kernel
theorem dX4_calculate_154 : decode cX4_calculate 154 = .ok (.lstore 9, 2) := by decide +kernel
theorem dX4_calculate_156 : decode cX4_calculate 156 = .ok (.goto 99, 3) := by decide +kernel
theorem dX4_calculate_159 : decode cX4_calculate 159 = .ok (.iload 4, 2) := by decide +kernel
theorem dX4_calculate_161 : decode cX4_calculate 161 = .ok (.iload 7, 2) := by decide +kernel
theorem dX4_calculate_163 : decode cX4_calculate 163 = .ok (.iadd, 1) := by decide +kernel
theorem dX4_calculate_164 : decode cX4_calculate 164 = .ok (.aload_n 0, 1) := by decide +kernel
theorem dX4_calculate_165 : decode cX4_calculate 165 = .ok (.getfield 39, 3) := by decide +kernel
theorem dX4_calculate_168 : decode cX4_calculate 168 = .ok (.iload 8, 2) := by decide +kernel
theorem dX4_calculate_170 : decode cX4_calculate 170 = .ok (.invokestatic 185, 3) := by decide +kernel
theorem dX4_calculate_173 : decode cX4_calculate 173 = .ok (.invokestatic 197, 3) := by decide +kernel
theorem dX4_calculate_176 : decode cX4_calculate 176 = .ok (.istore 11, 2) := by decide +kernel
theorem dX4_calculate_178 : decode cX4_calculate 178 = .ok (.lload_n 2, 1) := by decide +kernel
theorem dX4_calculate_179 : decode cX4_calculate 179 = .ok (.lload 5, 2) := by decide +kernel
theorem dX4_calculate_181 : decode cX4_calculate 181 = .ok (.invokestatic 200, 3) := by decide +kernel
theorem dX4_calculate_184 : decode cX4_calculate 184 = .ok (.iload 4, 2) := by decide +kernel
theorem dX4_calculate_186 : decode cX4_calculate 186 = .ok (.iload 7, 2) := by decide +kernel
theorem dX4_calculate_188 : decode cX4_calculate 188 = .ok (.iadd, 1) := by decide +kernel
theorem dX4_calculate_189 : decode cX4_calculate 189 = .ok (.iload 11, 2) := by decide +kernel
theorem dX4_calculate_191 : decode cX4_calculate 191 = .ok (.isub, 1) := by decide +kernel
theorem dX4_calculate_192 : decode cX4_calculate 192 = .ok (.invokestatic 204, 3) := by decide +kernel
theorem dX4_calculate_195 : decode cX4_calculate 195 = .ok (.lstore 9, 2) := by decide +kernel
theorem dX4_calculate_197 : decode cX4_calculate 197 = .ok (.goto 58, 3) := by decide +kernel
theorem dX4_calculate_200 : decode cX4_calculate 200 = .ok (.aload_n 0, 1) := by decide +kernel
theorem dX4_calculate_201 : decode cX4_calculate 201 = .ok (.getfield 39, 3) := by decide +kernel
theorem dX4_calculate_204 : decode cX4_calculate 204 = .ok (.istore 11, 2) := by decide +kernel
theorem dX4_calculate_206 : decode cX4_calculate 206 = .ok (.lload_n 2, 1) := by decide +kernel
theorem dX4_calculate_207 : decode cX4_calculate 207 = .ok (.iload 4, 2) := by decide +kernel
theorem dX4_calculate_209 : decode cX4_calculate 209 = .ok (.lload 5, 2) := by decide +kernel
theorem dX4_calculate_211 : decode cX4_calculate 211 = .ok (.iload 7, 2) := by decide +kernel
theorem dX4_calculate_213 : decode cX4_calculate 213 = .ok (.aload_n 0, 1) := by decide +kernel
end
section
theorem dX4_calculate_214 : decode cX4_calculate 214 = .ok (.getfield 39, 3) := by decide +kernel
theorem dX4_calculate_217 : decode cX4_calculate 217 = .ok (.invokestatic 208, 3) := by decide +kernel
theorem dX4_calculate_220 : decode cX4_calculate 220 = .ok (.lstore 9, 2) := by decide +kernel
theorem dX4_calculate_222 : decode cX4_calculate 222 = .ok (.goto 33, 3) := by decide +kernel
theorem dX4_calculate_225 : decode cX4_calculate 225 = .ok (.aload_n 0, 1) := by decide +kernel
theorem dX4_calculate_226 : decode cX4_calculate 226 = .ok (.getfield 39, 3) := by decide +kernel
theorem dX4_calculate_229 : decode cX4_calculate 229 = .ok (.iload 7, 2) := by decide +kernel
theorem dX4_calculate_231 : decode cX4_calculate 231 = .ok (.iadd, 1) := by decide +kernel
theorem dX4_calculate_232 : decode cX4_calculate 232 = .ok (.iload 4, 2) := by decide +kernel
theorem dX4_calculate_234 : decode cX4_calculate 234 = .ok (.invokestatic 185, 3) := by decide +kernel
theorem dX4_calculate_237 : decode cX4_calculate 237 = .ok (.istore 11, 2) := by decide +kernel
theorem dX4_calculate_239 : decode cX4_calculate 239 = .ok (.lload_n 2, 1) := by decide +kernel
theorem dX4_calculate_240 : decode cX4_calculate 240 = .ok (.iload 4, 2) := by decide +kernel
theorem dX4_calculate_242 : decode cX4_calculate 242 = .ok (.lload 5, 2) := by decide +kernel
theorem dX4_calculate_244 : decode cX4_calculate 244 = .ok (.iload 7, 2) := by decide +kernel
theorem dX4_calculate_246 : decode cX4_calculate 246 = .ok (.aload_n 0, 1) := by decide +kernel
theorem dX4_calculate_247 : decode cX4_calculate 247 = .ok (.getfield 39, 3) := by decide +kernel
theorem dX4_calculate_250 : decode cX4_calculate 250 = .ok (.invokestatic 212, 3) := by decide +kernel
theorem dX4_calculate_253 : decode cX4_calculate 253 = .ok (.lstore 9, 2) := by decide +kernel
theorem dX4_calculate_255 : decode cX4_calculate 255 = .ok (.aload_n 0, 1) := by decide +kernel
theorem dX4_calculate_256 : decode cX4_calculate 256 = .ok (.getfield 14, 3) := by decide +kernel
theorem dX4_calculate_259 : decode cX4_calculate 259 = .ok (.iconst 2, 1) := by decide +kernel
theorem dX4_calculate_260 : decode cX4_calculate 260 = .ok (.invokevirtual 215, 3) := by decide +kernel
theorem dX4_calculate_263 : decode cX4_calculate 263 = .ok (.aload_n 0, 1) := by decide +kernel
theorem dX4_calculate_264 : decode cX4_calculate 264 = .ok (.getfield 14, 3) := by decide +kernel
theorem dX4_calculate_267 : decode cX4_calculate 267 = .ok (.lload 9, 2) := by decide +kernel
theorem dX4_calculate_269 : decode cX4_calculate 269 = .ok (.iload 11, 2) := by decide +kernel
theorem dX4_calculate_271 : decode cX4_calculate 271 = .ok (.invokevirtual 149, 3) := by decide +kernel
theorem dX4_calculate_274 : decode cX4_calculate 274 = .ok (.return_, 1) := by decide +kernel
set_option maxRecDepth 20000 in
theorem ggX4_changeNumber_X4_needNumbers : GoodIn wsX4_changeNumber wsX4_needNumbers := goodIn_ca (goodIn_ca (goodIn_r _ [11, 12, 13, 1, 14, 15, 16, 10, 17, 18, 19, 20, 21, 22, 23, 24, 25, 26, 27, 28, 29, 30, 31, 32, 33, 34, 35, 36, 107, 108, 109, 110, 111, 112, 113, 114, 115, 116, 117, 118] (by decide +kernel) (by decide +kernel)) (goodIn_sub (fun _ h => List.mem_cons_of_mem _ (List.mem_append_left _ (List.mem_append_left _ (List.mem_append_left _ (List.mem_append_left _ (List.mem_append_right _ h)))))) (by decide +kernel))) (goodIn_sub (fun _ h => List.mem_cons_of_mem _ (List.mem_append_left _ (List.mem_append_left _ (List.mem_append_left _ (List.mem_append_right _ h))))) (by decide +kernel))
set_option maxRecDepth 20000 in
theorem gX4_changeNumber_X4_needNumbers : GoodIn wsX4_changeNumber (wsV RX4 182 RX4 yX4_needNumbers wsX4_needNumbers) := goodIn_app (goodIn_of _ (by decide +kernel)) ggX4_changeNumber_X4_needNumbers
set_option maxRecDepth 20000 in
theorem ggX4_changeNumber_X3_slotBelowTop : GoodIn wsX4_changeNumber wsX3_slotBelowTop := goodIn_r _ [25, 26, 114, 115, 116, 117, 118] (by decide +kernel) (by decide +kernel)
set_option maxRecDepth 20000 in
theorem gX4_changeNumber_X3_slotBelowTop : GoodIn wsX4_changeNumber (wsV RX4 104 RX3 yX3_slotBelowTop wsX3_slotBelowTop) := goodIn_app (goodIn_of _ (by decide +kernel)) ggX4_changeNumber_X3_slotBelowTop
set_option maxRecDepth 20000 in
theorem ggX4_changeNumber_X3_valueAt : GoodIn wsX4_changeNumber wsX3_valueAt := goodIn_r _ [40, 36, 32, 33, 34, 24, 35, 26, 114, 115, 116, 117, 118] (by decide +kernel) (by decide +kernel)
set_option maxRecDepth 20000 in
theorem gX4_changeNumber_X3_valueAt : GoodIn wsX4_changeNumber (wsV RX4 96 RX3 yX3_valueAt wsX3_valueAt) := goodIn_app (goodIn_of _ (by decide +kernel)) ggX4_changeNumber_X3_valueAt
set_option maxRecDepth 20000 in
theorem ggX4_changeNumber_X3_placesAt : GoodIn wsX4_changeNumber wsX3_placesAt := goodIn_r _ [44, 45, 32, 33, 34, 24, 35, 26, 36, 114, 115, 116, 117, 118] (by decide +kernel) (by decide +kernel)
set_option maxRecDepth 20000 in
theorem gX4_changeNumber_X3_placesAt : GoodIn wsX4_changeNumber (wsV RX4 100 RX3 yX3_placesAt wsX3_placesAt) := goodIn_app (goodIn_of _ (by decide +kernel)) ggX4_changeNumber_X3_placesAt
set_option maxRecDepth 20000 in
theorem ggX4_changeNumber_X0_asPlaces : GoodIn wsX4_changeNumber wsX0_asPlaces := goodIn_ca (goodIn_ca (goodIn_r _ [49, 50, 51, 52, 53, 54, 48, 55, 56, 57, 58, 59, 60, 4, 5, 6, 61, 62, 63, 64, 65, 66, 67, 68, 69, 70, 71, 72, 73, 74, 75, 76, 77, 78] (by decide +kernel) (by decide +kernel)) (goodIn_sub (fun _ h => List.mem_cons_of_mem _ (List.mem_append_left _ (List.mem_append_left _ (List.mem_append_right _ h)))) (by decide +kernel))) (goodIn_sub (fun _ h => List.mem_cons_of_mem _ (List.mem_append_left _ (List.mem_append_right _ h))) (by decide +kernel))
set_option maxRecDepth 20000 in
theorem gX4_changeNumber_X0_asPlaces : GoodIn wsX4_changeNumber (va_wsS RX4 218 yX0_asPlaces wsX0_asPlaces) := goodIn_app (goodIn_of _ (by decide +kernel)) ggX4_changeNumber_X0_asPlaces
set_option maxRecDepth 20000 in
theorem ggX4_changeNumber_X3_drop : GoodIn wsX4_changeNumber wsX3_drop := goodIn_r _ [82, 26, 83, 4, 5, 6, 114, 115, 116, 117, 118] (by decide +kernel) (by decide +kernel)
set_option maxRecDepth 20000 in
theorem gX4_changeNumber_X3_drop : GoodIn wsX4_changeNumber (wsV RX4 215 RX3 yX3_drop wsX3_drop) := goodIn_app (goodIn_of _ (by decide +kernel)) ggX4_changeNumber_X3_drop
set_option maxRecDepth 20000 in
theorem ggX4_changeNumber_X0_root : GoodIn wsX4_changeNumber wsX0_root := goodIn_ca (goodIn_ca (goodIn_r _ [86, 50, 51, 87, 88, 67, 68, 48, 69, 56, 57, 58, 59, 60, 4, 5, 6, 61, 62, 63, 70, 71, 72, 73, 74, 75, 76, 77, 78] (by decide +kernel) (by decide +kernel)) (goodIn_sub (fun _ h => List.mem_cons_of_mem _ (List.mem_append_left _ (List.mem_append_left _ (List.mem_append_right _ h)))) (by decide +kernel))) (goodIn_sub (fun _ h => List.mem_cons_of_mem _ (List.mem_append_left _ (List.mem_append_right _ h))) (by decide +kernel))
set_option maxRecDepth 20000 in
theorem gX4_changeNumber_X0_root : GoodIn wsX4_changeNumber (va_wsS RX4 221 yX0_root wsX0_root) := goodIn_app (goodIn_of _ (by decide +kernel)) ggX4_changeNumber_X0_root
set_option maxRecDepth 20000 in
theorem ggX4_changeNumber_X3_putNumber : GoodIn wsX4_changeNumber wsX3_putNumber := goodIn_ca (goodIn_r _ [92, 93, 94, 95, 24, 96, 97, 74, 26, 98, 99, 100, 101, 36, 102, 103, 104, 105, 45, 31, 106, 32, 33, 34, 35, 114, 115, 116, 117, 118] (by decide +kernel) (by decide +kernel)) (goodIn_sub (fun _ h => List.mem_cons_of_mem _ (List.mem_append_right _ h)) (by decide +kernel))
set_option maxRecDepth 20000 in
theorem gX4_changeNumber_X3_putNumber : GoodIn wsX4_changeNumber (wsV RX4 149 RX3 yX3_putNumber wsX3_putNumber) := goodIn_app (goodIn_of _ (by decide +kernel)) ggX4_changeNumber_X3_putNumber
theorem dX4_changeNumber_0 : decode cX4_changeNumber 0 = .ok (.aload_n 0, 1) := by decide +kernel
theorem dX4_changeNumber_1 : decode cX4_changeNumber 1 = .ok (.iconst 1, 1) := by decide +kernel
theorem dX4_changeNumber_2 : decode cX4_changeNumber 2 = .ok (.invokevirtual 182, 3) := by decide +kernel
theorem dX4_changeNumber_5 : decode cX4_changeNumber 5 = .ok (.aload_n 0, 1) := by decide +kernel
theorem dX4_changeNumber_6 : decode cX4_changeNumber 6 = .ok (.getfield 14, 3) := by decide +kernel
theorem dX4_changeNumber_9 : decode cX4_changeNumber 9 = .ok (.aload_n 0, 1) := by decide +kernel
theorem dX4_changeNumber_10 : decode cX4_changeNumber 10 = .ok (.getfield 14, 3) := by decide +kernel
theorem dX4_changeNumber_13 : decode cX4_changeNumber 13 = .ok (.iconst 0, 1) := by decide +kernel
theorem dX4_changeNumber_14 : decode cX4_changeNumber 14 = .ok (.invokevirtual 104, 3) := by decide +kernel
theorem dX4_changeNumber_17 : decode cX4_changeNumber 17 = .ok (.invokevirtual 96, 3) := by decide +kernel
theorem dX4_changeNumber_20 : decode cX4_changeNumber 20 = .ok (.lstore_n 2, 1) := by decide +kernel
theorem dX4_changeNumber_21 : decode cX4_changeNumber 21 = .ok (.aload_n 0, 1) := by decide +kernel
theorem dX4_changeNumber_22 : decode cX4_changeNumber 22 = .ok (.getfield 14, 3) := by decide +kernel
theorem dX4_changeNumber_25 : decode cX4_changeNumber 25 = .ok (.aload_n 0, 1) := by decide +kernel
theorem dX4_changeNumber_26 : decode cX4_changeNumber 26 = .ok (.getfield 14, 3) := by decide +kernel
theorem dX4_changeNumber_29 : decode cX4_changeNumber 29 = .ok (.iconst 0, 1) := by decide +kernel
theorem dX4_changeNumber_30 : decode cX4_changeNumber 30 = .ok (.invokevirtual 104, 3) := by decide +kernel
theorem dX4_changeNumber_33 : decode cX4_changeNumber 33 = .ok (.invokevirtual 100, 3) := by decide +kernel
theorem dX4_changeNumber_36 : decode cX4_changeNumber 36 = .ok (.istore 4, 2) := by decide +kernel
theorem dX4_changeNumber_38 : decode cX4_changeNumber 38 = .ok (.iload_n 1, 1) := by decide +kernel
theorem dX4_changeNumber_39 : decode cX4_changeNumber 39 = .ok (.bipush 107, 2) := by decide +kernel
theorem dX4_changeNumber_41 : decode cX4_changeNumber 41 = .ok (.if_icmp .ne 24, 3) := by decide +kernel
theorem dX4_changeNumber_44 : decode cX4_changeNumber 44 = .ok (.aload_n 0, 1) := by decide +kernel
theorem dX4_changeNumber_45 : decode cX4_changeNumber 45 = .ok (.lload_n 2, 1) := by decide +kernel
theorem dX4_changeNumber_46 : decode cX4_changeNumber 46 = .ok (.iload 4, 2) := by decide +kernel
theorem dX4_changeNumber_48 : decode cX4_changeNumber 48 = .ok (.invokestatic 218, 3) := by decide +kernel
theorem dX4_changeNumber_51 : decode cX4_changeNumber 51 = .ok (.putfield 39, 3) := by decide +kernel
theorem dX4_changeNumber_54 : decode cX4_changeNumber 54 = .ok (.aload_n 0, 1) := by decide +kernel
theorem dX4_changeNumber_55 : decode cX4_changeNumber 55 = .ok (.getfield 14, 3) := by decide +kernel
theorem dX4_changeNumber_58 : decode cX4_changeNumber 58 = .ok (.iconst 1, 1) := by decide +kernel
theorem dX4_changeNumber_59 : decode cX4_changeNumber 59 = .ok (.invokevirtual 215, 3) := by decide +kernel
theorem dX4_changeNumber_62 : decode cX4_changeNumber 62 = .ok (.goto 99, 3) := by decide +kernel
theorem dX4_changeNumber_65 : decode cX4_changeNumber 65 = .ok (.iload_n 1, 1) := by decide +kernel
theorem dX4_changeNumber_66 : decode cX4_changeNumber 66 = .ok (.bipush 118, 2) := by decide +kernel
theorem dX4_changeNumber_68 : decode cX4_changeNumber 68 = .ok (.if_icmp .ne 46, 3) := by decide +kernel
theorem dX4_changeNumber_71 : decode cX4_changeNumber 71 = .ok (.aload_n 0, 1) := by decide +kernel
theorem dX4_changeNumber_72 : decode cX4_changeNumber 72 = .ok (.getfield 39, 3) := by decide +kernel
theorem dX4_changeNumber_75 : decode cX4_changeNumber 75 = .ok (.iload 4, 2) := by decide +kernel
theorem dX4_changeNumber_77 : decode cX4_changeNumber 77 = .ok (.invokestatic 185, 3) := by decide +kernel
theorem dX4_changeNumber_80 : decode cX4_changeNumber 80 = .ok (.istore 5, 2) := by decide +kernel
theorem dX4_changeNumber_82 : decode cX4_changeNumber 82 = .ok (.lload_n 2, 1) := by decide +kernel
theorem dX4_changeNumber_83 : decode cX4_changeNumber 83 = .ok (.iload 4, 2) := by decide +kernel
theorem dX4_changeNumber_85 : decode cX4_changeNumber 85 = .ok (.iload 5, 2) := by decide +kernel
theorem dX4_changeNumber_87 : decode cX4_changeNumber 87 = .ok (.invokestatic 221, 3) := by decide +kernel
theorem dX4_changeNumber_90 : decode cX4_changeNumber 90 = .ok (.lstore 6, 2) := by decide +kernel
theorem dX4_changeNumber_92 : decode cX4_changeNumber 92 = .ok (.aload_n 0, 1) := by decide +kernel
theorem dX4_changeNumber_93 : decode cX4_changeNumber 93 = .ok (.getfield 14, 3) := by decide +kernel
theorem dX4_changeNumber_96 : decode cX4_changeNumber 96 = .ok (.iconst 1, 1) := by decide +kernel
theorem dX4_changeNumber_97 : decode cX4_changeNumber 97 = .ok (.invokevirtual 215, 3) := by decide +kernel
theorem dX4_changeNumber_100 : decode cX4_changeNumber 100 = .ok (.aload_n 0, 1) := by decide +kernel
theorem dX4_changeNumber_101 : decode cX4_changeNumber 101 = .ok (.getfield 14, 3) := by decide +kernel
theorem dX4_changeNumber_104 : decode cX4_changeNumber 104 = .ok (.lload 6, 2) := by decide +kernel
theorem dX4_changeNumber_106 : decode cX4_changeNumber 106 = .ok (.iload 5, 2) := by decide +kernel
theorem dX4_changeNumber_108 : decode cX4_changeNumber 108 = .ok (.invokevirtual 149, 3) := by decide +kernel
theorem dX4_changeNumber_111 : decode cX4_changeNumber 111 = .ok (.goto 50, 3) := by decide +kernel
theorem dX4_changeNumber_114 : decode cX4_changeNumber 114 = .ok (.iload_n 1, 1) := by decide +kernel
theorem dX4_changeNumber_115 : decode cX4_changeNumber 115 = .ok (.bipush 126, 2) := by decide +kernel
theorem dX4_changeNumber_117 : decode cX4_changeNumber 117 = .ok (.if_icmp .ne 25, 3) := by decide +kernel
theorem dX4_changeNumber_120 : decode cX4_changeNumber 120 = .ok (.aload_n 0, 1) := by decide +kernel
theorem dX4_changeNumber_121 : decode cX4_changeNumber 121 = .ok (.getfield 14, 3) := by decide +kernel
theorem dX4_changeNumber_124 : decode cX4_changeNumber 124 = .ok (.iconst 1, 1) := by decide +kernel
theorem dX4_changeNumber_125 : decode cX4_changeNumber 125 = .ok (.invokevirtual 215, 3) := by decide +kernel
theorem dX4_changeNumber_128 : decode cX4_changeNumber 128 = .ok (.aload_n 0, 1) := by decide +kernel
theorem dX4_changeNumber_129 : decode cX4_changeNumber 129 = .ok (.getfield 14, 3) := by decide +kernel
theorem dX4_changeNumber_132 : decode cX4_changeNumber 132 = .ok (.lload_n 2, 1) := by decide +kernel
theorem dX4_changeNumber_133 : decode cX4_changeNumber 133 = .ok (.lneg, 1) := by decide +kernel
theorem dX4_changeNumber_134 : decode cX4_changeNumber 134 = .ok (.iload 4, 2) := by decide +kernel
theorem dX4_changeNumber_136 : decode cX4_changeNumber 136 = .ok (.invokevirtual 149, 3) := by decide +kernel
theorem dX4_changeNumber_139 : decode cX4_changeNumber 139 = .ok (.goto 22, 3) := by decide +kernel
theorem dX4_changeNumber_142 : decode cX4_changeNumber 142 = .ok (.aload_n 0, 1) := by decide +kernel
theorem dX4_changeNumber_143 : decode cX4_changeNumber 143 = .ok (.getfield 14, 3) := by decide +kernel
theorem dX4_changeNumber_146 : decode cX4_changeNumber 146 = .ok (.iconst 1, 1) := by decide +kernel
theorem dX4_changeNumber_147 : decode cX4_changeNumber 147 = .ok (.invokevirtual 215, 3) := by decide +kernel
theorem dX4_changeNumber_150 : decode cX4_changeNumber 150 = .ok (.aload_n 0, 1) := by decide +kernel
theorem dX4_changeNumber_151 : decode cX4_changeNumber 151 = .ok (.getfield 14, 3) := by decide +kernel
theorem dX4_changeNumber_154 : decode cX4_changeNumber 154 = .ok (.iload 4, 2) := by decide +kernel
theorem dX4_changeNumber_156 : decode cX4_changeNumber 156 = .ok (.i2l, 1) := by decide +kernel
theorem dX4_changeNumber_157 : decode cX4_changeNumber 157 = .ok (.iconst 0, 1) := by decide +kernel
theorem dX4_changeNumber_158 : decode cX4_changeNumber 158 = .ok (.invokevirtual 149, 3) := by decide +kernel
theorem dX4_changeNumber_161 : decode cX4_changeNumber 161 = .ok (.return_, 1) := by decide +kernel
set_option maxRecDepth 20000 in
theorem ggX4_arrangeStack_X4_needItems : GoodIn wsX4_arrangeStack wsX4_needItems := goodIn_ca (goodIn_r _ [11, 12, 13, 3, 4, 83, 84, 85, 86, 87, 88, 89, 90, 91, 92, 93, 94] (by decide +kernel) (by decide +kernel)) (goodIn_sub (fun _ h => List.mem_cons_of_mem _ (List.mem_append_left _ (List.mem_append_right _ h))) (by decide +kernel))
set_option maxRecDepth 20000 in
theorem gX4_arrangeStack_X4_needItems : GoodIn wsX4_arrangeStack (wsV RX4 170 RX4 yX4_needItems wsX4_needItems) := goodIn_app (goodIn_of _ (by decide +kernel)) ggX4_arrangeStack_X4_needItems
set_option maxRecDepth 20000 in
theorem ggX4_arrangeStack_X3_putTopOf : GoodIn wsX4_arrangeStack wsX3_putTopOf := goodIn_ca (goodIn_r _ [18, 19, 20, 21, 17, 22, 23, 24, 25, 26, 27, 28, 29, 30, 31, 32, 33, 34, 35, 36, 37, 38, 39, 40, 41, 42, 43, 44, 45, 46, 47, 48, 49, 50, 51, 52, 53, 54, 55, 56, 57, 58, 59, 60, 61, 90, 91, 92, 93, 94] (by decide +kernel) (by decide +kernel)) (goodIn_sub (fun _ h => List.mem_cons_of_mem _ (List.mem_append_right _ h)) (by decide +kernel))
set_option maxRecDepth 20000 in
theorem gX4_arrangeStack_X3_putTopOf : GoodIn wsX4_arrangeStack (wsV RX4 225 RX3 yX3_putTopOf wsX3_putTopOf) := goodIn_app (goodIn_of _ (by decide +kernel)) ggX4_arrangeStack_X3_putTopOf
set_option maxRecDepth 20000 in
theorem ggX4_arrangeStack_X3_swapTopTwo : GoodIn wsX4_arrangeStack wsX3_swapTopTwo := goodIn_r _ [65, 19, 20, 21, 17, 22, 23, 24, 25, 26, 27, 28, 29, 30, 31, 32, 33, 34, 35, 36, 37, 38, 39, 40, 41, 42, 43, 44, 45, 46, 47, 58, 59, 60, 61, 90, 91, 92, 93, 94] (by decide +kernel) (by decide +kernel)
set_option maxRecDepth 20000 in
theorem gX4_arrangeStack_X3_swapTopTwo : GoodIn wsX4_arrangeStack (wsV RX4 229 RX3 yX3_swapTopTwo wsX3_swapTopTwo) := goodIn_app (goodIn_of _ (by decide +kernel)) ggX4_arrangeStack_X3_swapTopTwo
set_option maxRecDepth 20000 in
theorem ggX4_arrangeStack_X3_drop : GoodIn wsX4_arrangeStack wsX3_drop := goodIn_r _ [69, 23, 70, 71, 72, 73, 90, 91, 92, 93, 94] (by decide +kernel) (by decide +kernel)
set_option maxRecDepth 20000 in
theorem gX4_arrangeStack_X3_drop : GoodIn wsX4_arrangeStack (wsV RX4 215 RX3 yX3_drop wsX3_drop) := goodIn_app (goodIn_of _ (by decide +kernel)) ggX4_arrangeStack_X3_drop
set_option maxRecDepth 20000 in
theorem ggX4_arrangeStack_X3_clear : GoodIn wsX4_arrangeStack wsX3_clear := goodIn_r _ [77, 23, 90, 91, 92, 93, 94] (by decide +kernel) (by decide +kernel)
set_option maxRecDepth 20000 in
theorem gX4_arrangeStack_X3_clear : GoodIn wsX4_arrangeStack (wsV RX4 63 RX3 yX3_clear wsX3_clear) := goodIn_app (goodIn_of _ (by decide +kernel)) ggX4_arrangeStack_X3_clear
set_option maxRecDepth 20000 in
theorem ggX4_arrangeStack_X3_putNumber : GoodIn wsX4_arrangeStack wsX3_putNumber := goodIn_ca (goodIn_r _ [81, 48, 49, 50, 17, 51, 52, 53, 23, 54, 55, 56, 57, 28, 58, 59, 60, 61, 37, 42, 47, 29, 30, 31, 32, 90, 91, 92, 93, 94] (by decide +kernel) (by decide +kernel)) (goodIn_sub (fun _ h => List.mem_cons_of_mem _ (List.mem_append_right _ h)) (by decide +kernel))
set_option maxRecDepth 20000 in
theorem gX4_arrangeStack_X3_putNumber : GoodIn wsX4_arrangeStack (wsV RX4 149 RX3 yX3_putNumber wsX3_putNumber) := goodIn_app (goodIn_of _ (by decide +kernel)) ggX4_arrangeStack_X3_putNumber
set_option maxRecDepth 20000 in
theorem ggX4_arrangeStack_X3_isFull : GoodIn wsX4_arrangeStack wsX3_isFull := goodIn_r _ [57, 23, 28, 90, 91, 92, 93, 94] (by decide +kernel) (by decide +kernel)
set_option maxRecDepth 20000 in
theorem gX4_arrangeStack_X3_isFull : GoodIn wsX4_arrangeStack (wsV RX4 232 RX3 yX3_isFull wsX3_isFull) := goodIn_app (goodIn_of _ (by decide +kernel)) ggX4_arrangeStack_X3_isFull
theorem dX4_arrangeStack_0 : decode cX4_arrangeStack 0 = .ok (.iload_n 1, 1) := by decide +kernel
theorem dX4_arrangeStack_1 : decode cX4_arrangeStack 1 = .ok (.lookupswitch 191 #[(68, 101), (75, 146), (99, 117), (100, 67), (112, 162), (114, 86), (122, 127)], 67) := by decide +kernel
theorem dX4_arrangeStack_68 : decode cX4_arrangeStack 68 = .ok (.aload_n 0, 1) := by decide +kernel
theorem dX4_arrangeStack_69 : decode cX4_arrangeStack 69 = .ok (.iconst 1, 1) := by decide +kernel
theorem dX4_arrangeStack_70 : decode cX4_arrangeStack 70 = .ok (.invokevirtual 170, 3) := by decide +kernel
theorem dX4_arrangeStack_73 : decode cX4_arrangeStack 73 = .ok (.aload_n 0, 1) := by decide +kernel
theorem dX4_arrangeStack_74 : decode cX4_arrangeStack 74 = .ok (.getfield 14, 3) := by decide +kernel
theorem dX4_arrangeStack_77 : decode cX4_arrangeStack 77 = .ok (.aload_n 0, 1) := by decide +kernel
theorem dX4_arrangeStack_78 : decode cX4_arrangeStack 78 = .ok (.getfield 14, 3) := by decide +kernel
theorem dX4_arrangeStack_81 : decode cX4_arrangeStack 81 = .ok (.invokevirtual 225, 3) := by decide +kernel
theorem dX4_arrangeStack_84 : decode cX4_arrangeStack 84 = .ok (.goto 118, 3) := by decide +kernel
theorem dX4_arrangeStack_87 : decode cX4_arrangeStack 87 = .ok (.aload_n 0, 1) := by decide +kernel
theorem dX4_arrangeStack_88 : decode cX4_arrangeStack 88 = .ok (.iconst 2, 1) := by decide +kernel
theorem dX4_arrangeStack_89 : decode cX4_arrangeStack 89 = .ok (.invokevirtual 170, 3) := by decide +kernel
theorem dX4_arrangeStack_92 : decode cX4_arrangeStack 92 = .ok (.aload_n 0, 1) := by decide +kernel
theorem dX4_arrangeStack_93 : decode cX4_arrangeStack 93 = .ok (.getfield 14, 3) := by decide +kernel
theorem dX4_arrangeStack_96 : decode cX4_arrangeStack 96 = .ok (.invokevirtual 229, 3) := by decide +kernel
theorem dX4_arrangeStack_99 : decode cX4_arrangeStack 99 = .ok (.goto 103, 3) := by decide +kernel
theorem dX4_arrangeStack_102 : decode cX4_arrangeStack 102 = .ok (.aload_n 0, 1) := by decide +kernel
theorem dX4_arrangeStack_103 : decode cX4_arrangeStack 103 = .ok (.iconst 1, 1) := by decide +kernel
theorem dX4_arrangeStack_104 : decode cX4_arrangeStack 104 = .ok (.invokevirtual 170, 3) := by decide +kernel
theorem dX4_arrangeStack_107 : decode cX4_arrangeStack 107 = .ok (.aload_n 0, 1) := by decide +kernel
theorem dX4_arrangeStack_108 : decode cX4_arrangeStack 108 = .ok (.getfield 14, 3) := by decide +kernel
theorem dX4_arrangeStack_111 : decode cX4_arrangeStack 111 = .ok (.iconst 1, 1) := by decide +kernel
theorem dX4_arrangeStack_112 : decode cX4_arrangeStack 112 = .ok (.invokevirtual 215, 3) := by decide +kernel
theorem dX4_arrangeStack_115 : decode cX4_arrangeStack 115 = .ok (.goto 87, 3) := by decide +kernel
theorem dX4_arrangeStack_118 : decode cX4_arrangeStack 118 = .ok (.aload_n 0, 1) := by decide +kernel
theorem dX4_arrangeStack_119 : decode cX4_arrangeStack 119 = .ok (.getfield 14, 3) := by decide +kernel
theorem dX4_arrangeStack_122 : decode cX4_arrangeStack 122 = .ok (.invokevirtual 63, 3) := by decide +kernel
theorem dX4_arrangeStack_125 : decode cX4_arrangeStack 125 = .ok (.goto 77, 3) := by decide +kernel
theorem dX4_arrangeStack_128 : decode cX4_arrangeStack 128 = .ok (.aload_n 0, 1) := by decide +kernel
theorem dX4_arrangeStack_129 : decode cX4_arrangeStack 129 = .ok (.getfield 14, 3) := by decide +kernel
theorem dX4_arrangeStack_132 : decode cX4_arrangeStack 132 = .ok (.aload_n 0, 1) := by decide +kernel
theorem dX4_arrangeStack_133 : decode cX4_arrangeStack 133 = .ok (.getfield 14, 3) := by decide +kernel
theorem dX4_arrangeStack_136 : decode cX4_arrangeStack 136 = .ok (.getfield 95, 3) := by decide +kernel
theorem dX4_arrangeStack_139 : decode cX4_arrangeStack 139 = .ok (.i2l, 1) := by decide +kernel
theorem dX4_arrangeStack_140 : decode cX4_arrangeStack 140 = .ok (.iconst 0, 1) := by decide +kernel
theorem dX4_arrangeStack_141 : decode cX4_arrangeStack 141 = .ok (.invokevirtual 149, 3) := by decide +kernel
theorem dX4_arrangeStack_144 : decode cX4_arrangeStack 144 = .ok (.goto 58, 3) := by decide +kernel
theorem dX4_arrangeStack_147 : decode cX4_arrangeStack 147 = .ok (.aload_n 0, 1) := by decide +kernel
theorem dX4_arrangeStack_148 : decode cX4_arrangeStack 148 = .ok (.getfield 14, 3) := by decide +kernel
theorem dX4_arrangeStack_151 : decode cX4_arrangeStack 151 = .ok (.aload_n 0, 1) := by decide +kernel
theorem dX4_arrangeStack_152 : decode cX4_arrangeStack 152 = .ok (.getfield 39, 3) := by decide +kernel
theorem dX4_arrangeStack_155 : decode cX4_arrangeStack 155 = .ok (.i2l, 1) := by decide +kernel
theorem dX4_arrangeStack_156 : decode cX4_arrangeStack 156 = .ok (.iconst 0, 1) := by decide +kernel
theorem dX4_arrangeStack_157 : decode cX4_arrangeStack 157 = .ok (.invokevirtual 149, 3) := by decide +kernel
theorem dX4_arrangeStack_160 : decode cX4_arrangeStack 160 = .ok (.goto 42, 3) := by decide +kernel
theorem dX4_arrangeStack_163 : decode cX4_arrangeStack 163 = .ok (.aload_n 0, 1) := by decide +kernel
theorem dX4_arrangeStack_164 : decode cX4_arrangeStack 164 = .ok (.iconst 1, 1) := by decide +kernel
theorem dX4_arrangeStack_165 : decode cX4_arrangeStack 165 = .ok (.invokevirtual 170, 3) := by decide +kernel
theorem dX4_arrangeStack_168 : decode cX4_arrangeStack 168 = .ok (.aload_n 0, 1) := by decide +kernel
theorem dX4_arrangeStack_169 : decode cX4_arrangeStack 169 = .ok (.getfield 22, 3) := by decide +kernel
theorem dX4_arrangeStack_172 : decode cX4_arrangeStack 172 = .ok (.invokevirtual 232, 3) := by decide +kernel
theorem dX4_arrangeStack_175 : decode cX4_arrangeStack 175 = .ok (.ifCond .ne 27, 3) := by decide +kernel
theorem dX4_arrangeStack_178 : decode cX4_arrangeStack 178 = .ok (.aload_n 0, 1) := by decide +kernel
theorem dX4_arrangeStack_179 : decode cX4_arrangeStack 179 = .ok (.getfield 22, 3) := by decide +kernel
theorem dX4_arrangeStack_182 : decode cX4_arrangeStack 182 = .ok (.aload_n 0, 1) := by decide +kernel
theorem dX4_arrangeStack_183 : decode cX4_arrangeStack 183 = .ok (.getfield 14, 3) := by decide +kernel
theorem dX4_arrangeStack_186 : decode cX4_arrangeStack 186 = .ok (.invokevirtual 225, 3) := by decide +kernel
theorem dX4_arrangeStack_189 : decode cX4_arrangeStack 189 = .ok (.goto 13, 3) := by decide +kernel
theorem dX4_arrangeStack_192 : decode cX4_arrangeStack 192 = .ok (.new 56, 3) := by decide +kernel
theorem dX4_arrangeStack_195 : decode cX4_arrangeStack 195 = .ok (.dup, 1) := by decide +kernel
theorem dX4_arrangeStack_196 : decode cX4_arrangeStack 196 = .ok (.ldc 236, 2) := by decide +kernel
theorem dX4_arrangeStack_198 : decode cX4_arrangeStack 198 = .ok (.invokespecial 60, 3) := by decide +kernel
theorem dX4_arrangeStack_201 : decode cX4_arrangeStack 201 = .ok (.athrow, 1) := by decide +kernel
theorem dX4_arrangeStack_202 : decode cX4_arrangeStack 202 = .ok (.return_, 1) := by decide +kernel
set_option maxRecDepth 20000 in
theorem ggX4_registerOfLetter_X1_look : GoodIn wsX4_registerOfLetter wsX1_look := goodIn_r _ [8, 9, 10, 11, 12, 13, 14, 15, 7, 16, 17, 18, 19, 20, 21, 22, 23, 41, 42, 43, 44, 45, 46] (by decide +kernel) (by decide +kernel)
set_option maxRecDepth 20000 in
theorem gX4_registerOfLetter_X1_look : GoodIn wsX4_registerOfLetter (wsV RX4 80 RX1 yX1_look wsX1_look) := goodIn_app (goodIn_of _ (by decide +kernel)) ggX4_registerOfLetter_X1_look
set_option maxRecDepth 20000 in
theorem ggX4_registerOfLetter_X4_registerNumbered : GoodIn wsX4_registerOfLetter wsX4_registerNumbered := goodIn_r _ [28, 29, 34, 35, 36, 37, 38, 39, 40] (by decide +kernel) (by decide +kernel)
set_option maxRecDepth 20000 in
theorem gX4_registerOfLetter_X4_registerNumbered : GoodIn wsX4_registerOfLetter (wsV RX4 107 RX4 yX4_registerNumbered wsX4_registerNumbered) := goodIn_app (goodIn_of _ (by decide +kernel)) ggX4_registerOfLetter_X4_registerNumbered
set_option maxRecDepth 20000 in
theorem ggX4_registerOfLetter_X1_pass : GoodIn wsX4_registerOfLetter wsX1_pass := goodIn_r _ [33, 9, 10, 13, 14, 15, 7, 16, 12, 41, 42, 43, 44] (by decide +kernel) (by decide +kernel)
set_option maxRecDepth 20000 in
theorem gX4_registerOfLetter_X1_pass : GoodIn wsX4_registerOfLetter (wsV RX4 118 RX1 yX1_pass wsX1_pass) := goodIn_app (goodIn_of _ (by decide +kernel)) ggX4_registerOfLetter_X1_pass
theorem dX4_registerOfLetter_0 : decode cX4_registerOfLetter 0 = .ok (.aload_n 0, 1) := by decide +kernel
theorem dX4_registerOfLetter_1 : decode cX4_registerOfLetter 1 = .ok (.aload_n 0, 1) := by decide +kernel
theorem dX4_registerOfLetter_2 : decode cX4_registerOfLetter 2 = .ok (.getfield 28, 3) := by decide +kernel
theorem dX4_registerOfLetter_5 : decode cX4_registerOfLetter 5 = .ok (.invokevirtual 80, 3) := by decide +kernel
theorem dX4_registerOfLetter_8 : decode cX4_registerOfLetter 8 = .ok (.bipush 97, 2) := by decide +kernel
theorem dX4_registerOfLetter_10 : decode cX4_registerOfLetter 10 = .ok (.isub, 1) := by decide +kernel
theorem dX4_registerOfLetter_11 : decode cX4_registerOfLetter 11 = .ok (.invokevirtual 107, 3) := by decide +kernel
theorem dX4_registerOfLetter_14 : decode cX4_registerOfLetter 14 = .ok (.astore_n 1, 1) := by decide +kernel
theorem dX4_registerOfLetter_15 : decode cX4_registerOfLetter 15 = .ok (.aload_n 1, 1) := by decide +kernel
theorem dX4_registerOfLetter_16 : decode cX4_registerOfLetter 16 = .ok (.ifnonnull 13, 3) := by decide +kernel
theorem dX4_registerOfLetter_19 : decode cX4_registerOfLetter 19 = .ok (.new 56, 3) := by decide +kernel
theorem dX4_registerOfLetter_22 : decode cX4_registerOfLetter 22 = .ok (.dup, 1) := by decide +kernel
theorem dX4_registerOfLetter_23 : decode cX4_registerOfLetter 23 = .ok (.ldc 238, 2) := by decide +kernel
theorem dX4_registerOfLetter_25 : decode cX4_registerOfLetter 25 = .ok (.invokespecial 60, 3) := by decide +kernel
theorem dX4_registerOfLetter_28 : decode cX4_registerOfLetter 28 = .ok (.athrow, 1) := by decide +kernel
theorem dX4_registerOfLetter_29 : decode cX4_registerOfLetter 29 = .ok (.aload_n 0, 1) := by decide +kernel
theorem dX4_registerOfLetter_30 : decode cX4_registerOfLetter 30 = .ok (.getfield 28, 3) := by decide +kernel
theorem dX4_registerOfLetter_33 : decode cX4_registerOfLetter 33 = .ok (.invokevirtual 118, 3) := by decide +kernel
theorem dX4_registerOfLetter_36 : decode cX4_registerOfLetter 36 = .ok (.aload_n 1, 1) := by decide +kernel
theorem dX4_registerOfLetter_37 : decode cX4_registerOfLetter 37 = .ok (.areturn, 1) := by decide +kernel
theorem dX4_needHeld_0 : decode cX4_needHeld 0 = .ok (.aload_n 0, 1) := by decide +kernel
theorem dX4_needHeld_1 : decode cX4_needHeld 1 = .ok (.getfield 95, 3) := by decide +kernel
theorem dX4_needHeld_4 : decode cX4_needHeld 4 = .ok (.iconst 1, 1) := by decide +kernel
theorem dX4_needHeld_5 : decode cX4_needHeld 5 = .ok (.if_icmp .ge 13, 3) := by decide +kernel
theorem dX4_needHeld_8 : decode cX4_needHeld 8 = .ok (.new 165, 3) := by decide +kernel
theorem dX4_needHeld_11 : decode cX4_needHeld 11 = .ok (.dup, 1) := by decide +kernel
theorem dX4_needHeld_12 : decode cX4_needHeld 12 = .ok (.ldc 240, 2) := by decide +kernel
theorem dX4_needHeld_14 : decode cX4_needHeld 14 = .ok (.invokespecial 169, 3) := by decide +kernel
theorem dX4_needHeld_17 : decode cX4_needHeld 17 = .ok (.athrow, 1) := by decide +kernel
theorem dX4_needHeld_18 : decode cX4_needHeld 18 = .ok (.return_, 1) := by decide +kernel
set_option maxRecDepth 20000 in
theorem ggX4_moveToOrFromRegister_X4_registerOfLetter : GoodIn wsX4_moveToOrFromRegister wsX4_registerOfLetter := goodIn_ca (goodIn_r _ [6, 7, 8, 9, 10, 11, 12, 13, 14, 15, 16, 17, 18, 19, 20, 21, 22, 23, 24, 25, 26, 27, 28, 29, 30, 31, 32, 5, 33, 34, 35, 36, 37, 38, 105, 106, 107, 108, 109, 110, 111, 112, 113, 114, 115, 116, 117] (by decide +kernel) (by decide +kernel)) (goodIn_sub (fun _ h => List.mem_cons_of_mem _ (List.mem_append_left _ (List.mem_append_left _ (List.mem_append_right _ h)))) (by decide +kernel))
set_option maxRecDepth 20000 in
theorem gX4_moveToOrFromRegister_X4_registerOfLetter : GoodIn wsX4_moveToOrFromRegister (wsV RX4 242 RX4 yX4_registerOfLetter wsX4_registerOfLetter) := goodIn_app (goodIn_of _ (by decide +kernel)) ggX4_moveToOrFromRegister_X4_registerOfLetter
set_option maxRecDepth 20000 in
theorem ggX4_moveToOrFromRegister_X4_needItems : GoodIn wsX4_moveToOrFromRegister wsX4_needItems := goodIn_ca (goodIn_r _ [42, 43, 44, 1, 45, 105, 106, 107, 108, 109, 110, 111, 118, 119, 120, 121, 122] (by decide +kernel) (by decide +kernel)) (goodIn_sub (fun _ h => List.mem_cons_of_mem _ (List.mem_append_left _ (List.mem_append_right _ h))) (by decide +kernel))
set_option maxRecDepth 20000 in
theorem gX4_moveToOrFromRegister_X4_needItems : GoodIn wsX4_moveToOrFromRegister (wsV RX4 170 RX4 yX4_needItems wsX4_needItems) := goodIn_app (goodIn_of _ (by decide +kernel)) ggX4_moveToOrFromRegister_X4_needItems
set_option maxRecDepth 20000 in
theorem ggX4_moveToOrFromRegister_X3_drop : GoodIn wsX4_moveToOrFromRegister wsX3_drop := goodIn_r _ [50, 51, 52, 53, 54, 55, 118, 119, 120, 121, 122] (by decide +kernel) (by decide +kernel)
set_option maxRecDepth 20000 in
theorem gX4_moveToOrFromRegister_X3_drop : GoodIn wsX4_moveToOrFromRegister (wsV RX4 215 RX3 yX3_drop wsX3_drop) := goodIn_app (goodIn_of _ (by decide +kernel)) ggX4_moveToOrFromRegister_X3_drop
set_option maxRecDepth 20000 in
theorem ggX4_moveToOrFromRegister_X3_putTopOf : GoodIn wsX4_moveToOrFromRegister wsX3_putTopOf := goodIn_ca (goodIn_r _ [59, 60, 61, 62, 49, 63, 51, 64, 65, 66, 67, 68, 69, 70, 71, 72, 73, 74, 75, 76, 77, 78, 79, 80, 81, 82, 83, 84, 85, 86, 87, 88, 89, 90, 91, 92, 93, 94, 95, 96, 97, 98, 99, 100, 101, 118, 119, 120, 121, 122] (by decide +kernel) (by decide +kernel)) (goodIn_sub (fun _ h => List.mem_cons_of_mem _ (List.mem_append_right _ h)) (by decide +kernel))
set_option maxRecDepth 20000 in
theorem gX4_moveToOrFromRegister_X3_putTopOf : GoodIn wsX4_moveToOrFromRegister (wsV RX4 225 RX3 yX3_putTopOf wsX3_putTopOf) := goodIn_app (goodIn_of _ (by decide +kernel)) ggX4_moveToOrFromRegister_X3_putTopOf
set_option maxRecDepth 20000 in
theorem ggX4_moveToOrFromRegister_X4_needHeld : GoodIn wsX4_moveToOrFromRegister wsX4_needHeld := goodIn_ca (goodIn_r _ [104, 43, 44, 45, 118, 119, 120, 121, 122] (by decide +kernel) (by decide +kernel)) (goodIn_sub (fun _ h => List.mem_cons_of_mem _ (List.mem_append_left _ (List.mem_append_right _ h))) (by decide +kernel))
set_option maxRecDepth 20000 in
theorem gX4_moveToOrFromRegister_X4_needHeld : GoodIn wsX4_moveToOrFromRegister (va_wsS RX4 246 yX4_needHeld wsX4_needHeld) := goodIn_app (goodIn_of _ (by decide +kernel)) ggX4_moveToOrFromRegister_X4_needHeld
theorem dX4_moveToOrFromRegister_0 : decode cX4_moveToOrFromRegister 0 = .ok (.aload_n 0, 1) := by decide +kernel
theorem dX4_moveToOrFromRegister_1 : decode cX4_moveToOrFromRegister 1 = .ok (.invokevirtual 242, 3) := by decide +kernel
theorem dX4_moveToOrFromRegister_4 : decode cX4_moveToOrFromRegister 4 = .ok (.astore_n 2, 1) := by decide +kernel
theorem dX4_moveToOrFromRegister_5 : decode cX4_moveToOrFromRegister 5 = .ok (.iload_n 1, 1) := by decide +kernel
theorem dX4_moveToOrFromRegister_6 : decode cX4_moveToOrFromRegister 6 = .ok (.bipush 115, 2) := by decide +kernel
theorem dX4_moveToOrFromRegister_8 : decode cX4_moveToOrFromRegister 8 = .ok (.if_icmp .ne 32, 3) := by decide +kernel
theorem dX4_moveToOrFromRegister_11 : decode cX4_moveToOrFromRegister 11 = .ok (.aload_n 0, 1) := by decide +kernel
theorem dX4_moveToOrFromRegister_12 : decode cX4_moveToOrFromRegister 12 = .ok (.iconst 1, 1) := by decide +kernel
theorem dX4_moveToOrFromRegister_13 : decode cX4_moveToOrFromRegister 13 = .ok (.invokevirtual 170, 3) := by decide +kernel
theorem dX4_moveToOrFromRegister_16 : decode cX4_moveToOrFromRegister 16 = .ok (.aload_n 2, 1) := by decide +kernel
theorem dX4_moveToOrFromRegister_17 : decode cX4_moveToOrFromRegister 17 = .ok (.iconst 1, 1) := by decide +kernel
theorem dX4_moveToOrFromRegister_18 : decode cX4_moveToOrFromRegister 18 = .ok (.invokevirtual 215, 3) := by decide +kernel
theorem dX4_moveToOrFromRegister_21 : decode cX4_moveToOrFromRegister 21 = .ok (.aload_n 2, 1) := by decide +kernel
theorem dX4_moveToOrFromRegister_22 : decode cX4_moveToOrFromRegister 22 = .ok (.aload_n 0, 1) := by decide +kernel
theorem dX4_moveToOrFromRegister_23 : decode cX4_moveToOrFromRegister 23 = .ok (.getfield 14, 3) := by decide +kernel
theorem dX4_moveToOrFromRegister_26 : decode cX4_moveToOrFromRegister 26 = .ok (.invokevirtual 225, 3) := by decide +kernel
theorem dX4_moveToOrFromRegister_29 : decode cX4_moveToOrFromRegister 29 = .ok (.aload_n 0, 1) := by decide +kernel
theorem dX4_moveToOrFromRegister_30 : decode cX4_moveToOrFromRegister 30 = .ok (.getfield 14, 3) := by decide +kernel
theorem dX4_moveToOrFromRegister_33 : decode cX4_moveToOrFromRegister 33 = .ok (.iconst 1, 1) := by decide +kernel
theorem dX4_moveToOrFromRegister_34 : decode cX4_moveToOrFromRegister 34 = .ok (.invokevirtual 215, 3) := by decide +kernel
theorem dX4_moveToOrFromRegister_37 : decode cX4_moveToOrFromRegister 37 = .ok (.goto 60, 3) := by decide +kernel
theorem dX4_moveToOrFromRegister_40 : decode cX4_moveToOrFromRegister 40 = .ok (.iload_n 1, 1) := by decide +kernel
theorem dX4_moveToOrFromRegister_41 : decode cX4_moveToOrFromRegister 41 = .ok (.bipush 83, 2) := by decide +kernel
theorem dX4_moveToOrFromRegister_43 : decode cX4_moveToOrFromRegister 43 = .ok (.if_icmp .ne 27, 3) := by decide +kernel
theorem dX4_moveToOrFromRegister_46 : decode cX4_moveToOrFromRegister 46 = .ok (.aload_n 0, 1) := by decide +kernel
theorem dX4_moveToOrFromRegister_47 : decode cX4_moveToOrFromRegister 47 = .ok (.iconst 1, 1) := by decide +kernel
theorem dX4_moveToOrFromRegister_48 : decode cX4_moveToOrFromRegister 48 = .ok (.invokevirtual 170, 3) := by decide +kernel
theorem dX4_moveToOrFromRegister_51 : decode cX4_moveToOrFromRegister 51 = .ok (.aload_n 2, 1) := by decide +kernel
theorem dX4_moveToOrFromRegister_52 : decode cX4_moveToOrFromRegister 52 = .ok (.aload_n 0, 1) := by decide +kernel
theorem dX4_moveToOrFromRegister_53 : decode cX4_moveToOrFromRegister 53 = .ok (.getfield 14, 3) := by decide +kernel
theorem dX4_moveToOrFromRegister_56 : decode cX4_moveToOrFromRegister 56 = .ok (.invokevirtual 225, 3) := by decide +kernel
theorem dX4_moveToOrFromRegister_59 : decode cX4_moveToOrFromRegister 59 = .ok (.aload_n 0, 1) := by decide +kernel
theorem dX4_moveToOrFromRegister_60 : decode cX4_moveToOrFromRegister 60 = .ok (.getfield 14, 3) := by decide +kernel
theorem dX4_moveToOrFromRegister_63 : decode cX4_moveToOrFromRegister 63 = .ok (.iconst 1, 1) := by decide +kernel
theorem dX4_moveToOrFromRegister_64 : decode cX4_moveToOrFromRegister 64 = .ok (.invokevirtual 215, 3) := by decide +kernel
theorem dX4_moveToOrFromRegister_67 : decode cX4_moveToOrFromRegister 67 = .ok (.goto 30, 3) := by decide +kernel
theorem dX4_moveToOrFromRegister_70 : decode cX4_moveToOrFromRegister 70 = .ok (.aload_n 2, 1) := by decide +kernel
theorem dX4_moveToOrFromRegister_71 : decode cX4_moveToOrFromRegister 71 = .ok (.invokestatic 246, 3) := by decide +kernel
theorem dX4_moveToOrFromRegister_74 : decode cX4_moveToOrFromRegister 74 = .ok (.aload_n 0, 1) := by decide +kernel
theorem dX4_moveToOrFromRegister_75 : decode cX4_moveToOrFromRegister 75 = .ok (.getfield 14, 3) := by decide +kernel
theorem dX4_moveToOrFromRegister_78 : decode cX4_moveToOrFromRegister 78 = .ok (.aload_n 2, 1) := by decide +kernel
theorem dX4_moveToOrFromRegister_79 : decode cX4_moveToOrFromRegister 79 = .ok (.invokevirtual 225, 3) := by decide +kernel
theorem dX4_moveToOrFromRegister_82 : decode cX4_moveToOrFromRegister 82 = .ok (.aload_n 2, 1) := by decide +kernel
theorem dX4_moveToOrFromRegister_83 : decode cX4_moveToOrFromRegister 83 = .ok (.iload_n 1, 1) := by decide +kernel
theorem dX4_moveToOrFromRegister_84 : decode cX4_moveToOrFromRegister 84 = .ok (.bipush 76, 2) := by decide +kernel
theorem dX4_moveToOrFromRegister_86 : decode cX4_moveToOrFromRegister 86 = .ok (.if_icmp .ne 7, 3) := by decide +kernel
theorem dX4_moveToOrFromRegister_89 : decode cX4_moveToOrFromRegister 89 = .ok (.iconst 1, 1) := by decide +kernel
theorem dX4_moveToOrFromRegister_90 : decode cX4_moveToOrFromRegister 90 = .ok (.goto 4, 3) := by decide +kernel
theorem dX4_moveToOrFromRegister_93 : decode cX4_moveToOrFromRegister 93 = .ok (.iconst 0, 1) := by decide +kernel
theorem dX4_moveToOrFromRegister_94 : decode cX4_moveToOrFromRegister 94 = .ok (.invokevirtual 215, 3) := by decide +kernel
theorem dX4_moveToOrFromRegister_97 : decode cX4_moveToOrFromRegister 97 = .ok (.return_, 1) := by decide +kernel
set_option maxRecDepth 20000 in
theorem ggX4_runTop_X4_needItems : GoodIn wsX4_runTop wsX4_needItems := goodIn_ca (goodIn_r _ [7, 8, 9, 1, 10, 87, 88, 89, 90, 91, 92, 93, 94, 95, 96, 97, 98] (by decide +kernel) (by decide +kernel)) (goodIn_sub (fun _ h => List.mem_cons_of_mem _ (List.mem_append_left _ (List.mem_append_right _ h))) (by decide +kernel))
set_option maxRecDepth 20000 in
theorem gX4_runTop_X4_needItems : GoodIn wsX4_runTop (wsV RX4 170 RX4 yX4_needItems wsX4_needItems) := goodIn_app (goodIn_of _ (by decide +kernel)) ggX4_runTop_X4_needItems
set_option maxRecDepth 20000 in
theorem ggX4_runTop_X3_slotBelowTop : GoodIn wsX4_runTop wsX3_slotBelowTop := goodIn_r _ [15, 16, 94, 95, 96, 97, 98] (by decide +kernel) (by decide +kernel)
set_option maxRecDepth 20000 in
theorem gX4_runTop_X3_slotBelowTop : GoodIn wsX4_runTop (wsV RX4 104 RX3 yX3_slotBelowTop wsX3_slotBelowTop) := goodIn_app (goodIn_of _ (by decide +kernel)) ggX4_runTop_X3_slotBelowTop
set_option maxRecDepth 20000 in
theorem ggX4_runTop_X3_rowAt : GoodIn wsX4_runTop wsX3_rowAt := goodIn_r _ [20, 21, 22, 23, 24, 14, 25, 16, 26, 94, 95, 96, 97, 98] (by decide +kernel) (by decide +kernel)
set_option maxRecDepth 20000 in
theorem gX4_runTop_X3_rowAt : GoodIn wsX4_runTop (wsV RX4 173 RX3 yX3_rowAt wsX3_rowAt) := goodIn_app (goodIn_of _ (by decide +kernel)) ggX4_runTop_X3_rowAt
set_option maxRecDepth 20000 in
theorem ggX4_runTop_X3_startAt : GoodIn wsX4_runTop wsX3_startAt := goodIn_r _ [30, 31, 22, 23, 24, 14, 25, 16, 26, 94, 95, 96, 97, 98] (by decide +kernel) (by decide +kernel)
set_option maxRecDepth 20000 in
theorem gX4_runTop_X3_startAt : GoodIn wsX4_runTop (wsV RX4 249 RX3 yX3_startAt wsX3_startAt) := goodIn_app (goodIn_of _ (by decide +kernel)) ggX4_runTop_X3_startAt
set_option maxRecDepth 20000 in
theorem ggX4_runTop_X3_valueAt : GoodIn wsX4_runTop wsX3_valueAt := goodIn_r _ [35, 26, 22, 23, 24, 14, 25, 16, 94, 95, 96, 97, 98] (by decide +kernel) (by decide +kernel)
set_option maxRecDepth 20000 in
theorem gX4_runTop_X3_valueAt : GoodIn wsX4_runTop (wsV RX4 96 RX3 yX3_valueAt wsX3_valueAt) := goodIn_app (goodIn_of _ (by decide +kernel)) ggX4_runTop_X3_valueAt
set_option maxRecDepth 20000 in
theorem ggX4_runTop_X1_enterMacro : GoodIn wsX4_runTop wsX1_enterMacro := goodIn_ca (goodIn_r _ [40, 41, 42, 43, 39, 44, 45, 46, 47, 48, 49, 50, 51, 52, 53, 54, 55, 56, 57, 58, 59, 60, 61, 62, 63, 64, 65, 66, 67, 68, 69, 70, 71, 72, 73, 74, 75, 76, 77, 78, 79, 80, 81, 99, 100, 101, 102, 103, 104] (by decide +kernel) (by decide +kernel)) (goodIn_sub (fun _ h => List.mem_cons_of_mem _ (List.mem_append_right _ h)) (by decide +kernel))
set_option maxRecDepth 20000 in
theorem gX4_runTop_X1_enterMacro : GoodIn wsX4_runTop (wsV RX4 252 RX1 yX1_enterMacro wsX1_enterMacro) := goodIn_app (goodIn_of _ (by decide +kernel)) ggX4_runTop_X1_enterMacro
set_option maxRecDepth 20000 in
theorem ggX4_runTop_X3_drop : GoodIn wsX4_runTop wsX3_drop := goodIn_r _ [85, 16, 86, 73, 74, 75, 94, 95, 96, 97, 98] (by decide +kernel) (by decide +kernel)
set_option maxRecDepth 20000 in
theorem gX4_runTop_X3_drop : GoodIn wsX4_runTop (wsV RX4 215 RX3 yX3_drop wsX3_drop) := goodIn_app (goodIn_of _ (by decide +kernel)) ggX4_runTop_X3_drop
theorem dX4_runTop_0 : decode cX4_runTop 0 = .ok (.aload_n 0, 1) := by decide +kernel
theorem dX4_runTop_1 : decode cX4_runTop 1 = .ok (.iconst 1, 1) := by decide +kernel
theorem dX4_runTop_2 : decode cX4_runTop 2 = .ok (.invokevirtual 170, 3) := by decide +kernel
theorem dX4_runTop_5 : decode cX4_runTop 5 = .ok (.aload_n 0, 1) := by decide +kernel
theorem dX4_runTop_6 : decode cX4_runTop 6 = .ok (.getfield 14, 3) := by decide +kernel
theorem dX4_runTop_9 : decode cX4_runTop 9 = .ok (.iconst 0, 1) := by decide +kernel
theorem dX4_runTop_10 : decode cX4_runTop 10 = .ok (.invokevirtual 104, 3) := by decide +kernel
theorem dX4_runTop_13 : decode cX4_runTop 13 = .ok (.istore_n 1, 1) := by decide +kernel
theorem dX4_runTop_14 : decode cX4_runTop 14 = .ok (.aload_n 0, 1) := by decide +kernel
theorem dX4_runTop_15 : decode cX4_runTop 15 = .ok (.getfield 14, 3) := by decide +kernel
theorem dX4_runTop_18 : decode cX4_runTop 18 = .ok (.iload_n 1, 1) := by decide +kernel
theorem dX4_runTop_19 : decode cX4_runTop 19 = .ok (.invokevirtual 173, 3) := by decide +kernel
theorem dX4_runTop_22 : decode cX4_runTop 22 = .ok (.astore_n 2, 1) := by decide +kernel
theorem dX4_runTop_23 : decode cX4_runTop 23 = .ok (.aload_n 2, 1) := by decide +kernel
theorem dX4_runTop_24 : decode cX4_runTop 24 = .ok (.ifnull 36, 3) := by decide +kernel
theorem dX4_runTop_27 : decode cX4_runTop 27 = .ok (.aload_n 0, 1) := by decide +kernel
theorem dX4_runTop_28 : decode cX4_runTop 28 = .ok (.getfield 28, 3) := by decide +kernel
theorem dX4_runTop_31 : decode cX4_runTop 31 = .ok (.aload_n 2, 1) := by decide +kernel
theorem dX4_runTop_32 : decode cX4_runTop 32 = .ok (.aload_n 0, 1) := by decide +kernel
theorem dX4_runTop_33 : decode cX4_runTop 33 = .ok (.getfield 14, 3) := by decide +kernel
theorem dX4_runTop_36 : decode cX4_runTop 36 = .ok (.iload_n 1, 1) := by decide +kernel
theorem dX4_runTop_37 : decode cX4_runTop 37 = .ok (.invokevirtual 249, 3) := by decide +kernel
theorem dX4_runTop_40 : decode cX4_runTop 40 = .ok (.aload_n 0, 1) := by decide +kernel
theorem dX4_runTop_41 : decode cX4_runTop 41 = .ok (.getfield 14, 3) := by decide +kernel
theorem dX4_runTop_44 : decode cX4_runTop 44 = .ok (.iload_n 1, 1) := by decide +kernel
theorem dX4_runTop_45 : decode cX4_runTop 45 = .ok (.invokevirtual 96, 3) := by decide +kernel
theorem dX4_runTop_48 : decode cX4_runTop 48 = .ok (.l2i, 1) := by decide +kernel
theorem dX4_runTop_49 : decode cX4_runTop 49 = .ok (.invokevirtual 252, 3) := by decide +kernel
theorem dX4_runTop_52 : decode cX4_runTop 52 = .ok (.aload_n 0, 1) := by decide +kernel
theorem dX4_runTop_53 : decode cX4_runTop 53 = .ok (.getfield 14, 3) := by decide +kernel
theorem dX4_runTop_56 : decode cX4_runTop 56 = .ok (.iconst 1, 1) := by decide +kernel
theorem dX4_runTop_57 : decode cX4_runTop 57 = .ok (.invokevirtual 215, 3) := by decide +kernel
theorem dX4_runTop_60 : decode cX4_runTop 60 = .ok (.return_, 1) := by decide +kernel
set_option maxRecDepth 20000 in
theorem ggX4_runIfOrdered_X4_registerOfLetter : GoodIn wsX4_runIfOrdered wsX4_registerOfLetter := goodIn_ca (goodIn_r _ [9, 10, 11, 4, 12, 13, 14, 15, 16, 17, 18, 19, 20, 21, 22, 23, 24, 25, 26, 27, 28, 29, 30, 31, 32, 33, 34, 8, 35, 36, 37, 38, 39, 40, 141, 142, 143, 144, 145, 146, 147, 148, 149, 150, 151, 152, 153] (by decide +kernel) (by decide +kernel)) (goodIn_sub (fun _ h => List.mem_cons_of_mem _ (List.mem_append_left _ (List.mem_append_left _ (List.mem_append_left _ (List.mem_append_right _ h))))) (by decide +kernel))
set_option maxRecDepth 20000 in
theorem gX4_runIfOrdered_X4_registerOfLetter : GoodIn wsX4_runIfOrdered (wsV RX4 242 RX4 yX4_registerOfLetter wsX4_registerOfLetter) := goodIn_app (goodIn_of _ (by decide +kernel)) ggX4_runIfOrdered_X4_registerOfLetter
set_option maxRecDepth 20000 in
theorem ggX4_runIfOrdered_X4_needNumbers : GoodIn wsX4_runIfOrdered wsX4_needNumbers := goodIn_ca (goodIn_ca (goodIn_r _ [44, 1, 2, 3, 45, 46, 47, 8, 48, 49, 50, 51, 52, 53, 54, 55, 56, 57, 58, 59, 60, 61, 62, 63, 64, 65, 66, 67, 141, 142, 143, 144, 145, 146, 147, 154, 155, 156, 157, 158] (by decide +kernel) (by decide +kernel)) (goodIn_sub (fun _ h => List.mem_cons_of_mem _ (List.mem_append_left _ (List.mem_append_left _ (List.mem_append_left _ (List.mem_append_left _ (List.mem_append_right _ h)))))) (by decide +kernel))) (goodIn_sub (fun _ h => List.mem_cons_of_mem _ (List.mem_append_left _ (List.mem_append_left _ (List.mem_append_right _ h)))) (by decide +kernel))
set_option maxRecDepth 20000 in
theorem gX4_runIfOrdered_X4_needNumbers : GoodIn wsX4_runIfOrdered (wsV RX4 182 RX4 yX4_needNumbers wsX4_needNumbers) := goodIn_app (goodIn_of _ (by decide +kernel)) ggX4_runIfOrdered_X4_needNumbers
set_option maxRecDepth 20000 in
theorem ggX4_runIfOrdered_X3_slotBelowTop : GoodIn wsX4_runIfOrdered wsX3_slotBelowTop := goodIn_r _ [56, 57, 154, 155, 156, 157, 158] (by decide +kernel) (by decide +kernel)
set_option maxRecDepth 20000 in
theorem gX4_runIfOrdered_X3_slotBelowTop : GoodIn wsX4_runIfOrdered (wsV RX4 104 RX3 yX3_slotBelowTop wsX3_slotBelowTop) := goodIn_app (goodIn_of _ (by decide +kernel)) ggX4_runIfOrdered_X3_slotBelowTop
set_option maxRecDepth 20000 in
theorem ggX4_runIfOrdered_X3_valueAt : GoodIn wsX4_runIfOrdered wsX3_valueAt := goodIn_r _ [71, 67, 63, 64, 65, 55, 66, 57, 154, 155, 156, 157, 158] (by decide +kernel) (by decide +kernel)
set_option maxRecDepth 20000 in
theorem gX4_runIfOrdered_X3_valueAt : GoodIn wsX4_runIfOrdered (wsV RX4 96 RX3 yX3_valueAt wsX3_valueAt) := goodIn_app (goodIn_of _ (by decide +kernel)) ggX4_runIfOrdered_X3_valueAt
set_option maxRecDepth 20000 in
theorem ggX4_runIfOrdered_X3_placesAt : GoodIn wsX4_runIfOrdered wsX3_placesAt := goodIn_r _ [75, 76, 63, 64, 65, 55, 66, 57, 67, 154, 155, 156, 157, 158] (by decide +kernel) (by decide +kernel)
set_option maxRecDepth 20000 in
theorem gX4_runIfOrdered_X3_placesAt : GoodIn wsX4_runIfOrdered (wsV RX4 100 RX3 yX3_placesAt wsX3_placesAt) := goodIn_app (goodIn_of _ (by decide +kernel)) ggX4_runIfOrdered_X3_placesAt
set_option maxRecDepth 20000 in
theorem ggX4_runIfOrdered_X0_order : GoodIn wsX4_runIfOrdered wsX0_order := goodIn_ca (goodIn_r _ [80, 81, 82, 83, 84, 85, 86, 79, 87, 88, 89, 90, 91, 92, 93, 94, 95, 96, 97, 98, 99, 100, 101, 102, 103, 104, 105, 106, 107] (by decide +kernel) (by decide +kernel)) (goodIn_sub (fun _ h => List.mem_cons_of_mem _ (List.mem_append_left _ (List.mem_append_right _ h))) (by decide +kernel))
set_option maxRecDepth 20000 in
theorem gX4_runIfOrdered_X0_order : GoodIn wsX4_runIfOrdered (va_wsS RX4 255 yX0_order wsX0_order) := goodIn_app (goodIn_of _ (by decide +kernel)) ggX4_runIfOrdered_X0_order
set_option maxRecDepth 20000 in
theorem ggX4_runIfOrdered_X4_needHeld : GoodIn wsX4_runIfOrdered wsX4_needHeld := goodIn_ca (goodIn_r _ [110, 49, 50, 51, 154, 155, 156, 157, 158] (by decide +kernel) (by decide +kernel)) (goodIn_sub (fun _ h => List.mem_cons_of_mem _ (List.mem_append_left _ (List.mem_append_left _ (List.mem_append_right _ h)))) (by decide +kernel))
set_option maxRecDepth 20000 in
theorem gX4_runIfOrdered_X4_needHeld : GoodIn wsX4_runIfOrdered (va_wsS RX4 246 yX4_needHeld wsX4_needHeld) := goodIn_app (goodIn_of _ (by decide +kernel)) ggX4_runIfOrdered_X4_needHeld
set_option maxRecDepth 20000 in
theorem ggX4_runIfOrdered_X3_rowAt : GoodIn wsX4_runIfOrdered wsX3_rowAt := goodIn_r _ [61, 62, 63, 64, 65, 55, 66, 57, 67, 154, 155, 156, 157, 158] (by decide +kernel) (by decide +kernel)
set_option maxRecDepth 20000 in
theorem gX4_runIfOrdered_X3_rowAt : GoodIn wsX4_runIfOrdered (wsV RX4 173 RX3 yX3_rowAt wsX3_rowAt) := goodIn_app (goodIn_of _ (by decide +kernel)) ggX4_runIfOrdered_X3_rowAt
set_option maxRecDepth 20000 in
theorem ggX4_runIfOrdered_X3_startAt : GoodIn wsX4_runIfOrdered wsX3_startAt := goodIn_r _ [114, 115, 63, 64, 65, 55, 66, 57, 67, 154, 155, 156, 157, 158] (by decide +kernel) (by decide +kernel)
set_option maxRecDepth 20000 in
theorem gX4_runIfOrdered_X3_startAt : GoodIn wsX4_runIfOrdered (wsV RX4 249 RX3 yX3_startAt wsX3_startAt) := goodIn_app (goodIn_of _ (by decide +kernel)) ggX4_runIfOrdered_X3_startAt
set_option maxRecDepth 20000 in
theorem ggX4_runIfOrdered_X1_enterMacro : GoodIn wsX4_runIfOrdered wsX1_enterMacro := goodIn_ca (goodIn_r _ [119, 120, 121, 122, 15, 123, 124, 13, 14, 16, 17, 18, 19, 20, 21, 22, 23, 24, 25, 26, 27, 28, 29, 30, 31, 125, 38, 39, 40, 126, 127, 128, 129, 130, 82, 83, 84, 131, 132, 133, 134, 135, 99, 148, 149, 150, 151, 152, 153] (by decide +kernel) (by decide +kernel)) (goodIn_sub (fun _ h => List.mem_cons_of_mem _ (List.mem_append_right _ h)) (by decide +kernel))
set_option maxRecDepth 20000 in
theorem gX4_runIfOrdered_X1_enterMacro : GoodIn wsX4_runIfOrdered (wsV RX4 252 RX1 yX1_enterMacro wsX1_enterMacro) := goodIn_app (goodIn_of _ (by decide +kernel)) ggX4_runIfOrdered_X1_enterMacro
set_option maxRecDepth 20000 in
theorem ggX4_runIfOrdered_X3_drop : GoodIn wsX4_runIfOrdered wsX3_drop := goodIn_r _ [139, 57, 140, 82, 83, 84, 154, 155, 156, 157, 158] (by decide +kernel) (by decide +kernel)
set_option maxRecDepth 20000 in
theorem gX4_runIfOrdered_X3_drop : GoodIn wsX4_runIfOrdered (wsV RX4 215 RX3 yX3_drop wsX3_drop) := goodIn_app (goodIn_of _ (by decide +kernel)) ggX4_runIfOrdered_X3_drop
theorem dX4_runIfOrdered_0 : decode cX4_runIfOrdered 0 = .ok (.aload_n 0, 1) := by decide +kernel
theorem dX4_runIfOrdered_1 : decode cX4_runIfOrdered 1 = .ok (.invokevirtual 242, 3) := by decide +kernel
theorem dX4_runIfOrdered_4 : decode cX4_runIfOrdered 4 = .ok (.astore_n 2, 1) := by decide +kernel
theorem dX4_runIfOrdered_5 : decode cX4_runIfOrdered 5 = .ok (.aload_n 0, 1) := by decide +kernel
theorem dX4_runIfOrdered_6 : decode cX4_runIfOrdered 6 = .ok (.iconst 2, 1) := by decide +kernel
theorem dX4_runIfOrdered_7 : decode cX4_runIfOrdered 7 = .ok (.invokevirtual 182, 3) := by decide +kernel
theorem dX4_runIfOrdered_10 : decode cX4_runIfOrdered 10 = .ok (.aload_n 0, 1) := by decide +kernel
theorem dX4_runIfOrdered_11 : decode cX4_runIfOrdered 11 = .ok (.getfield 14, 3) := by decide +kernel
theorem dX4_runIfOrdered_14 : decode cX4_runIfOrdered 14 = .ok (.iconst 1, 1) := by decide +kernel
theorem dX4_runIfOrdered_15 : decode cX4_runIfOrdered 15 = .ok (.invokevirtual 104, 3) := by decide +kernel
theorem dX4_runIfOrdered_18 : decode cX4_runIfOrdered 18 = .ok (.istore_n 3, 1) := by decide +kernel
theorem dX4_runIfOrdered_19 : decode cX4_runIfOrdered 19 = .ok (.aload_n 0, 1) := by decide +kernel
theorem dX4_runIfOrdered_20 : decode cX4_runIfOrdered 20 = .ok (.getfield 14, 3) := by decide +kernel
theorem dX4_runIfOrdered_23 : decode cX4_runIfOrdered 23 = .ok (.iconst 0, 1) := by decide +kernel
theorem dX4_runIfOrdered_24 : decode cX4_runIfOrdered 24 = .ok (.invokevirtual 104, 3) := by decide +kernel
theorem dX4_runIfOrdered_27 : decode cX4_runIfOrdered 27 = .ok (.istore 4, 2) := by decide +kernel
theorem dX4_runIfOrdered_29 : decode cX4_runIfOrdered 29 = .ok (.aload_n 0, 1) := by decide +kernel
theorem dX4_runIfOrdered_30 : decode cX4_runIfOrdered 30 = .ok (.getfield 14, 3) := by decide +kernel
theorem dX4_runIfOrdered_33 : decode cX4_runIfOrdered 33 = .ok (.iload 4, 2) := by decide +kernel
theorem dX4_runIfOrdered_35 : decode cX4_runIfOrdered 35 = .ok (.invokevirtual 96, 3) := by decide +kernel
theorem dX4_runIfOrdered_38 : decode cX4_runIfOrdered 38 = .ok (.aload_n 0, 1) := by decide +kernel
theorem dX4_runIfOrdered_39 : decode cX4_runIfOrdered 39 = .ok (.getfield 14, 3) := by decide +kernel
theorem dX4_runIfOrdered_42 : decode cX4_runIfOrdered 42 = .ok (.iload 4, 2) := by decide +kernel
theorem dX4_runIfOrdered_44 : decode cX4_runIfOrdered 44 = .ok (.invokevirtual 100, 3) := by decide +kernel
theorem dX4_runIfOrdered_47 : decode cX4_runIfOrdered 47 = .ok (.aload_n 0, 1) := by decide +kernel
theorem dX4_runIfOrdered_48 : decode cX4_runIfOrdered 48 = .ok (.getfield 14, 3) := by decide +kernel
theorem dX4_runIfOrdered_51 : decode cX4_runIfOrdered 51 = .ok (.iload_n 3, 1) := by decide +kernel
theorem dX4_runIfOrdered_52 : decode cX4_runIfOrdered 52 = .ok (.invokevirtual 96, 3) := by decide +kernel
theorem dX4_runIfOrdered_55 : decode cX4_runIfOrdered 55 = .ok (.aload_n 0, 1) := by decide +kernel
theorem dX4_runIfOrdered_56 : decode cX4_runIfOrdered 56 = .ok (.getfield 14, 3) := by decide +kernel
theorem dX4_runIfOrdered_59 : decode cX4_runIfOrdered 59 = .ok (.iload_n 3, 1) := by decide +kernel
theorem dX4_runIfOrdered_60 : decode cX4_runIfOrdered 60 = .ok (.invokevirtual 100, 3) := by decide +kernel
theorem dX4_runIfOrdered_63 : decode cX4_runIfOrdered 63 = .ok (.invokestatic 255, 3) := by decide +kernel
theorem dX4_runIfOrdered_66 : decode cX4_runIfOrdered 66 = .ok (.istore 5, 2) := by decide +kernel
theorem dX4_runIfOrdered_68 : decode cX4_runIfOrdered 68 = .ok (.iload_n 1, 1) := by decide +kernel
theorem dX4_runIfOrdered_69 : decode cX4_runIfOrdered 69 = .ok (.bipush 60, 2) := by decide +kernel
theorem dX4_runIfOrdered_71 : decode cX4_runIfOrdered 71 = .ok (.if_icmp .ne 16, 3) := by decide +kernel
theorem dX4_runIfOrdered_74 : decode cX4_runIfOrdered 74 = .ok (.iload 5, 2) := by decide +kernel
theorem dX4_runIfOrdered_76 : decode cX4_runIfOrdered 76 = .ok (.ifCond .ge 7, 3) := by decide +kernel
theorem dX4_runIfOrdered_79 : decode cX4_runIfOrdered 79 = .ok (.iconst 1, 1) := by decide +kernel
theorem dX4_runIfOrdered_80 : decode cX4_runIfOrdered 80 = .ok (.goto 36, 3) := by decide +kernel
theorem dX4_runIfOrdered_83 : decode cX4_runIfOrdered 83 = .ok (.iconst 0, 1) := by decide +kernel
theorem dX4_runIfOrdered_84 : decode cX4_runIfOrdered 84 = .ok (.goto 32, 3) := by decide +kernel
theorem dX4_runIfOrdered_87 : decode cX4_runIfOrdered 87 = .ok (.iload_n 1, 1) := by decide +kernel
theorem dX4_runIfOrdered_88 : decode cX4_runIfOrdered 88 = .ok (.bipush 62, 2) := by decide +kernel
theorem dX4_runIfOrdered_90 : decode cX4_runIfOrdered 90 = .ok (.if_icmp .ne 16, 3) := by decide +kernel
theorem dX4_runIfOrdered_93 : decode cX4_runIfOrdered 93 = .ok (.iload 5, 2) := by decide +kernel
theorem dX4_runIfOrdered_95 : decode cX4_runIfOrdered 95 = .ok (.ifCond .le 7, 3) := by decide +kernel
theorem dX4_runIfOrdered_98 : decode cX4_runIfOrdered 98 = .ok (.iconst 1, 1) := by decide +kernel
theorem dX4_runIfOrdered_99 : decode cX4_runIfOrdered 99 = .ok (.goto 17, 3) := by decide +kernel
theorem dX4_runIfOrdered_102 : decode cX4_runIfOrdered 102 = .ok (.iconst 0, 1) := by decide +kernel
theorem dX4_runIfOrdered_103 : decode cX4_runIfOrdered 103 = .ok (.goto 13, 3) := by decide +kernel
theorem dX4_runIfOrdered_106 : decode cX4_runIfOrdered 106 = .ok (.iload 5, 2) := by decide +kernel
theorem dX4_runIfOrdered_108 : decode cX4_runIfOrdered 108 = .ok (.ifCond .ne 7, 3) := by decide +kernel
theorem dX4_runIfOrdered_111 : decode cX4_runIfOrdered 111 = .ok (.iconst 1, 1) := by decide +kernel
theorem dX4_runIfOrdered_112 : decode cX4_runIfOrdered 112 = .ok (.goto 4, 3) := by decide +kernel
theorem dX4_runIfOrdered_115 : decode cX4_runIfOrdered 115 = .ok (.iconst 0, 1) := by decide +kernel
theorem dX4_runIfOrdered_116 : decode cX4_runIfOrdered 116 = .ok (.istore 6, 2) := by decide +kernel
theorem dX4_runIfOrdered_118 : decode cX4_runIfOrdered 118 = .ok (.iload 6, 2) := by decide +kernel
theorem dX4_runIfOrdered_120 : decode cX4_runIfOrdered 120 = .ok (.ifCond .eq 60, 3) := by decide +kernel
theorem dX4_runIfOrdered_123 : decode cX4_runIfOrdered 123 = .ok (.aload_n 2, 1) := by decide +kernel
theorem dX4_runIfOrdered_124 : decode cX4_runIfOrdered 124 = .ok (.invokestatic 246, 3) := by decide +kernel
theorem dX4_runIfOrdered_127 : decode cX4_runIfOrdered 127 = .ok (.aload_n 2, 1) := by decide +kernel
theorem dX4_runIfOrdered_128 : decode cX4_runIfOrdered 128 = .ok (.iconst 0, 1) := by decide +kernel
theorem dX4_runIfOrdered_129 : decode cX4_runIfOrdered 129 = .ok (.invokevirtual 104, 3) := by decide +kernel
theorem dX4_runIfOrdered_132 : decode cX4_runIfOrdered 132 = .ok (.istore 7, 2) := by decide +kernel
theorem dX4_runIfOrdered_134 : decode cX4_runIfOrdered 134 = .ok (.aload_n 2, 1) := by decide +kernel
theorem dX4_runIfOrdered_135 : decode cX4_runIfOrdered 135 = .ok (.iload 7, 2) := by decide +kernel
theorem dX4_runIfOrdered_137 : decode cX4_runIfOrdered 137 = .ok (.invokevirtual 173, 3) := by decide +kernel
theorem dX4_runIfOrdered_140 : decode cX4_runIfOrdered 140 = .ok (.astore 8, 2) := by decide +kernel
theorem dX4_runIfOrdered_142 : decode cX4_runIfOrdered 142 = .ok (.aload 8, 2) := by decide +kernel
theorem dX4_runIfOrdered_144 : decode cX4_runIfOrdered 144 = .ok (.ifnonnull 14, 3) := by decide +kernel
theorem dX4_runIfOrdered_147 : decode cX4_runIfOrdered 147 = .ok (.new 177, 3) := by decide +kernel
theorem dX4_runIfOrdered_150 : decode cX4_runIfOrdered 150 = .ok (.dup, 1) := by decide +kernel
theorem dX4_runIfOrdered_151 : decode cX4_runIfOrdered 151 = .ok (.ldc_w 259, 3) := by decide +kernel
theorem dX4_runIfOrdered_154 : decode cX4_runIfOrdered 154 = .ok (.invokespecial 181, 3) := by decide +kernel
theorem dX4_runIfOrdered_157 : decode cX4_runIfOrdered 157 = .ok (.athrow, 1) := by decide +kernel
theorem dX4_runIfOrdered_158 : decode cX4_runIfOrdered 158 = .ok (.aload_n 0, 1) := by decide +kernel
theorem dX4_runIfOrdered_159 : decode cX4_runIfOrdered 159 = .ok (.getfield 28, 3) := by decide +kernel
theorem dX4_runIfOrdered_162 : decode cX4_runIfOrdered 162 = .ok (.aload 8, 2) := by decide +kernel
theorem dX4_runIfOrdered_164 : decode cX4_runIfOrdered 164 = .ok (.aload_n 2, 1) := by decide +kernel
theorem dX4_runIfOrdered_165 : decode cX4_runIfOrdered 165 = .ok (.iload 7, 2) := by decide +kernel
theorem dX4_runIfOrdered_167 : decode cX4_runIfOrdered 167 = .ok (.invokevirtual 249, 3) := by decide +kernel
theorem dX4_runIfOrdered_170 : decode cX4_runIfOrdered 170 = .ok (.aload_n 2, 1) := by decide +kernel
theorem dX4_runIfOrdered_171 : decode cX4_runIfOrdered 171 = .ok (.iload 7, 2) := by decide +kernel
theorem dX4_runIfOrdered_173 : decode cX4_runIfOrdered 173 = .ok (.invokevirtual 96, 3) := by decide +kernel
theorem dX4_runIfOrdered_176 : decode cX4_runIfOrdered 176 = .ok (.l2i, 1) := by decide +kernel
theorem dX4_runIfOrdered_177 : decode cX4_runIfOrdered 177 = .ok (.invokevirtual 252, 3) := by decide +kernel
theorem dX4_runIfOrdered_180 : decode cX4_runIfOrdered 180 = .ok (.aload_n 0, 1) := by decide +kernel
theorem dX4_runIfOrdered_181 : decode cX4_runIfOrdered 181 = .ok (.getfield 14, 3) := by decide +kernel
theorem dX4_runIfOrdered_184 : decode cX4_runIfOrdered 184 = .ok (.iconst 2, 1) := by decide +kernel
theorem dX4_runIfOrdered_185 : decode cX4_runIfOrdered 185 = .ok (.invokevirtual 215, 3) := by decide +kernel
theorem dX4_runIfOrdered_188 : decode cX4_runIfOrdered 188 = .ok (.return_, 1) := by decide +kernel
theorem dX5_init_0 : decode cX5_init 0 = .ok (.aload_n 0, 1) := by decide +kernel
theorem dX5_init_1 : decode cX5_init 1 = .ok (.invokespecial 1, 3) := by decide +kernel
theorem dX5_init_4 : decode cX5_init 4 = .ok (.aload_n 0, 1) := by decide +kernel
theorem dX5_init_5 : decode cX5_init 5 = .ok (.sipush 160, 3) := by decide +kernel
theorem dX5_init_8 : decode cX5_init 8 = .ok (.newarray .int, 2) := by decide +kernel
theorem dX5_init_10 : decode cX5_init 10 = .ok (.putfield 7, 3) := by decide +kernel
theorem dX5_init_13 : decode cX5_init 13 = .ok (.aload_n 0, 1) := by decide +kernel
theorem dX5_init_14 : decode cX5_init 14 = .ok (.bipush 82, 2) := by decide +kernel
theorem dX5_init_16 : decode cX5_init 16 = .ok (.newarray .long, 2) := by decide +kernel
theorem dX5_init_18 : decode cX5_init 18 = .ok (.putfield 13, 3) := by decide +kernel
theorem dX5_init_21 : decode cX5_init 21 = .ok (.aload_n 0, 1) := by decide +kernel
theorem dX5_init_22 : decode cX5_init 22 = .ok (.bipush 82, 2) := by decide +kernel
theorem dX5_init_24 : decode cX5_init 24 = .ok (.newarray .int, 2) := by decide +kernel
theorem dX5_init_26 : decode cX5_init 26 = .ok (.putfield 17, 3) := by decide +kernel
theorem dX5_init_29 : decode cX5_init 29 = .ok (.aload_n 0, 1) := by decide +kernel
theorem dX5_init_30 : decode cX5_init 30 = .ok (.sipush 13120, 3) := by decide +kernel
theorem dX5_init_33 : decode cX5_init 33 = .ok (.newarray .int, 2) := by decide +kernel
theorem dX5_init_35 : decode cX5_init 35 = .ok (.putfield 20, 3) := by decide +kernel
theorem dX5_init_38 : decode cX5_init 38 = .ok (.aload_n 0, 1) := by decide +kernel
theorem dX5_init_39 : decode cX5_init 39 = .ok (.iconst 4, 1) := by decide +kernel
theorem dX5_init_40 : decode cX5_init 40 = .ok (.newarray .int, 2) := by decide +kernel
theorem dX5_init_42 : decode cX5_init 42 = .ok (.putfield 23, 3) := by decide +kernel
theorem dX5_init_45 : decode cX5_init 45 = .ok (.aload_n 0, 1) := by decide +kernel
theorem dX5_init_46 : decode cX5_init 46 = .ok (.sipush 1920, 3) := by decide +kernel
theorem dX5_init_49 : decode cX5_init 49 = .ok (.newarray .int, 2) := by decide +kernel
theorem dX5_init_51 : decode cX5_init 51 = .ok (.putfield 26, 3) := by decide +kernel
theorem dX5_init_54 : decode cX5_init 54 = .ok (.aload_n 0, 1) := by decide +kernel
theorem dX5_init_55 : decode cX5_init 55 = .ok (.bipush 12, 2) := by decide +kernel
theorem dX5_init_57 : decode cX5_init 57 = .ok (.newarray .int, 2) := by decide +kernel
theorem dX5_init_59 : decode cX5_init 59 = .ok (.putfield 29, 3) := by decide +kernel
theorem dX5_init_62 : decode cX5_init 62 = .ok (.aload_n 0, 1) := by decide +kernel
theorem dX5_init_63 : decode cX5_init 63 = .ok (.bipush 12, 2) := by decide +kernel
theorem dX5_init_65 : decode cX5_init 65 = .ok (.newarray .int, 2) := by decide +kernel
theorem dX5_init_67 : decode cX5_init 67 = .ok (.putfield 32, 3) := by decide +kernel
theorem dX5_init_70 : decode cX5_init 70 = .ok (.aload_n 0, 1) := by decide +kernel
theorem dX5_init_71 : decode cX5_init 71 = .ok (.bipush 40, 2) := by decide +kernel
theorem dX5_init_73 : decode cX5_init 73 = .ok (.newarray .long, 2) := by decide +kernel
theorem dX5_init_75 : decode cX5_init 75 = .ok (.putfield 35, 3) := by decide +kernel
theorem dX5_init_78 : decode cX5_init 78 = .ok (.aload_n 0, 1) := by decide +kernel
theorem dX5_init_79 : decode cX5_init 79 = .ok (.bipush 40, 2) := by decide +kernel
theorem dX5_init_81 : decode cX5_init 81 = .ok (.newarray .int, 2) := by decide +kernel
theorem dX5_init_83 : decode cX5_init 83 = .ok (.putfield 38, 3) := by decide +kernel
theorem dX5_init_86 : decode cX5_init 86 = .ok (.return_, 1) := by decide +kernel
theorem dX5_thrown_0 : decode cX5_thrown 0 = .ok (.aload_n 0, 1) := by decide +kernel
theorem dX5_thrown_1 : decode cX5_thrown 1 = .ok (.getfield 41, 3) := by decide +kernel
theorem dX5_thrown_4 : decode cX5_thrown 4 = .ok (.ireturn, 1) := by decide +kernel
theorem dX5_within_0 : decode cX5_within 0 = .ok (.lload_n 0, 1) := by decide +kernel
theorem dX5_within_1 : decode cX5_within 1 = .ok (.lload_n 2, 1) := by decide +kernel
theorem dX5_within_2 : decode cX5_within 2 = .ok (.lcmp, 1) := by decide +kernel
theorem dX5_within_3 : decode cX5_within 3 = .ok (.ifCond .lt 14, 3) := by decide +kernel
theorem dX5_within_6 : decode cX5_within 6 = .ok (.lload_n 0, 1) := by decide +kernel
theorem dX5_within_7 : decode cX5_within 7 = .ok (.lload 4, 2) := by decide +kernel
theorem dX5_within_9 : decode cX5_within 9 = .ok (.lcmp, 1) := by decide +kernel
theorem dX5_within_10 : decode cX5_within 10 = .ok (.ifCond .gt 7, 3) := by decide +kernel
theorem dX5_within_13 : decode cX5_within 13 = .ok (.iconst 1, 1) := by decide +kernel
theorem dX5_within_14 : decode cX5_within 14 = .ok (.goto 4, 3) := by decide +kernel
theorem dX5_within_17 : decode cX5_within 17 = .ok (.iconst 0, 1) := by decide +kernel
theorem dX5_within_18 : decode cX5_within 18 = .ok (.ireturn, 1) := by decide +kernel
theorem dX5_write_0 : decode cX5_write 0 = .ok (.aload_n 0, 1) := by decide +kernel
theorem dX5_write_1 : decode cX5_write 1 = .ok (.iconst 0, 1) := by decide +kernel
theorem dX5_write_2 : decode cX5_write 2 = .ok (.putfield 41, 3) := by decide +kernel
theorem dX5_write_5 : decode cX5_write 5 = .ok (.iconst 0, 1) := by decide +kernel
theorem dX5_write_6 : decode cX5_write 6 = .ok (.istore_n 3, 1) := by decide +kernel
theorem dX5_write_7 : decode cX5_write 7 = .ok (.iconst 0, 1) := by decide +kernel
theorem dX5_write_8 : decode cX5_write 8 = .ok (.istore 4, 2) := by decide +kernel
theorem dX5_write_10 : decode cX5_write 10 = .ok (.iload 4, 2) := by decide +kernel
theorem dX5_write_12 : decode cX5_write 12 = .ok (.bipush 8, 2) := by decide +kernel
theorem dX5_write_14 : decode cX5_write 14 = .ok (.if_icmp .ge 43, 3) := by decide +kernel
theorem dX5_write_17 : decode cX5_write 17 = .ok (.lload_n 1, 1) := by decide +kernel
theorem dX5_write_18 : decode cX5_write 18 = .ok (.bipush 8, 2) := by decide +kernel
theorem dX5_write_20 : decode cX5_write 20 = .ok (.iload 4, 2) := by decide +kernel
theorem dX5_write_22 : decode cX5_write 22 = .ok (.imul, 1) := by decide +kernel
theorem dX5_write_23 : decode cX5_write 23 = .ok (.lshr, 1) := by decide +kernel
theorem dX5_write_24 : decode cX5_write 24 = .ok (.l2i, 1) := by decide +kernel
theorem dX5_write_25 : decode cX5_write 25 = .ok (.sipush 255, 3) := by decide +kernel
theorem dX5_write_28 : decode cX5_write 28 = .ok (.iand, 1) := by decide +kernel
theorem dX5_write_29 : decode cX5_write 29 = .ok (.istore 5, 2) := by decide +kernel
theorem dX5_write_31 : decode cX5_write 31 = .ok (.iload 5, 2) := by decide +kernel
theorem dX5_write_33 : decode cX5_write 33 = .ok (.ifCond .ne 6, 3) := by decide +kernel
theorem dX5_write_36 : decode cX5_write 36 = .ok (.goto 21, 3) := by decide +kernel
theorem dX5_write_39 : decode cX5_write 39 = .ok (.iload 5, 2) := by decide +kernel
theorem dX5_write_41 : decode cX5_write 41 = .ok (.bipush 127, 2) := by decide +kernel
theorem dX5_write_43 : decode cX5_write 43 = .ok (.if_icmp .le 5, 3) := by decide +kernel
theorem dX5_write_46 : decode cX5_write 46 = .ok (.iconst (-1), 1) := by decide +kernel
theorem dX5_write_47 : decode cX5_write 47 = .ok (.ireturn, 1) := by decide +kernel
theorem dX5_write_48 : decode cX5_write 48 = .ok (.iinc 3 1, 3) := by decide +kernel
theorem dX5_write_51 : decode cX5_write 51 = .ok (.iinc 4 1, 3) := by decide +kernel
theorem dX5_write_54 : decode cX5_write 54 = .ok (.goto (-44), 3) := by decide +kernel
theorem dX5_write_57 : decode cX5_write 57 = .ok (.aload_n 0, 1) := by decide +kernel
theorem dX5_write_58 : decode cX5_write 58 = .ok (.getfield 45, 3) := by decide +kernel
theorem dX5_write_61 : decode cX5_write 61 = .ok (.iload_n 3, 1) := by decide +kernel
theorem dX5_write_62 : decode cX5_write 62 = .ok (.iadd, 1) := by decide +kernel
theorem dX5_write_63 : decode cX5_write 63 = .ok (.sipush 160, 3) := by decide +kernel
theorem dX5_write_66 : decode cX5_write 66 = .ok (.if_icmp .le 5, 3) := by decide +kernel
theorem dX5_write_69 : decode cX5_write 69 = .ok (.iconst (-1), 1) := by decide +kernel
theorem dX5_write_70 : decode cX5_write 70 = .ok (.ireturn, 1) := by decide +kernel
theorem dX5_write_71 : decode cX5_write 71 = .ok (.iconst 0, 1) := by decide +kernel
theorem dX5_write_72 : decode cX5_write 72 = .ok (.istore 4, 2) := by decide +kernel
theorem dX5_write_74 : decode cX5_write 74 = .ok (.iload 4, 2) := by decide +kernel
theorem dX5_write_76 : decode cX5_write 76 = .ok (.iload_n 3, 1) := by decide +kernel
theorem dX5_write_77 : decode cX5_write 77 = .ok (.if_icmp .ge 32, 3) := by decide +kernel
theorem dX5_write_80 : decode cX5_write 80 = .ok (.aload_n 0, 1) := by decide +kernel
theorem dX5_write_81 : decode cX5_write 81 = .ok (.getfield 7, 3) := by decide +kernel
theorem dX5_write_84 : decode cX5_write 84 = .ok (.aload_n 0, 1) := by decide +kernel
theorem dX5_write_85 : decode cX5_write 85 = .ok (.getfield 45, 3) := by decide +kernel
theorem dX5_write_88 : decode cX5_write 88 = .ok (.iload 4, 2) := by decide +kernel
theorem dX5_write_90 : decode cX5_write 90 = .ok (.iadd, 1) := by decide +kernel
theorem dX5_write_91 : decode cX5_write 91 = .ok (.lload_n 1, 1) := by decide +kernel
theorem dX5_write_92 : decode cX5_write 92 = .ok (.bipush 8, 2) := by decide +kernel
theorem dX5_write_94 : decode cX5_write 94 = .ok (.iload 4, 2) := by decide +kernel
theorem dX5_write_96 : decode cX5_write 96 = .ok (.imul, 1) := by decide +kernel
theorem dX5_write_97 : decode cX5_write 97 = .ok (.lshr, 1) := by decide +kernel
theorem dX5_write_98 : decode cX5_write 98 = .ok (.l2i, 1) := by decide +kernel
theorem dX5_write_99 : decode cX5_write 99 = .ok (.bipush 127, 2) := by decide +kernel
theorem dX5_write_101 : decode cX5_write 101 = .ok (.iand, 1) := by decide +kernel
theorem dX5_write_102 : decode cX5_write 102 = .ok (.iastore, 1) := by decide +kernel
theorem dX5_write_103 : decode cX5_write 103 = .ok (.iinc 4 1, 3) := by decide +kernel
theorem dX5_write_106 : decode cX5_write 106 = .ok (.goto (-32), 3) := by decide +kernel
theorem dX5_write_109 : decode cX5_write 109 = .ok (.aload_n 0, 1) := by decide +kernel
theorem dX5_write_110 : decode cX5_write 110 = .ok (.dup, 1) := by decide +kernel
theorem dX5_write_111 : decode cX5_write 111 = .ok (.getfield 45, 3) := by decide +kernel
theorem dX5_write_114 : decode cX5_write 114 = .ok (.iload_n 3, 1) := by decide +kernel
theorem dX5_write_115 : decode cX5_write 115 = .ok (.iadd, 1) := by decide +kernel
theorem dX5_write_116 : decode cX5_write 116 = .ok (.putfield 45, 3) := by decide +kernel
theorem dX5_write_119 : decode cX5_write 119 = .ok (.iload_n 3, 1) := by decide +kernel
theorem dX5_write_120 : decode cX5_write 120 = .ok (.ireturn, 1) := by decide +kernel
theorem dX5_erase_0 : decode cX5_erase 0 = .ok (.aload_n 0, 1) := by decide +kernel
theorem dX5_erase_1 : decode cX5_erase 1 = .ok (.iconst 0, 1) := by decide +kernel
theorem dX5_erase_2 : decode cX5_erase 2 = .ok (.putfield 41, 3) := by decide +kernel
theorem dX5_erase_5 : decode cX5_erase 5 = .ok (.aload_n 0, 1) := by decide +kernel
theorem dX5_erase_6 : decode cX5_erase 6 = .ok (.getfield 45, 3) := by decide +kernel
theorem dX5_erase_9 : decode cX5_erase 9 = .ok (.istore_n 1, 1) := by decide +kernel
theorem dX5_erase_10 : decode cX5_erase 10 = .ok (.aload_n 0, 1) := by decide +kernel
theorem dX5_erase_11 : decode cX5_erase 11 = .ok (.iconst 0, 1) := by decide +kernel
theorem dX5_erase_12 : decode cX5_erase 12 = .ok (.putfield 45, 3) := by decide +kernel
theorem dX5_erase_15 : decode cX5_erase 15 = .ok (.iload_n 1, 1) := by decide +kernel
theorem dX5_erase_16 : decode cX5_erase 16 = .ok (.ireturn, 1) := by decide +kernel
theorem dX5_copy_0 : decode cX5_copy 0 = .ok (.aload_n 0, 1) := by decide +kernel
theorem dX5_copy_1 : decode cX5_copy 1 = .ok (.getfield 13, 3) := by decide +kernel
theorem dX5_copy_4 : decode cX5_copy 4 = .ok (.iload_n 2, 1) := by decide +kernel
theorem dX5_copy_5 : decode cX5_copy 5 = .ok (.aload_n 0, 1) := by decide +kernel
theorem dX5_copy_6 : decode cX5_copy 6 = .ok (.getfield 13, 3) := by decide +kernel
theorem dX5_copy_9 : decode cX5_copy 9 = .ok (.iload_n 1, 1) := by decide +kernel
theorem dX5_copy_10 : decode cX5_copy 10 = .ok (.laload, 1) := by decide +kernel
theorem dX5_copy_11 : decode cX5_copy 11 = .ok (.lastore, 1) := by decide +kernel
theorem dX5_copy_12 : decode cX5_copy 12 = .ok (.aload_n 0, 1) := by decide +kernel
theorem dX5_copy_13 : decode cX5_copy 13 = .ok (.getfield 17, 3) := by decide +kernel
theorem dX5_copy_16 : decode cX5_copy 16 = .ok (.iload_n 2, 1) := by decide +kernel
theorem dX5_copy_17 : decode cX5_copy 17 = .ok (.aload_n 0, 1) := by decide +kernel
theorem dX5_copy_18 : decode cX5_copy 18 = .ok (.getfield 17, 3) := by decide +kernel
theorem dX5_copy_21 : decode cX5_copy 21 = .ok (.iload_n 1, 1) := by decide +kernel
theorem dX5_copy_22 : decode cX5_copy 22 = .ok (.iaload, 1) := by decide +kernel
theorem dX5_copy_23 : decode cX5_copy 23 = .ok (.iastore, 1) := by decide +kernel
theorem dX5_copy_24 : decode cX5_copy 24 = .ok (.iconst 0, 1) := by decide +kernel
theorem dX5_copy_25 : decode cX5_copy 25 = .ok (.istore_n 3, 1) := by decide +kernel
theorem dX5_copy_26 : decode cX5_copy 26 = .ok (.iload_n 3, 1) := by decide +kernel
theorem dX5_copy_27 : decode cX5_copy 27 = .ok (.i2l, 1) := by decide +kernel
theorem dX5_copy_28 : decode cX5_copy 28 = .ok (.aload_n 0, 1) := by decide +kernel
theorem dX5_copy_29 : decode cX5_copy 29 = .ok (.getfield 13, 3) := by decide +kernel
theorem dX5_copy_32 : decode cX5_copy 32 = .ok (.iload_n 1, 1) := by decide +kernel
theorem dX5_copy_33 : decode cX5_copy 33 = .ok (.laload, 1) := by decide +kernel
theorem dX5_copy_34 : decode cX5_copy 34 = .ok (.lcmp, 1) := by decide +kernel
theorem dX5_copy_35 : decode cX5_copy 35 = .ok (.ifCond .ge 42, 3) := by decide +kernel
theorem dX5_copy_38 : decode cX5_copy 38 = .ok (.aload_n 0, 1) := by decide +kernel
theorem dX5_copy_39 : decode cX5_copy 39 = .ok (.getfield 17, 3) := by decide +kernel
theorem dX5_copy_42 : decode cX5_copy 42 = .ok (.iload_n 1, 1) := by decide +kernel
theorem dX5_copy_43 : decode cX5_copy 43 = .ok (.iaload, 1) := by decide +kernel
theorem dX5_copy_44 : decode cX5_copy 44 = .ok (.ifCond .ge 33, 3) := by decide +kernel
theorem dX5_copy_47 : decode cX5_copy 47 = .ok (.aload_n 0, 1) := by decide +kernel
theorem dX5_copy_48 : decode cX5_copy 48 = .ok (.getfield 20, 3) := by decide +kernel
theorem dX5_copy_51 : decode cX5_copy 51 = .ok (.sipush 160, 3) := by decide +kernel
theorem dX5_copy_54 : decode cX5_copy 54 = .ok (.iload_n 2, 1) := by decide +kernel
theorem dX5_copy_55 : decode cX5_copy 55 = .ok (.imul, 1) := by decide +kernel
theorem dX5_copy_56 : decode cX5_copy 56 = .ok (.iload_n 3, 1) := by decide +kernel
theorem dX5_copy_57 : decode cX5_copy 57 = .ok (.iadd, 1) := by decide +kernel
theorem dX5_copy_58 : decode cX5_copy 58 = .ok (.aload_n 0, 1) := by decide +kernel
theorem dX5_copy_59 : decode cX5_copy 59 = .ok (.getfield 20, 3) := by decide +kernel
theorem dX5_copy_62 : decode cX5_copy 62 = .ok (.sipush 160, 3) := by decide +kernel
theorem dX5_copy_65 : decode cX5_copy 65 = .ok (.iload_n 1, 1) := by decide +kernel
theorem dX5_copy_66 : decode cX5_copy 66 = .ok (.imul, 1) := by decide +kernel
theorem dX5_copy_67 : decode cX5_copy 67 = .ok (.iload_n 3, 1) := by decide +kernel
theorem dX5_copy_68 : decode cX5_copy 68 = .ok (.iadd, 1) := by decide +kernel
theorem dX5_copy_69 : decode cX5_copy 69 = .ok (.iaload, 1) := by decide +kernel
theorem dX5_copy_70 : decode cX5_copy 70 = .ok (.iastore, 1) := by decide +kernel
theorem dX5_copy_71 : decode cX5_copy 71 = .ok (.iinc 3 1, 3) := by decide +kernel
theorem dX5_copy_74 : decode cX5_copy 74 = .ok (.goto (-48), 3) := by decide +kernel
theorem dX5_copy_77 : decode cX5_copy 77 = .ok (.return_, 1) := by decide +kernel
theorem dX5_fail_0 : decode cX5_fail 0 = .ok (.aload_n 0, 1) := by decide +kernel
theorem dX5_fail_1 : decode cX5_fail 1 = .ok (.iload_n 1, 1) := by decide +kernel
theorem dX5_fail_2 : decode cX5_fail 2 = .ok (.putfield 48, 3) := by decide +kernel
theorem dX5_fail_5 : decode cX5_fail 5 = .ok (.iconst 0, 1) := by decide +kernel
theorem dX5_fail_6 : decode cX5_fail 6 = .ok (.ireturn, 1) := by decide +kernel
set_option maxRecDepth 20000 in
theorem ggX5_have_X5_fail : GoodIn wsX5_have wsX5_fail := goodIn_r _ [6, 7, 8, 9, 10, 11, 12, 13, 14, 15, 16, 17, 18, 19, 20, 21, 22, 23, 24, 25, 26, 27, 28] (by decide +kernel) (by decide +kernel)
set_option maxRecDepth 20000 in
theorem gX5_have_X5_fail : GoodIn wsX5_have (wsV RX5 54 RX5 yX5_fail wsX5_fail) := goodIn_app (goodIn_of _ (by decide +kernel)) ggX5_have_X5_fail
theorem dX5_have_0 : decode cX5_have 0 = .ok (.aload_n 0, 1) := by decide +kernel
theorem dX5_have_1 : decode cX5_have 1 = .ok (.getfield 51, 3) := by decide +kernel
theorem dX5_have_4 : decode cX5_have 4 = .ok (.iload_n 1, 1) := by decide +kernel
theorem dX5_have_5 : decode cX5_have 5 = .ok (.if_icmp .ge 11, 3) := by decide +kernel
theorem dX5_have_8 : decode cX5_have 8 = .ok (.aload_n 0, 1) := by decide +kernel
theorem dX5_have_9 : decode cX5_have 9 = .ok (.iconst 2, 1) := by decide +kernel
theorem dX5_have_10 : decode cX5_have 10 = .ok (.invokevirtual 54, 3) := by decide +kernel
theorem dX5_have_13 : decode cX5_have 13 = .ok (.ifCond .eq 7, 3) := by decide +kernel
theorem dX5_have_16 : decode cX5_have 16 = .ok (.iconst 1, 1) := by decide +kernel
theorem dX5_have_17 : decode cX5_have 17 = .ok (.goto 4, 3) := by decide +kernel
theorem dX5_have_20 : decode cX5_have 20 = .ok (.iconst 0, 1) := by decide +kernel
theorem dX5_have_21 : decode cX5_have 21 = .ok (.ireturn, 1) := by decide +kernel
set_option maxRecDepth 20000 in
theorem ggX5_numbers_X5_have : GoodIn wsX5_numbers wsX5_have := goodIn_r _ [7, 2, 8, 9, 10, 6, 11, 12, 13, 14, 15, 16, 17, 18, 19, 20, 21, 22, 23, 24, 25, 26, 27, 28, 29, 30, 31, 32, 33] (by decide +kernel) (by decide +kernel)
set_option maxRecDepth 20000 in
theorem gX5_numbers_X5_have : GoodIn wsX5_numbers (wsV RX5 58 RX5 yX5_have wsX5_have) := goodIn_app (goodIn_of _ (by decide +kernel)) ggX5_numbers_X5_have
set_option maxRecDepth 20000 in
theorem ggX5_numbers_X5_fail : GoodIn wsX5_numbers wsX5_fail := goodIn_r _ [11, 12, 13, 14, 15, 16, 17, 18, 19, 20, 21, 22, 23, 24, 25, 26, 27, 28, 29, 30, 31, 32, 33] (by decide +kernel) (by decide +kernel)
set_option maxRecDepth 20000 in
theorem gX5_numbers_X5_fail : GoodIn wsX5_numbers (wsV RX5 54 RX5 yX5_fail wsX5_fail) := goodIn_app (goodIn_of _ (by decide +kernel)) ggX5_numbers_X5_fail
theorem dX5_numbers_0 : decode cX5_numbers 0 = .ok (.aload_n 0, 1) := by decide +kernel
theorem dX5_numbers_1 : decode cX5_numbers 1 = .ok (.iload_n 1, 1) := by decide +kernel
theorem dX5_numbers_2 : decode cX5_numbers 2 = .ok (.invokevirtual 58, 3) := by decide +kernel
theorem dX5_numbers_5 : decode cX5_numbers 5 = .ok (.ifCond .ne 5, 3) := by decide +kernel
theorem dX5_numbers_8 : decode cX5_numbers 8 = .ok (.iconst 0, 1) := by decide +kernel
theorem dX5_numbers_9 : decode cX5_numbers 9 = .ok (.ireturn, 1) := by decide +kernel
theorem dX5_numbers_10 : decode cX5_numbers 10 = .ok (.iconst 1, 1) := by decide +kernel
theorem dX5_numbers_11 : decode cX5_numbers 11 = .ok (.istore_n 2, 1) := by decide +kernel
theorem dX5_numbers_12 : decode cX5_numbers 12 = .ok (.iload_n 2, 1) := by decide +kernel
theorem dX5_numbers_13 : decode cX5_numbers 13 = .ok (.iload_n 1, 1) := by decide +kernel
theorem dX5_numbers_14 : decode cX5_numbers 14 = .ok (.if_icmp .gt 29, 3) := by decide +kernel
theorem dX5_numbers_17 : decode cX5_numbers 17 = .ok (.aload_n 0, 1) := by decide +kernel
theorem dX5_numbers_18 : decode cX5_numbers 18 = .ok (.getfield 17, 3) := by decide +kernel
theorem dX5_numbers_21 : decode cX5_numbers 21 = .ok (.aload_n 0, 1) := by decide +kernel
theorem dX5_numbers_22 : decode cX5_numbers 22 = .ok (.getfield 51, 3) := by decide +kernel
theorem dX5_numbers_25 : decode cX5_numbers 25 = .ok (.iload_n 2, 1) := by decide +kernel
theorem dX5_numbers_26 : decode cX5_numbers 26 = .ok (.isub, 1) := by decide +kernel
theorem dX5_numbers_27 : decode cX5_numbers 27 = .ok (.iaload, 1) := by decide +kernel
theorem dX5_numbers_28 : decode cX5_numbers 28 = .ok (.ifCond .ge 9, 3) := by decide +kernel
theorem dX5_numbers_31 : decode cX5_numbers 31 = .ok (.aload_n 0, 1) := by decide +kernel
theorem dX5_numbers_32 : decode cX5_numbers 32 = .ok (.iconst 3, 1) := by decide +kernel
theorem dX5_numbers_33 : decode cX5_numbers 33 = .ok (.invokevirtual 54, 3) := by decide +kernel
theorem dX5_numbers_36 : decode cX5_numbers 36 = .ok (.ireturn, 1) := by decide +kernel
theorem dX5_numbers_37 : decode cX5_numbers 37 = .ok (.iinc 2 1, 3) := by decide +kernel
theorem dX5_numbers_40 : decode cX5_numbers 40 = .ok (.goto (-28), 3) := by decide +kernel
theorem dX5_numbers_43 : decode cX5_numbers 43 = .ok (.iconst 1, 1) := by decide +kernel
theorem dX5_numbers_44 : decode cX5_numbers 44 = .ok (.ireturn, 1) := by decide +kernel
set_option maxRecDepth 20000 in
theorem ggX5_room_X5_fail : GoodIn wsX5_room wsX5_fail := goodIn_r _ [6, 7, 8, 9, 10, 11, 12, 13, 14, 15, 16, 17, 18, 19, 20, 21, 22, 23, 24, 25, 26, 27, 28] (by decide +kernel) (by decide +kernel)
set_option maxRecDepth 20000 in
theorem gX5_room_X5_fail : GoodIn wsX5_room (wsV RX5 54 RX5 yX5_fail wsX5_fail) := goodIn_app (goodIn_of _ (by decide +kernel)) ggX5_room_X5_fail
theorem dX5_room_0 : decode cX5_room 0 = .ok (.aload_n 0, 1) := by decide +kernel
theorem dX5_room_1 : decode cX5_room 1 = .ok (.getfield 51, 3) := by decide +kernel
theorem dX5_room_4 : decode cX5_room 4 = .ok (.bipush 40, 2) := by decide +kernel
theorem dX5_room_6 : decode cX5_room 6 = .ok (.if_icmp .lt 11, 3) := by decide +kernel
theorem dX5_room_9 : decode cX5_room 9 = .ok (.aload_n 0, 1) := by decide +kernel
theorem dX5_room_10 : decode cX5_room 10 = .ok (.iconst 5, 1) := by decide +kernel
theorem dX5_room_11 : decode cX5_room 11 = .ok (.invokevirtual 54, 3) := by decide +kernel
theorem dX5_room_14 : decode cX5_room 14 = .ok (.ifCond .eq 7, 3) := by decide +kernel
theorem dX5_room_17 : decode cX5_room 17 = .ok (.iconst 1, 1) := by decide +kernel
theorem dX5_room_18 : decode cX5_room 18 = .ok (.goto 4, 3) := by decide +kernel
theorem dX5_room_21 : decode cX5_room 21 = .ok (.iconst 0, 1) := by decide +kernel
theorem dX5_room_22 : decode cX5_room 22 = .ok (.ireturn, 1) := by decide +kernel
theorem dX5_put_0 : decode cX5_put 0 = .ok (.aload_n 0, 1) := by decide +kernel
theorem dX5_put_1 : decode cX5_put 1 = .ok (.dup, 1) := by decide +kernel
theorem dX5_put_2 : decode cX5_put 2 = .ok (.getfield 51, 3) := by decide +kernel
theorem dX5_put_5 : decode cX5_put 5 = .ok (.iload_n 1, 1) := by decide +kernel
theorem dX5_put_6 : decode cX5_put 6 = .ok (.isub, 1) := by decide +kernel
theorem dX5_put_7 : decode cX5_put 7 = .ok (.putfield 51, 3) := by decide +kernel
theorem dX5_put_10 : decode cX5_put 10 = .ok (.aload_n 0, 1) := by decide +kernel
theorem dX5_put_11 : decode cX5_put 11 = .ok (.getfield 13, 3) := by decide +kernel
theorem dX5_put_14 : decode cX5_put 14 = .ok (.aload_n 0, 1) := by decide +kernel
theorem dX5_put_15 : decode cX5_put 15 = .ok (.getfield 51, 3) := by decide +kernel
theorem dX5_put_18 : decode cX5_put 18 = .ok (.lload_n 2, 1) := by decide +kernel
theorem dX5_put_19 : decode cX5_put 19 = .ok (.lastore, 1) := by decide +kernel
theorem dX5_put_20 : decode cX5_put 20 = .ok (.aload_n 0, 1) := by decide +kernel
theorem dX5_put_21 : decode cX5_put 21 = .ok (.getfield 17, 3) := by decide +kernel
theorem dX5_put_24 : decode cX5_put 24 = .ok (.aload_n 0, 1) := by decide +kernel
theorem dX5_put_25 : decode cX5_put 25 = .ok (.getfield 51, 3) := by decide +kernel
theorem dX5_put_28 : decode cX5_put 28 = .ok (.iload 4, 2) := by decide +kernel
theorem dX5_put_30 : decode cX5_put 30 = .ok (.iastore, 1) := by decide +kernel
theorem dX5_put_31 : decode cX5_put 31 = .ok (.aload_n 0, 1) := by decide +kernel
theorem dX5_put_32 : decode cX5_put 32 = .ok (.dup, 1) := by decide +kernel
theorem dX5_put_33 : decode cX5_put 33 = .ok (.getfield 51, 3) := by decide +kernel
theorem dX5_put_36 : decode cX5_put 36 = .ok (.iconst 1, 1) := by decide +kernel
theorem dX5_put_37 : decode cX5_put 37 = .ok (.iadd, 1) := by decide +kernel
theorem dX5_put_38 : decode cX5_put 38 = .ok (.putfield 51, 3) := by decide +kernel
theorem dX5_put_41 : decode cX5_put 41 = .ok (.return_, 1) := by decide +kernel
theorem dX5_register_0 : decode cX5_register 0 = .ok (.iload_n 0, 1) := by decide +kernel
theorem dX5_register_1 : decode cX5_register 1 = .ok (.bipush 97, 2) := by decide +kernel
theorem dX5_register_3 : decode cX5_register 3 = .ok (.isub, 1) := by decide +kernel
theorem dX5_register_4 : decode cX5_register 4 = .ok (.ireturn, 1) := by decide +kernel
theorem dX5_topOf_0 : decode cX5_topOf 0 = .ok (.bipush 40, 2) := by decide +kernel
theorem dX5_topOf_2 : decode cX5_topOf 2 = .ok (.bipush 10, 2) := by decide +kernel
theorem dX5_topOf_4 : decode cX5_topOf 4 = .ok (.iload_n 1, 1) := by decide +kernel
theorem dX5_topOf_5 : decode cX5_topOf 5 = .ok (.imul, 1) := by decide +kernel
theorem dX5_topOf_6 : decode cX5_topOf 6 = .ok (.iadd, 1) := by decide +kernel
theorem dX5_topOf_7 : decode cX5_topOf 7 = .ok (.aload_n 0, 1) := by decide +kernel
theorem dX5_topOf_8 : decode cX5_topOf 8 = .ok (.getfield 23, 3) := by decide +kernel
theorem dX5_topOf_11 : decode cX5_topOf 11 = .ok (.iload_n 1, 1) := by decide +kernel
theorem dX5_topOf_12 : decode cX5_topOf 12 = .ok (.iaload, 1) := by decide +kernel
theorem dX5_topOf_13 : decode cX5_topOf 13 = .ok (.iadd, 1) := by decide +kernel
theorem dX5_topOf_14 : decode cX5_topOf 14 = .ok (.iconst 1, 1) := by decide +kernel
theorem dX5_topOf_15 : decode cX5_topOf 15 = .ok (.isub, 1) := by decide +kernel
theorem dX5_topOf_16 : decode cX5_topOf 16 = .ok (.ireturn, 1) := by decide +kernel
theorem dX5_isBig_0 : decode cX5_isBig 0 = .ok (.lload_n 0, 1) := by decide +kernel
theorem dX5_isBig_1 : decode cX5_isBig 1 = .ok (.ldc2_w 61, 3) := by decide +kernel
theorem dX5_isBig_4 : decode cX5_isBig 4 = .ok (.lcmp, 1) := by decide +kernel
theorem dX5_isBig_5 : decode cX5_isBig 5 = .ok (.ifCond .gt 11, 3) := by decide +kernel
theorem dX5_isBig_8 : decode cX5_isBig 8 = .ok (.lload_n 0, 1) := by decide +kernel
theorem dX5_isBig_9 : decode cX5_isBig 9 = .ok (.ldc2_w 63, 3) := by decide +kernel
theorem dX5_isBig_12 : decode cX5_isBig 12 = .ok (.lcmp, 1) := by decide +kernel
theorem dX5_isBig_13 : decode cX5_isBig 13 = .ok (.ifCond .ge 7, 3) := by decide +kernel
theorem dX5_isBig_16 : decode cX5_isBig 16 = .ok (.iconst 1, 1) := by decide +kernel
theorem dX5_isBig_17 : decode cX5_isBig 17 = .ok (.goto 4, 3) := by decide +kernel
theorem dX5_isBig_20 : decode cX5_isBig 20 = .ok (.iconst 0, 1) := by decide +kernel
theorem dX5_isBig_21 : decode cX5_isBig 21 = .ok (.ireturn, 1) := by decide +kernel
theorem dX5_raised_0 : decode cX5_raised 0 = .ok (.lload_n 1, 1) := by decide +kernel
theorem dX5_raised_1 : decode cX5_raised 1 = .ok (.lstore 4, 2) := by decide +kernel
theorem dX5_raised_3 : decode cX5_raised 3 = .ok (.iconst 0, 1) := by decide +kernel
theorem dX5_raised_4 : decode cX5_raised 4 = .ok (.istore 6, 2) := by decide +kernel
theorem dX5_raised_6 : decode cX5_raised 6 = .ok (.iload 6, 2) := by decide +kernel
theorem dX5_raised_8 : decode cX5_raised 8 = .ok (.iload_n 3, 1) := by decide +kernel
theorem dX5_raised_9 : decode cX5_raised 9 = .ok (.if_icmp .ge 50, 3) := by decide +kernel
theorem dX5_raised_12 : decode cX5_raised 12 = .ok (.aload_n 0, 1) := by decide +kernel
theorem dX5_raised_13 : decode cX5_raised 13 = .ok (.getfield 48, 3) := by decide +kernel
theorem dX5_raised_16 : decode cX5_raised 16 = .ok (.ifCond .ne 43, 3) := by decide +kernel
theorem dX5_raised_19 : decode cX5_raised 19 = .ok (.lload 4, 2) := by decide +kernel
theorem dX5_raised_21 : decode cX5_raised 21 = .ok (.ldc2_w 65, 3) := by decide +kernel
theorem dX5_raised_24 : decode cX5_raised 24 = .ok (.lcmp, 1) := by decide +kernel
theorem dX5_raised_25 : decode cX5_raised 25 = .ok (.ifCond .gt 12, 3) := by decide +kernel
theorem dX5_raised_28 : decode cX5_raised 28 = .ok (.lload 4, 2) := by decide +kernel
theorem dX5_raised_30 : decode cX5_raised 30 = .ok (.ldc2_w 67, 3) := by decide +kernel
theorem dX5_raised_33 : decode cX5_raised 33 = .ok (.lcmp, 1) := by decide +kernel
theorem dX5_raised_34 : decode cX5_raised 34 = .ok (.ifCond .ge 11, 3) := by decide +kernel
theorem dX5_raised_37 : decode cX5_raised 37 = .ok (.aload_n 0, 1) := by decide +kernel
theorem dX5_raised_38 : decode cX5_raised 38 = .ok (.iconst 5, 1) := by decide +kernel
theorem dX5_raised_39 : decode cX5_raised 39 = .ok (.putfield 48, 3) := by decide +kernel
theorem dX5_raised_42 : decode cX5_raised 42 = .ok (.goto 11, 3) := by decide +kernel
theorem dX5_raised_45 : decode cX5_raised 45 = .ok (.lload 4, 2) := by decide +kernel
theorem dX5_raised_47 : decode cX5_raised 47 = .ok (.ldc2_w 69, 3) := by decide +kernel
theorem dX5_raised_50 : decode cX5_raised 50 = .ok (.lmul, 1) := by decide +kernel
theorem dX5_raised_51 : decode cX5_raised 51 = .ok (.lstore 4, 2) := by decide +kernel
theorem dX5_raised_53 : decode cX5_raised 53 = .ok (.iinc 6 1, 3) := by decide +kernel
theorem dX5_raised_56 : decode cX5_raised 56 = .ok (.goto (-50), 3) := by decide +kernel
theorem dX5_raised_59 : decode cX5_raised 59 = .ok (.lload 4, 2) := by decide +kernel
theorem dX5_raised_61 : decode cX5_raised 61 = .ok (.lreturn, 1) := by decide +kernel
theorem dX5_cut_0 : decode cX5_cut 0 = .ok (.lload_n 0, 1) := by decide +kernel
theorem dX5_cut_1 : decode cX5_cut 1 = .ok (.lstore_n 3, 1) := by decide +kernel
theorem dX5_cut_2 : decode cX5_cut 2 = .ok (.iconst 0, 1) := by decide +kernel
theorem dX5_cut_3 : decode cX5_cut 3 = .ok (.istore 5, 2) := by decide +kernel
theorem dX5_cut_5 : decode cX5_cut 5 = .ok (.iload 5, 2) := by decide +kernel
theorem dX5_cut_7 : decode cX5_cut 7 = .ok (.iload_n 2, 1) := by decide +kernel
theorem dX5_cut_8 : decode cX5_cut 8 = .ok (.if_icmp .ge 15, 3) := by decide +kernel
theorem dX5_cut_11 : decode cX5_cut 11 = .ok (.lload_n 3, 1) := by decide +kernel
theorem dX5_cut_12 : decode cX5_cut 12 = .ok (.ldc2_w 69, 3) := by decide +kernel
theorem dX5_cut_15 : decode cX5_cut 15 = .ok (.ldiv, 1) := by decide +kernel
theorem dX5_cut_16 : decode cX5_cut 16 = .ok (.lstore_n 3, 1) := by decide +kernel
end
section
theorem dX5_cut_17 : decode cX5_cut 17 = .ok (.iinc 5 1, 3) := by decide +kernel
theorem dX5_cut_20 : decode cX5_cut 20 = .ok (.goto (-15), 3) := by decide +kernel
theorem dX5_cut_23 : decode cX5_cut 23 = .ok (.lload_n 3, 1) := by decide +kernel
theorem dX5_cut_24 : decode cX5_cut 24 = .ok (.lreturn, 1) := by decide +kernel
theorem dX5_product_0 : decode cX5_product 0 = .ok (.lload_n 1, 1) := by decide +kernel
theorem dX5_product_1 : decode cX5_product 1 = .ok (.lconst 0, 1) := by decide +kernel
theorem dX5_product_2 : decode cX5_product 2 = .ok (.lcmp, 1) := by decide +kernel
theorem dX5_product_3 : decode cX5_product 3 = .ok (.ifCond .ge 8, 3) := by decide +kernel
theorem dX5_product_6 : decode cX5_product 6 = .ok (.lload_n 1, 1) := by decide +kernel
theorem dX5_product_7 : decode cX5_product 7 = .ok (.lneg, 1) := by decide +kernel
theorem dX5_product_8 : decode cX5_product 8 = .ok (.goto 4, 3) := by decide +kernel
theorem dX5_product_11 : decode cX5_product 11 = .ok (.lload_n 1, 1) := by decide +kernel
theorem dX5_product_12 : decode cX5_product 12 = .ok (.lstore 5, 2) := by decide +kernel
theorem dX5_product_14 : decode cX5_product 14 = .ok (.lload_n 3, 1) := by decide +kernel
theorem dX5_product_15 : decode cX5_product 15 = .ok (.lconst 0, 1) := by decide +kernel
theorem dX5_product_16 : decode cX5_product 16 = .ok (.lcmp, 1) := by decide +kernel
theorem dX5_product_17 : decode cX5_product 17 = .ok (.ifCond .ge 8, 3) := by decide +kernel
theorem dX5_product_20 : decode cX5_product 20 = .ok (.lload_n 3, 1) := by decide +kernel
theorem dX5_product_21 : decode cX5_product 21 = .ok (.lneg, 1) := by decide +kernel
theorem dX5_product_22 : decode cX5_product 22 = .ok (.goto 4, 3) := by decide +kernel
theorem dX5_product_25 : decode cX5_product 25 = .ok (.lload_n 3, 1) := by decide +kernel
theorem dX5_product_26 : decode cX5_product 26 = .ok (.lstore 7, 2) := by decide +kernel
theorem dX5_product_28 : decode cX5_product 28 = .ok (.lload 5, 2) := by decide +kernel
theorem dX5_product_30 : decode cX5_product 30 = .ok (.lconst 0, 1) := by decide +kernel
theorem dX5_product_31 : decode cX5_product 31 = .ok (.lcmp, 1) := by decide +kernel
theorem dX5_product_32 : decode cX5_product 32 = .ok (.ifCond .le 22, 3) := by decide +kernel
theorem dX5_product_35 : decode cX5_product 35 = .ok (.lload 7, 2) := by decide +kernel
theorem dX5_product_37 : decode cX5_product 37 = .ok (.ldc2_w 61, 3) := by decide +kernel
theorem dX5_product_40 : decode cX5_product 40 = .ok (.lload 5, 2) := by decide +kernel
theorem dX5_product_42 : decode cX5_product 42 = .ok (.ldiv, 1) := by decide +kernel
theorem dX5_product_43 : decode cX5_product 43 = .ok (.lcmp, 1) := by decide +kernel
theorem dX5_product_44 : decode cX5_product 44 = .ok (.ifCond .le 10, 3) := by decide +kernel
theorem dX5_product_47 : decode cX5_product 47 = .ok (.aload_n 0, 1) := by decide +kernel
theorem dX5_product_48 : decode cX5_product 48 = .ok (.iconst 5, 1) := by decide +kernel
theorem dX5_product_49 : decode cX5_product 49 = .ok (.putfield 48, 3) := by decide +kernel
theorem dX5_product_52 : decode cX5_product 52 = .ok (.lconst 0, 1) := by decide +kernel
theorem dX5_product_53 : decode cX5_product 53 = .ok (.lreturn, 1) := by decide +kernel
theorem dX5_product_54 : decode cX5_product 54 = .ok (.lload_n 1, 1) := by decide +kernel
theorem dX5_product_55 : decode cX5_product 55 = .ok (.lload_n 3, 1) := by decide +kernel
theorem dX5_product_56 : decode cX5_product 56 = .ok (.lmul, 1) := by decide +kernel
theorem dX5_product_57 : decode cX5_product 57 = .ok (.lreturn, 1) := by decide +kernel
theorem dX5_greater_0 : decode cX5_greater 0 = .ok (.iload_n 0, 1) := by decide +kernel
theorem dX5_greater_1 : decode cX5_greater 1 = .ok (.iload_n 1, 1) := by decide +kernel
theorem dX5_greater_2 : decode cX5_greater 2 = .ok (.if_icmp .le 7, 3) := by decide +kernel
theorem dX5_greater_5 : decode cX5_greater 5 = .ok (.iload_n 0, 1) := by decide +kernel
theorem dX5_greater_6 : decode cX5_greater 6 = .ok (.goto 4, 3) := by decide +kernel
theorem dX5_greater_9 : decode cX5_greater 9 = .ok (.iload_n 1, 1) := by decide +kernel
theorem dX5_greater_10 : decode cX5_greater 10 = .ok (.ireturn, 1) := by decide +kernel
set_option maxRecDepth 20000 in
theorem ggX5_sum_X5_numbers : GoodIn wsX5_sum wsX5_numbers := goodIn_r _ [11, 1, 2, 12, 13, 14, 10, 15, 16, 17, 18, 19, 5, 35, 36, 37, 38, 39, 40, 41, 42, 43, 44, 45, 46, 47, 48, 49, 50, 51, 52, 53, 54, 55] (by decide +kernel) (by decide +kernel)
set_option maxRecDepth 20000 in
theorem gX5_sum_X5_numbers : GoodIn wsX5_sum (wsV RX5 71 RX5 yX5_numbers wsX5_numbers) := goodIn_app (goodIn_of _ (by decide +kernel)) ggX5_sum_X5_numbers
set_option maxRecDepth 20000 in
theorem ggX5_sum_X5_greater : GoodIn wsX5_sum wsX5_greater := goodIn_r _ [22] (by decide +kernel) (by decide +kernel)
set_option maxRecDepth 20000 in
theorem gX5_sum_X5_greater : GoodIn wsX5_sum (va_wsS RX5 74 yX5_greater wsX5_greater) := goodIn_app (goodIn_of _ (by decide +kernel)) ggX5_sum_X5_greater
set_option maxRecDepth 20000 in
theorem ggX5_sum_X5_raised : GoodIn wsX5_sum wsX5_raised := goodIn_r _ [26, 5, 27, 28, 29, 35, 36, 37, 38, 39, 40, 41, 42, 43, 44, 45, 46, 47, 48, 49, 50, 51, 52, 53, 54, 55] (by decide +kernel) (by decide +kernel)
set_option maxRecDepth 20000 in
theorem gX5_sum_X5_raised : GoodIn wsX5_sum (wsV RX5 81 RX5 yX5_raised wsX5_raised) := goodIn_app (goodIn_of _ (by decide +kernel)) ggX5_sum_X5_raised
set_option maxRecDepth 20000 in
theorem ggX5_sum_X5_isBig : GoodIn wsX5_sum wsX5_isBig := goodIn_r _ [32, 33, 34] (by decide +kernel) (by decide +kernel)
set_option maxRecDepth 20000 in
theorem gX5_sum_X5_isBig : GoodIn wsX5_sum (va_wsS RX5 89 yX5_isBig wsX5_isBig) := goodIn_app (goodIn_of _ (by decide +kernel)) ggX5_sum_X5_isBig
set_option maxRecDepth 20000 in
theorem ggX5_sum_X5_fail : GoodIn wsX5_sum wsX5_fail := goodIn_r _ [19, 5, 35, 36, 37, 38, 39, 40, 41, 42, 43, 44, 45, 46, 47, 48, 49, 50, 51, 52, 53, 54, 55] (by decide +kernel) (by decide +kernel)
set_option maxRecDepth 20000 in
theorem gX5_sum_X5_fail : GoodIn wsX5_sum (wsV RX5 54 RX5 yX5_fail wsX5_fail) := goodIn_app (goodIn_of _ (by decide +kernel)) ggX5_sum_X5_fail
theorem dX5_sum_0 : decode cX5_sum 0 = .ok (.aload_n 0, 1) := by decide +kernel
theorem dX5_sum_1 : decode cX5_sum 1 = .ok (.iconst 2, 1) := by decide +kernel
theorem dX5_sum_2 : decode cX5_sum 2 = .ok (.invokevirtual 71, 3) := by decide +kernel
theorem dX5_sum_5 : decode cX5_sum 5 = .ok (.ifCond .ne 5, 3) := by decide +kernel
theorem dX5_sum_8 : decode cX5_sum 8 = .ok (.iconst 0, 1) := by decide +kernel
theorem dX5_sum_9 : decode cX5_sum 9 = .ok (.ireturn, 1) := by decide +kernel
theorem dX5_sum_10 : decode cX5_sum 10 = .ok (.aload_n 0, 1) := by decide +kernel
theorem dX5_sum_11 : decode cX5_sum 11 = .ok (.aload_n 0, 1) := by decide +kernel
theorem dX5_sum_12 : decode cX5_sum 12 = .ok (.getfield 17, 3) := by decide +kernel
theorem dX5_sum_15 : decode cX5_sum 15 = .ok (.aload_n 0, 1) := by decide +kernel
theorem dX5_sum_16 : decode cX5_sum 16 = .ok (.getfield 51, 3) := by decide +kernel
theorem dX5_sum_19 : decode cX5_sum 19 = .ok (.iconst 1, 1) := by decide +kernel
theorem dX5_sum_20 : decode cX5_sum 20 = .ok (.isub, 1) := by decide +kernel
theorem dX5_sum_21 : decode cX5_sum 21 = .ok (.iaload, 1) := by decide +kernel
theorem dX5_sum_22 : decode cX5_sum 22 = .ok (.aload_n 0, 1) := by decide +kernel
theorem dX5_sum_23 : decode cX5_sum 23 = .ok (.getfield 17, 3) := by decide +kernel
theorem dX5_sum_26 : decode cX5_sum 26 = .ok (.aload_n 0, 1) := by decide +kernel
theorem dX5_sum_27 : decode cX5_sum 27 = .ok (.getfield 51, 3) := by decide +kernel
theorem dX5_sum_30 : decode cX5_sum 30 = .ok (.iconst 2, 1) := by decide +kernel
theorem dX5_sum_31 : decode cX5_sum 31 = .ok (.isub, 1) := by decide +kernel
theorem dX5_sum_32 : decode cX5_sum 32 = .ok (.iaload, 1) := by decide +kernel
theorem dX5_sum_33 : decode cX5_sum 33 = .ok (.invokestatic 74, 3) := by decide +kernel
theorem dX5_sum_36 : decode cX5_sum 36 = .ok (.putfield 78, 3) := by decide +kernel
theorem dX5_sum_39 : decode cX5_sum 39 = .ok (.aload_n 0, 1) := by decide +kernel
theorem dX5_sum_40 : decode cX5_sum 40 = .ok (.aload_n 0, 1) := by decide +kernel
theorem dX5_sum_41 : decode cX5_sum 41 = .ok (.getfield 13, 3) := by decide +kernel
theorem dX5_sum_44 : decode cX5_sum 44 = .ok (.aload_n 0, 1) := by decide +kernel
theorem dX5_sum_45 : decode cX5_sum 45 = .ok (.getfield 51, 3) := by decide +kernel
theorem dX5_sum_48 : decode cX5_sum 48 = .ok (.iconst 2, 1) := by decide +kernel
theorem dX5_sum_49 : decode cX5_sum 49 = .ok (.isub, 1) := by decide +kernel
theorem dX5_sum_50 : decode cX5_sum 50 = .ok (.laload, 1) := by decide +kernel
theorem dX5_sum_51 : decode cX5_sum 51 = .ok (.aload_n 0, 1) := by decide +kernel
theorem dX5_sum_52 : decode cX5_sum 52 = .ok (.getfield 78, 3) := by decide +kernel
theorem dX5_sum_55 : decode cX5_sum 55 = .ok (.aload_n 0, 1) := by decide +kernel
theorem dX5_sum_56 : decode cX5_sum 56 = .ok (.getfield 17, 3) := by decide +kernel
theorem dX5_sum_59 : decode cX5_sum 59 = .ok (.aload_n 0, 1) := by decide +kernel
theorem dX5_sum_60 : decode cX5_sum 60 = .ok (.getfield 51, 3) := by decide +kernel
theorem dX5_sum_63 : decode cX5_sum 63 = .ok (.iconst 2, 1) := by decide +kernel
theorem dX5_sum_64 : decode cX5_sum 64 = .ok (.isub, 1) := by decide +kernel
theorem dX5_sum_65 : decode cX5_sum 65 = .ok (.iaload, 1) := by decide +kernel
theorem dX5_sum_66 : decode cX5_sum 66 = .ok (.isub, 1) := by decide +kernel
theorem dX5_sum_67 : decode cX5_sum 67 = .ok (.invokevirtual 81, 3) := by decide +kernel
theorem dX5_sum_70 : decode cX5_sum 70 = .ok (.lstore_n 2, 1) := by decide +kernel
theorem dX5_sum_71 : decode cX5_sum 71 = .ok (.aload_n 0, 1) := by decide +kernel
theorem dX5_sum_72 : decode cX5_sum 72 = .ok (.aload_n 0, 1) := by decide +kernel
theorem dX5_sum_73 : decode cX5_sum 73 = .ok (.getfield 13, 3) := by decide +kernel
theorem dX5_sum_76 : decode cX5_sum 76 = .ok (.aload_n 0, 1) := by decide +kernel
theorem dX5_sum_77 : decode cX5_sum 77 = .ok (.getfield 51, 3) := by decide +kernel
theorem dX5_sum_80 : decode cX5_sum 80 = .ok (.iconst 1, 1) := by decide +kernel
theorem dX5_sum_81 : decode cX5_sum 81 = .ok (.isub, 1) := by decide +kernel
theorem dX5_sum_82 : decode cX5_sum 82 = .ok (.laload, 1) := by decide +kernel
theorem dX5_sum_83 : decode cX5_sum 83 = .ok (.aload_n 0, 1) := by decide +kernel
theorem dX5_sum_84 : decode cX5_sum 84 = .ok (.getfield 78, 3) := by decide +kernel
theorem dX5_sum_87 : decode cX5_sum 87 = .ok (.aload_n 0, 1) := by decide +kernel
theorem dX5_sum_88 : decode cX5_sum 88 = .ok (.getfield 17, 3) := by decide +kernel
theorem dX5_sum_91 : decode cX5_sum 91 = .ok (.aload_n 0, 1) := by decide +kernel
theorem dX5_sum_92 : decode cX5_sum 92 = .ok (.getfield 51, 3) := by decide +kernel
theorem dX5_sum_95 : decode cX5_sum 95 = .ok (.iconst 1, 1) := by decide +kernel
theorem dX5_sum_96 : decode cX5_sum 96 = .ok (.isub, 1) := by decide +kernel
theorem dX5_sum_97 : decode cX5_sum 97 = .ok (.iaload, 1) := by decide +kernel
theorem dX5_sum_98 : decode cX5_sum 98 = .ok (.isub, 1) := by decide +kernel
theorem dX5_sum_99 : decode cX5_sum 99 = .ok (.invokevirtual 81, 3) := by decide +kernel
theorem dX5_sum_102 : decode cX5_sum 102 = .ok (.lstore 4, 2) := by decide +kernel
theorem dX5_sum_104 : decode cX5_sum 104 = .ok (.aload_n 0, 1) := by decide +kernel
theorem dX5_sum_105 : decode cX5_sum 105 = .ok (.getfield 48, 3) := by decide +kernel
theorem dX5_sum_108 : decode cX5_sum 108 = .ok (.ifCond .le 5, 3) := by decide +kernel
theorem dX5_sum_111 : decode cX5_sum 111 = .ok (.iconst 0, 1) := by decide +kernel
theorem dX5_sum_112 : decode cX5_sum 112 = .ok (.ireturn, 1) := by decide +kernel
theorem dX5_sum_113 : decode cX5_sum 113 = .ok (.aload_n 0, 1) := by decide +kernel
theorem dX5_sum_114 : decode cX5_sum 114 = .ok (.iload_n 1, 1) := by decide +kernel
theorem dX5_sum_115 : decode cX5_sum 115 = .ok (.ifCond .eq 10, 3) := by decide +kernel
theorem dX5_sum_118 : decode cX5_sum 118 = .ok (.lload_n 2, 1) := by decide +kernel
theorem dX5_sum_119 : decode cX5_sum 119 = .ok (.lload 4, 2) := by decide +kernel
theorem dX5_sum_121 : decode cX5_sum 121 = .ok (.lsub, 1) := by decide +kernel
theorem dX5_sum_122 : decode cX5_sum 122 = .ok (.goto 7, 3) := by decide +kernel
theorem dX5_sum_125 : decode cX5_sum 125 = .ok (.lload_n 2, 1) := by decide +kernel
theorem dX5_sum_126 : decode cX5_sum 126 = .ok (.lload 4, 2) := by decide +kernel
theorem dX5_sum_128 : decode cX5_sum 128 = .ok (.ladd, 1) := by decide +kernel
theorem dX5_sum_129 : decode cX5_sum 129 = .ok (.putfield 85, 3) := by decide +kernel
theorem dX5_sum_132 : decode cX5_sum 132 = .ok (.aload_n 0, 1) := by decide +kernel
theorem dX5_sum_133 : decode cX5_sum 133 = .ok (.getfield 85, 3) := by decide +kernel
theorem dX5_sum_136 : decode cX5_sum 136 = .ok (.invokestatic 89, 3) := by decide +kernel
theorem dX5_sum_139 : decode cX5_sum 139 = .ok (.ifCond .eq 11, 3) := by decide +kernel
theorem dX5_sum_142 : decode cX5_sum 142 = .ok (.aload_n 0, 1) := by decide +kernel
theorem dX5_sum_143 : decode cX5_sum 143 = .ok (.iconst 5, 1) := by decide +kernel
theorem dX5_sum_144 : decode cX5_sum 144 = .ok (.invokevirtual 54, 3) := by decide +kernel
theorem dX5_sum_147 : decode cX5_sum 147 = .ok (.ifCond .eq 7, 3) := by decide +kernel
theorem dX5_sum_150 : decode cX5_sum 150 = .ok (.iconst 1, 1) := by decide +kernel
theorem dX5_sum_151 : decode cX5_sum 151 = .ok (.goto 4, 3) := by decide +kernel
theorem dX5_sum_154 : decode cX5_sum 154 = .ok (.iconst 0, 1) := by decide +kernel
theorem dX5_sum_155 : decode cX5_sum 155 = .ok (.ireturn, 1) := by decide +kernel
set_option maxRecDepth 20000 in
theorem ggX5_times_X5_numbers : GoodIn wsX5_times wsX5_numbers := goodIn_r _ [12, 1, 2, 13, 14, 15, 11, 16, 17, 18, 19, 20, 7, 33, 34, 35, 36, 37, 38, 39, 40, 41, 42, 43, 44, 45, 46, 47, 48, 49, 50, 51, 52, 53] (by decide +kernel) (by decide +kernel)
set_option maxRecDepth 20000 in
theorem gX5_times_X5_numbers : GoodIn wsX5_times (wsV RX5 71 RX5 yX5_numbers wsX5_numbers) := goodIn_app (goodIn_of _ (by decide +kernel)) ggX5_times_X5_numbers
set_option maxRecDepth 20000 in
theorem ggX5_times_X5_greater : GoodIn wsX5_times wsX5_greater := goodIn_r _ [23] (by decide +kernel) (by decide +kernel)
set_option maxRecDepth 20000 in
theorem gX5_times_X5_greater : GoodIn wsX5_times (va_wsS RX5 74 yX5_greater wsX5_greater) := goodIn_app (goodIn_of _ (by decide +kernel)) ggX5_times_X5_greater
set_option maxRecDepth 20000 in
theorem ggX5_times_X5_product : GoodIn wsX5_times wsX5_product := goodIn_r _ [27, 28, 7, 33, 34, 35, 36, 37, 38, 39, 40, 41, 42, 43, 44, 45, 46, 47, 48, 49, 50, 51, 52, 53] (by decide +kernel) (by decide +kernel)
set_option maxRecDepth 20000 in
theorem gX5_times_X5_product : GoodIn wsX5_times (wsV RX5 96 RX5 yX5_product wsX5_product) := goodIn_app (goodIn_of _ (by decide +kernel)) ggX5_times_X5_product
set_option maxRecDepth 20000 in
theorem ggX5_times_X5_cut : GoodIn wsX5_times wsX5_cut := goodIn_r _ [31, 32] (by decide +kernel) (by decide +kernel)
set_option maxRecDepth 20000 in
theorem gX5_times_X5_cut : GoodIn wsX5_times (va_wsS RX5 100 yX5_cut wsX5_cut) := goodIn_app (goodIn_of _ (by decide +kernel)) ggX5_times_X5_cut
theorem dX5_times_0 : decode cX5_times 0 = .ok (.aload_n 0, 1) := by decide +kernel
theorem dX5_times_1 : decode cX5_times 1 = .ok (.iconst 2, 1) := by decide +kernel
theorem dX5_times_2 : decode cX5_times 2 = .ok (.invokevirtual 71, 3) := by decide +kernel
theorem dX5_times_5 : decode cX5_times 5 = .ok (.ifCond .ne 5, 3) := by decide +kernel
theorem dX5_times_8 : decode cX5_times 8 = .ok (.iconst 0, 1) := by decide +kernel
theorem dX5_times_9 : decode cX5_times 9 = .ok (.ireturn, 1) := by decide +kernel
theorem dX5_times_10 : decode cX5_times 10 = .ok (.aload_n 0, 1) := by decide +kernel
theorem dX5_times_11 : decode cX5_times 11 = .ok (.getfield 17, 3) := by decide +kernel
theorem dX5_times_14 : decode cX5_times 14 = .ok (.aload_n 0, 1) := by decide +kernel
theorem dX5_times_15 : decode cX5_times 15 = .ok (.getfield 51, 3) := by decide +kernel
theorem dX5_times_18 : decode cX5_times 18 = .ok (.iconst 1, 1) := by decide +kernel
theorem dX5_times_19 : decode cX5_times 19 = .ok (.isub, 1) := by decide +kernel
theorem dX5_times_20 : decode cX5_times 20 = .ok (.iaload, 1) := by decide +kernel
theorem dX5_times_21 : decode cX5_times 21 = .ok (.istore_n 1, 1) := by decide +kernel
theorem dX5_times_22 : decode cX5_times 22 = .ok (.aload_n 0, 1) := by decide +kernel
theorem dX5_times_23 : decode cX5_times 23 = .ok (.getfield 17, 3) := by decide +kernel
theorem dX5_times_26 : decode cX5_times 26 = .ok (.aload_n 0, 1) := by decide +kernel
theorem dX5_times_27 : decode cX5_times 27 = .ok (.getfield 51, 3) := by decide +kernel
theorem dX5_times_30 : decode cX5_times 30 = .ok (.iconst 2, 1) := by decide +kernel
theorem dX5_times_31 : decode cX5_times 31 = .ok (.isub, 1) := by decide +kernel
theorem dX5_times_32 : decode cX5_times 32 = .ok (.iaload, 1) := by decide +kernel
theorem dX5_times_33 : decode cX5_times 33 = .ok (.istore_n 2, 1) := by decide +kernel
theorem dX5_times_34 : decode cX5_times 34 = .ok (.aload_n 0, 1) := by decide +kernel
theorem dX5_times_35 : decode cX5_times 35 = .ok (.aload_n 0, 1) := by decide +kernel
theorem dX5_times_36 : decode cX5_times 36 = .ok (.getfield 93, 3) := by decide +kernel
theorem dX5_times_39 : decode cX5_times 39 = .ok (.iload_n 1, 1) := by decide +kernel
theorem dX5_times_40 : decode cX5_times 40 = .ok (.iload_n 2, 1) := by decide +kernel
theorem dX5_times_41 : decode cX5_times 41 = .ok (.invokestatic 74, 3) := by decide +kernel
theorem dX5_times_44 : decode cX5_times 44 = .ok (.invokestatic 74, 3) := by decide +kernel
theorem dX5_times_47 : decode cX5_times 47 = .ok (.putfield 78, 3) := by decide +kernel
theorem dX5_times_50 : decode cX5_times 50 = .ok (.iload_n 1, 1) := by decide +kernel
theorem dX5_times_51 : decode cX5_times 51 = .ok (.iload_n 2, 1) := by decide +kernel
theorem dX5_times_52 : decode cX5_times 52 = .ok (.iadd, 1) := by decide +kernel
theorem dX5_times_53 : decode cX5_times 53 = .ok (.aload_n 0, 1) := by decide +kernel
theorem dX5_times_54 : decode cX5_times 54 = .ok (.getfield 78, 3) := by decide +kernel
theorem dX5_times_57 : decode cX5_times 57 = .ok (.if_icmp .ge 10, 3) := by decide +kernel
theorem dX5_times_60 : decode cX5_times 60 = .ok (.aload_n 0, 1) := by decide +kernel
theorem dX5_times_61 : decode cX5_times 61 = .ok (.iload_n 1, 1) := by decide +kernel
theorem dX5_times_62 : decode cX5_times 62 = .ok (.iload_n 2, 1) := by decide +kernel
theorem dX5_times_63 : decode cX5_times 63 = .ok (.iadd, 1) := by decide +kernel
theorem dX5_times_64 : decode cX5_times 64 = .ok (.putfield 78, 3) := by decide +kernel
theorem dX5_times_67 : decode cX5_times 67 = .ok (.aload_n 0, 1) := by decide +kernel
theorem dX5_times_68 : decode cX5_times 68 = .ok (.aload_n 0, 1) := by decide +kernel
theorem dX5_times_69 : decode cX5_times 69 = .ok (.aload_n 0, 1) := by decide +kernel
theorem dX5_times_70 : decode cX5_times 70 = .ok (.getfield 13, 3) := by decide +kernel
theorem dX5_times_73 : decode cX5_times 73 = .ok (.aload_n 0, 1) := by decide +kernel
theorem dX5_times_74 : decode cX5_times 74 = .ok (.getfield 51, 3) := by decide +kernel
theorem dX5_times_77 : decode cX5_times 77 = .ok (.iconst 2, 1) := by decide +kernel
theorem dX5_times_78 : decode cX5_times 78 = .ok (.isub, 1) := by decide +kernel
theorem dX5_times_79 : decode cX5_times 79 = .ok (.laload, 1) := by decide +kernel
theorem dX5_times_80 : decode cX5_times 80 = .ok (.aload_n 0, 1) := by decide +kernel
theorem dX5_times_81 : decode cX5_times 81 = .ok (.getfield 13, 3) := by decide +kernel
theorem dX5_times_84 : decode cX5_times 84 = .ok (.aload_n 0, 1) := by decide +kernel
theorem dX5_times_85 : decode cX5_times 85 = .ok (.getfield 51, 3) := by decide +kernel
theorem dX5_times_88 : decode cX5_times 88 = .ok (.iconst 1, 1) := by decide +kernel
theorem dX5_times_89 : decode cX5_times 89 = .ok (.isub, 1) := by decide +kernel
theorem dX5_times_90 : decode cX5_times 90 = .ok (.laload, 1) := by decide +kernel
theorem dX5_times_91 : decode cX5_times 91 = .ok (.invokevirtual 96, 3) := by decide +kernel
theorem dX5_times_94 : decode cX5_times 94 = .ok (.iload_n 1, 1) := by decide +kernel
theorem dX5_times_95 : decode cX5_times 95 = .ok (.iload_n 2, 1) := by decide +kernel
theorem dX5_times_96 : decode cX5_times 96 = .ok (.iadd, 1) := by decide +kernel
theorem dX5_times_97 : decode cX5_times 97 = .ok (.aload_n 0, 1) := by decide +kernel
theorem dX5_times_98 : decode cX5_times 98 = .ok (.getfield 78, 3) := by decide +kernel
theorem dX5_times_101 : decode cX5_times 101 = .ok (.isub, 1) := by decide +kernel
theorem dX5_times_102 : decode cX5_times 102 = .ok (.invokestatic 100, 3) := by decide +kernel
theorem dX5_times_105 : decode cX5_times 105 = .ok (.putfield 85, 3) := by decide +kernel
theorem dX5_times_108 : decode cX5_times 108 = .ok (.aload_n 0, 1) := by decide +kernel
theorem dX5_times_109 : decode cX5_times 109 = .ok (.getfield 48, 3) := by decide +kernel
theorem dX5_times_112 : decode cX5_times 112 = .ok (.ifCond .ne 7, 3) := by decide +kernel
theorem dX5_times_115 : decode cX5_times 115 = .ok (.iconst 1, 1) := by decide +kernel
theorem dX5_times_116 : decode cX5_times 116 = .ok (.goto 4, 3) := by decide +kernel
theorem dX5_times_119 : decode cX5_times 119 = .ok (.iconst 0, 1) := by decide +kernel
theorem dX5_times_120 : decode cX5_times 120 = .ok (.ireturn, 1) := by decide +kernel
set_option maxRecDepth 20000 in
theorem ggX5_quotient_X5_numbers : GoodIn wsX5_quotient wsX5_numbers := goodIn_r _ [12, 4, 2, 13, 14, 15, 11, 16, 17, 18, 19, 20, 5, 28, 29, 30, 31, 32, 33, 34, 35, 36, 37, 38, 39, 40, 41, 42, 43, 44, 45, 46, 47, 48] (by decide +kernel) (by decide +kernel)
set_option maxRecDepth 20000 in
theorem gX5_quotient_X5_numbers : GoodIn wsX5_quotient (wsV RX5 71 RX5 yX5_numbers wsX5_numbers) := goodIn_app (goodIn_of _ (by decide +kernel)) ggX5_quotient_X5_numbers
set_option maxRecDepth 20000 in
theorem ggX5_quotient_X5_fail : GoodIn wsX5_quotient wsX5_fail := goodIn_r _ [20, 5, 28, 29, 30, 31, 32, 33, 34, 35, 36, 37, 38, 39, 40, 41, 42, 43, 44, 45, 46, 47, 48] (by decide +kernel) (by decide +kernel)
set_option maxRecDepth 20000 in
theorem gX5_quotient_X5_fail : GoodIn wsX5_quotient (wsV RX5 54 RX5 yX5_fail wsX5_fail) := goodIn_app (goodIn_of _ (by decide +kernel)) ggX5_quotient_X5_fail
set_option maxRecDepth 20000 in
theorem ggX5_quotient_X5_raised : GoodIn wsX5_quotient wsX5_raised := goodIn_r _ [24, 5, 25, 26, 27, 28, 29, 30, 31, 32, 33, 34, 35, 36, 37, 38, 39, 40, 41, 42, 43, 44, 45, 46, 47, 48] (by decide +kernel) (by decide +kernel)
set_option maxRecDepth 20000 in
theorem gX5_quotient_X5_raised : GoodIn wsX5_quotient (wsV RX5 81 RX5 yX5_raised wsX5_raised) := goodIn_app (goodIn_of _ (by decide +kernel)) ggX5_quotient_X5_raised
theorem dX5_quotient_0 : decode cX5_quotient 0 = .ok (.aload_n 0, 1) := by decide +kernel
theorem dX5_quotient_1 : decode cX5_quotient 1 = .ok (.iconst 2, 1) := by decide +kernel
theorem dX5_quotient_2 : decode cX5_quotient 2 = .ok (.invokevirtual 71, 3) := by decide +kernel
theorem dX5_quotient_5 : decode cX5_quotient 5 = .ok (.ifCond .ne 5, 3) := by decide +kernel
theorem dX5_quotient_8 : decode cX5_quotient 8 = .ok (.iconst 0, 1) := by decide +kernel
theorem dX5_quotient_9 : decode cX5_quotient 9 = .ok (.ireturn, 1) := by decide +kernel
theorem dX5_quotient_10 : decode cX5_quotient 10 = .ok (.aload_n 0, 1) := by decide +kernel
theorem dX5_quotient_11 : decode cX5_quotient 11 = .ok (.getfield 13, 3) := by decide +kernel
theorem dX5_quotient_14 : decode cX5_quotient 14 = .ok (.aload_n 0, 1) := by decide +kernel
theorem dX5_quotient_15 : decode cX5_quotient 15 = .ok (.getfield 51, 3) := by decide +kernel
theorem dX5_quotient_18 : decode cX5_quotient 18 = .ok (.iconst 2, 1) := by decide +kernel
theorem dX5_quotient_19 : decode cX5_quotient 19 = .ok (.isub, 1) := by decide +kernel
theorem dX5_quotient_20 : decode cX5_quotient 20 = .ok (.laload, 1) := by decide +kernel
theorem dX5_quotient_21 : decode cX5_quotient 21 = .ok (.lstore_n 1, 1) := by decide +kernel
theorem dX5_quotient_22 : decode cX5_quotient 22 = .ok (.aload_n 0, 1) := by decide +kernel
theorem dX5_quotient_23 : decode cX5_quotient 23 = .ok (.getfield 13, 3) := by decide +kernel
theorem dX5_quotient_26 : decode cX5_quotient 26 = .ok (.aload_n 0, 1) := by decide +kernel
theorem dX5_quotient_27 : decode cX5_quotient 27 = .ok (.getfield 51, 3) := by decide +kernel
theorem dX5_quotient_30 : decode cX5_quotient 30 = .ok (.iconst 1, 1) := by decide +kernel
theorem dX5_quotient_31 : decode cX5_quotient 31 = .ok (.isub, 1) := by decide +kernel
theorem dX5_quotient_32 : decode cX5_quotient 32 = .ok (.laload, 1) := by decide +kernel
theorem dX5_quotient_33 : decode cX5_quotient 33 = .ok (.lstore_n 3, 1) := by decide +kernel
theorem dX5_quotient_34 : decode cX5_quotient 34 = .ok (.lload_n 3, 1) := by decide +kernel
theorem dX5_quotient_35 : decode cX5_quotient 35 = .ok (.lconst 0, 1) := by decide +kernel
theorem dX5_quotient_36 : decode cX5_quotient 36 = .ok (.lcmp, 1) := by decide +kernel
theorem dX5_quotient_37 : decode cX5_quotient 37 = .ok (.ifCond .ne 9, 3) := by decide +kernel
theorem dX5_quotient_40 : decode cX5_quotient 40 = .ok (.aload_n 0, 1) := by decide +kernel
theorem dX5_quotient_41 : decode cX5_quotient 41 = .ok (.iconst 4, 1) := by decide +kernel
theorem dX5_quotient_42 : decode cX5_quotient 42 = .ok (.invokevirtual 54, 3) := by decide +kernel
theorem dX5_quotient_45 : decode cX5_quotient 45 = .ok (.ireturn, 1) := by decide +kernel
theorem dX5_quotient_46 : decode cX5_quotient 46 = .ok (.aload_n 0, 1) := by decide +kernel
theorem dX5_quotient_47 : decode cX5_quotient 47 = .ok (.getfield 93, 3) := by decide +kernel
theorem dX5_quotient_50 : decode cX5_quotient 50 = .ok (.aload_n 0, 1) := by decide +kernel
theorem dX5_quotient_51 : decode cX5_quotient 51 = .ok (.getfield 17, 3) := by decide +kernel
theorem dX5_quotient_54 : decode cX5_quotient 54 = .ok (.aload_n 0, 1) := by decide +kernel
theorem dX5_quotient_55 : decode cX5_quotient 55 = .ok (.getfield 51, 3) := by decide +kernel
theorem dX5_quotient_58 : decode cX5_quotient 58 = .ok (.iconst 1, 1) := by decide +kernel
theorem dX5_quotient_59 : decode cX5_quotient 59 = .ok (.isub, 1) := by decide +kernel
theorem dX5_quotient_60 : decode cX5_quotient 60 = .ok (.iaload, 1) := by decide +kernel
theorem dX5_quotient_61 : decode cX5_quotient 61 = .ok (.iadd, 1) := by decide +kernel
theorem dX5_quotient_62 : decode cX5_quotient 62 = .ok (.aload_n 0, 1) := by decide +kernel
theorem dX5_quotient_63 : decode cX5_quotient 63 = .ok (.getfield 17, 3) := by decide +kernel
theorem dX5_quotient_66 : decode cX5_quotient 66 = .ok (.aload_n 0, 1) := by decide +kernel
theorem dX5_quotient_67 : decode cX5_quotient 67 = .ok (.getfield 51, 3) := by decide +kernel
theorem dX5_quotient_70 : decode cX5_quotient 70 = .ok (.iconst 2, 1) := by decide +kernel
theorem dX5_quotient_71 : decode cX5_quotient 71 = .ok (.isub, 1) := by decide +kernel
theorem dX5_quotient_72 : decode cX5_quotient 72 = .ok (.iaload, 1) := by decide +kernel
theorem dX5_quotient_73 : decode cX5_quotient 73 = .ok (.isub, 1) := by decide +kernel
theorem dX5_quotient_74 : decode cX5_quotient 74 = .ok (.istore 5, 2) := by decide +kernel
theorem dX5_quotient_76 : decode cX5_quotient 76 = .ok (.aload_n 0, 1) := by decide +kernel
theorem dX5_quotient_77 : decode cX5_quotient 77 = .ok (.lload_n 1, 1) := by decide +kernel
theorem dX5_quotient_78 : decode cX5_quotient 78 = .ok (.iload 5, 2) := by decide +kernel
theorem dX5_quotient_80 : decode cX5_quotient 80 = .ok (.invokevirtual 81, 3) := by decide +kernel
theorem dX5_quotient_83 : decode cX5_quotient 83 = .ok (.lstore_n 1, 1) := by decide +kernel
theorem dX5_quotient_84 : decode cX5_quotient 84 = .ok (.aload_n 0, 1) := by decide +kernel
theorem dX5_quotient_85 : decode cX5_quotient 85 = .ok (.lload_n 3, 1) := by decide +kernel
theorem dX5_quotient_86 : decode cX5_quotient 86 = .ok (.iload 5, 2) := by decide +kernel
theorem dX5_quotient_88 : decode cX5_quotient 88 = .ok (.ineg, 1) := by decide +kernel
theorem dX5_quotient_89 : decode cX5_quotient 89 = .ok (.invokevirtual 81, 3) := by decide +kernel
theorem dX5_quotient_92 : decode cX5_quotient 92 = .ok (.lstore_n 3, 1) := by decide +kernel
theorem dX5_quotient_93 : decode cX5_quotient 93 = .ok (.aload_n 0, 1) := by decide +kernel
theorem dX5_quotient_94 : decode cX5_quotient 94 = .ok (.getfield 48, 3) := by decide +kernel
theorem dX5_quotient_97 : decode cX5_quotient 97 = .ok (.ifCond .le 5, 3) := by decide +kernel
theorem dX5_quotient_100 : decode cX5_quotient 100 = .ok (.iconst 0, 1) := by decide +kernel
theorem dX5_quotient_101 : decode cX5_quotient 101 = .ok (.ireturn, 1) := by decide +kernel
theorem dX5_quotient_102 : decode cX5_quotient 102 = .ok (.aload_n 0, 1) := by decide +kernel
theorem dX5_quotient_103 : decode cX5_quotient 103 = .ok (.lload_n 1, 1) := by decide +kernel
theorem dX5_quotient_104 : decode cX5_quotient 104 = .ok (.lload_n 3, 1) := by decide +kernel
theorem dX5_quotient_105 : decode cX5_quotient 105 = .ok (.ldiv, 1) := by decide +kernel
theorem dX5_quotient_106 : decode cX5_quotient 106 = .ok (.putfield 85, 3) := by decide +kernel
theorem dX5_quotient_109 : decode cX5_quotient 109 = .ok (.aload_n 0, 1) := by decide +kernel
theorem dX5_quotient_110 : decode cX5_quotient 110 = .ok (.aload_n 0, 1) := by decide +kernel
theorem dX5_quotient_111 : decode cX5_quotient 111 = .ok (.getfield 93, 3) := by decide +kernel
theorem dX5_quotient_114 : decode cX5_quotient 114 = .ok (.putfield 78, 3) := by decide +kernel
theorem dX5_quotient_117 : decode cX5_quotient 117 = .ok (.iconst 1, 1) := by decide +kernel
theorem dX5_quotient_118 : decode cX5_quotient 118 = .ok (.ireturn, 1) := by decide +kernel
set_option maxRecDepth 20000 in
theorem ggX5_rest_X5_quotient : GoodIn wsX5_rest wsX5_quotient := goodIn_r _ [12, 6, 3, 1, 2, 7, 5, 4, 13, 14, 15, 11, 16, 17, 18, 19, 20, 21, 22, 23, 24, 25, 26, 27, 28, 29, 30, 31, 44, 45, 46, 47, 48, 49, 50, 51, 52, 53, 54, 55, 56, 57, 58, 59, 60, 61, 62, 63, 64] (by decide +kernel) (by decide +kernel)
set_option maxRecDepth 20000 in
theorem gX5_rest_X5_quotient : GoodIn wsX5_rest (wsV RX5 103 RX5 yX5_quotient wsX5_quotient) := goodIn_app (goodIn_of _ (by decide +kernel)) ggX5_rest_X5_quotient
set_option maxRecDepth 20000 in
theorem ggX5_rest_X5_greater : GoodIn wsX5_rest wsX5_greater := goodIn_r _ [34] (by decide +kernel) (by decide +kernel)
set_option maxRecDepth 20000 in
theorem gX5_rest_X5_greater : GoodIn wsX5_rest (va_wsS RX5 74 yX5_greater wsX5_greater) := goodIn_app (goodIn_of _ (by decide +kernel)) ggX5_rest_X5_greater
set_option maxRecDepth 20000 in
theorem ggX5_rest_X5_product : GoodIn wsX5_rest wsX5_product := goodIn_r _ [38, 39, 7, 44, 45, 46, 47, 48, 49, 50, 51, 52, 53, 54, 55, 56, 57, 58, 59, 60, 61, 62, 63, 64] (by decide +kernel) (by decide +kernel)
set_option maxRecDepth 20000 in
theorem gX5_rest_X5_product : GoodIn wsX5_rest (wsV RX5 96 RX5 yX5_product wsX5_product) := goodIn_app (goodIn_of _ (by decide +kernel)) ggX5_rest_X5_product
set_option maxRecDepth 20000 in
theorem ggX5_rest_X5_raised : GoodIn wsX5_rest wsX5_raised := goodIn_r _ [28, 7, 29, 30, 31, 44, 45, 46, 47, 48, 49, 50, 51, 52, 53, 54, 55, 56, 57, 58, 59, 60, 61, 62, 63, 64] (by decide +kernel) (by decide +kernel)
set_option maxRecDepth 20000 in
theorem gX5_rest_X5_raised : GoodIn wsX5_rest (wsV RX5 81 RX5 yX5_raised wsX5_raised) := goodIn_app (goodIn_of _ (by decide +kernel)) ggX5_rest_X5_raised
set_option maxRecDepth 20000 in
theorem ggX5_rest_X5_isBig : GoodIn wsX5_rest wsX5_isBig := goodIn_r _ [42, 39, 43] (by decide +kernel) (by decide +kernel)
set_option maxRecDepth 20000 in
theorem gX5_rest_X5_isBig : GoodIn wsX5_rest (va_wsS RX5 89 yX5_isBig wsX5_isBig) := goodIn_app (goodIn_of _ (by decide +kernel)) ggX5_rest_X5_isBig
theorem dX5_rest_0 : decode cX5_rest 0 = .ok (.aload_n 0, 1) := by decide +kernel
theorem dX5_rest_1 : decode cX5_rest 1 = .ok (.invokevirtual 103, 3) := by decide +kernel
theorem dX5_rest_4 : decode cX5_rest 4 = .ok (.ifCond .ne 5, 3) := by decide +kernel
theorem dX5_rest_7 : decode cX5_rest 7 = .ok (.iconst 0, 1) := by decide +kernel
theorem dX5_rest_8 : decode cX5_rest 8 = .ok (.ireturn, 1) := by decide +kernel
theorem dX5_rest_9 : decode cX5_rest 9 = .ok (.aload_n 0, 1) := by decide +kernel
theorem dX5_rest_10 : decode cX5_rest 10 = .ok (.getfield 93, 3) := by decide +kernel
theorem dX5_rest_13 : decode cX5_rest 13 = .ok (.aload_n 0, 1) := by decide +kernel
theorem dX5_rest_14 : decode cX5_rest 14 = .ok (.getfield 17, 3) := by decide +kernel
theorem dX5_rest_17 : decode cX5_rest 17 = .ok (.aload_n 0, 1) := by decide +kernel
theorem dX5_rest_18 : decode cX5_rest 18 = .ok (.getfield 51, 3) := by decide +kernel
theorem dX5_rest_21 : decode cX5_rest 21 = .ok (.iconst 1, 1) := by decide +kernel
theorem dX5_rest_22 : decode cX5_rest 22 = .ok (.isub, 1) := by decide +kernel
theorem dX5_rest_23 : decode cX5_rest 23 = .ok (.iaload, 1) := by decide +kernel
theorem dX5_rest_24 : decode cX5_rest 24 = .ok (.iadd, 1) := by decide +kernel
theorem dX5_rest_25 : decode cX5_rest 25 = .ok (.istore_n 1, 1) := by decide +kernel
theorem dX5_rest_26 : decode cX5_rest 26 = .ok (.aload_n 0, 1) := by decide +kernel
theorem dX5_rest_27 : decode cX5_rest 27 = .ok (.getfield 17, 3) := by decide +kernel
theorem dX5_rest_30 : decode cX5_rest 30 = .ok (.aload_n 0, 1) := by decide +kernel
theorem dX5_rest_31 : decode cX5_rest 31 = .ok (.getfield 51, 3) := by decide +kernel
theorem dX5_rest_34 : decode cX5_rest 34 = .ok (.iconst 2, 1) := by decide +kernel
theorem dX5_rest_35 : decode cX5_rest 35 = .ok (.isub, 1) := by decide +kernel
theorem dX5_rest_36 : decode cX5_rest 36 = .ok (.iaload, 1) := by decide +kernel
theorem dX5_rest_37 : decode cX5_rest 37 = .ok (.istore_n 2, 1) := by decide +kernel
theorem dX5_rest_38 : decode cX5_rest 38 = .ok (.aload_n 0, 1) := by decide +kernel
theorem dX5_rest_39 : decode cX5_rest 39 = .ok (.iload_n 1, 1) := by decide +kernel
theorem dX5_rest_40 : decode cX5_rest 40 = .ok (.iload_n 2, 1) := by decide +kernel
theorem dX5_rest_41 : decode cX5_rest 41 = .ok (.invokestatic 74, 3) := by decide +kernel
theorem dX5_rest_44 : decode cX5_rest 44 = .ok (.putfield 78, 3) := by decide +kernel
theorem dX5_rest_47 : decode cX5_rest 47 = .ok (.aload_n 0, 1) := by decide +kernel
theorem dX5_rest_48 : decode cX5_rest 48 = .ok (.aload_n 0, 1) := by decide +kernel
theorem dX5_rest_49 : decode cX5_rest 49 = .ok (.aload_n 0, 1) := by decide +kernel
theorem dX5_rest_50 : decode cX5_rest 50 = .ok (.getfield 85, 3) := by decide +kernel
theorem dX5_rest_53 : decode cX5_rest 53 = .ok (.aload_n 0, 1) := by decide +kernel
theorem dX5_rest_54 : decode cX5_rest 54 = .ok (.getfield 13, 3) := by decide +kernel
theorem dX5_rest_57 : decode cX5_rest 57 = .ok (.aload_n 0, 1) := by decide +kernel
theorem dX5_rest_58 : decode cX5_rest 58 = .ok (.getfield 51, 3) := by decide +kernel
theorem dX5_rest_61 : decode cX5_rest 61 = .ok (.iconst 1, 1) := by decide +kernel
theorem dX5_rest_62 : decode cX5_rest 62 = .ok (.isub, 1) := by decide +kernel
theorem dX5_rest_63 : decode cX5_rest 63 = .ok (.laload, 1) := by decide +kernel
theorem dX5_rest_64 : decode cX5_rest 64 = .ok (.invokevirtual 96, 3) := by decide +kernel
theorem dX5_rest_67 : decode cX5_rest 67 = .ok (.aload_n 0, 1) := by decide +kernel
theorem dX5_rest_68 : decode cX5_rest 68 = .ok (.getfield 78, 3) := by decide +kernel
theorem dX5_rest_71 : decode cX5_rest 71 = .ok (.iload_n 1, 1) := by decide +kernel
theorem dX5_rest_72 : decode cX5_rest 72 = .ok (.isub, 1) := by decide +kernel
theorem dX5_rest_73 : decode cX5_rest 73 = .ok (.invokevirtual 81, 3) := by decide +kernel
theorem dX5_rest_76 : decode cX5_rest 76 = .ok (.lstore_n 3, 1) := by decide +kernel
theorem dX5_rest_77 : decode cX5_rest 77 = .ok (.aload_n 0, 1) := by decide +kernel
theorem dX5_rest_78 : decode cX5_rest 78 = .ok (.aload_n 0, 1) := by decide +kernel
theorem dX5_rest_79 : decode cX5_rest 79 = .ok (.getfield 13, 3) := by decide +kernel
theorem dX5_rest_82 : decode cX5_rest 82 = .ok (.aload_n 0, 1) := by decide +kernel
theorem dX5_rest_83 : decode cX5_rest 83 = .ok (.getfield 51, 3) := by decide +kernel
theorem dX5_rest_86 : decode cX5_rest 86 = .ok (.iconst 2, 1) := by decide +kernel
theorem dX5_rest_87 : decode cX5_rest 87 = .ok (.isub, 1) := by decide +kernel
theorem dX5_rest_88 : decode cX5_rest 88 = .ok (.laload, 1) := by decide +kernel
theorem dX5_rest_89 : decode cX5_rest 89 = .ok (.aload_n 0, 1) := by decide +kernel
theorem dX5_rest_90 : decode cX5_rest 90 = .ok (.getfield 78, 3) := by decide +kernel
theorem dX5_rest_93 : decode cX5_rest 93 = .ok (.iload_n 2, 1) := by decide +kernel
theorem dX5_rest_94 : decode cX5_rest 94 = .ok (.isub, 1) := by decide +kernel
theorem dX5_rest_95 : decode cX5_rest 95 = .ok (.invokevirtual 81, 3) := by decide +kernel
theorem dX5_rest_98 : decode cX5_rest 98 = .ok (.lstore 5, 2) := by decide +kernel
theorem dX5_rest_100 : decode cX5_rest 100 = .ok (.aload_n 0, 1) := by decide +kernel
theorem dX5_rest_101 : decode cX5_rest 101 = .ok (.lload 5, 2) := by decide +kernel
theorem dX5_rest_103 : decode cX5_rest 103 = .ok (.lload_n 3, 1) := by decide +kernel
theorem dX5_rest_104 : decode cX5_rest 104 = .ok (.lsub, 1) := by decide +kernel
theorem dX5_rest_105 : decode cX5_rest 105 = .ok (.putfield 85, 3) := by decide +kernel
theorem dX5_rest_108 : decode cX5_rest 108 = .ok (.aload_n 0, 1) := by decide +kernel
theorem dX5_rest_109 : decode cX5_rest 109 = .ok (.getfield 48, 3) := by decide +kernel
theorem dX5_rest_112 : decode cX5_rest 112 = .ok (.ifCond .ne 27, 3) := by decide +kernel
theorem dX5_rest_115 : decode cX5_rest 115 = .ok (.aload_n 0, 1) := by decide +kernel
theorem dX5_rest_116 : decode cX5_rest 116 = .ok (.getfield 78, 3) := by decide +kernel
theorem dX5_rest_119 : decode cX5_rest 119 = .ok (.bipush 9, 2) := by decide +kernel
theorem dX5_rest_121 : decode cX5_rest 121 = .ok (.if_icmp .gt 13, 3) := by decide +kernel
theorem dX5_rest_124 : decode cX5_rest 124 = .ok (.aload_n 0, 1) := by decide +kernel
theorem dX5_rest_125 : decode cX5_rest 125 = .ok (.getfield 85, 3) := by decide +kernel
theorem dX5_rest_128 : decode cX5_rest 128 = .ok (.invokestatic 89, 3) := by decide +kernel
theorem dX5_rest_131 : decode cX5_rest 131 = .ok (.ifCond .eq 8, 3) := by decide +kernel
theorem dX5_rest_134 : decode cX5_rest 134 = .ok (.aload_n 0, 1) := by decide +kernel
theorem dX5_rest_135 : decode cX5_rest 135 = .ok (.iconst 5, 1) := by decide +kernel
theorem dX5_rest_136 : decode cX5_rest 136 = .ok (.putfield 48, 3) := by decide +kernel
theorem dX5_rest_139 : decode cX5_rest 139 = .ok (.aload_n 0, 1) := by decide +kernel
theorem dX5_rest_140 : decode cX5_rest 140 = .ok (.getfield 48, 3) := by decide +kernel
theorem dX5_rest_143 : decode cX5_rest 143 = .ok (.ifCond .ne 7, 3) := by decide +kernel
theorem dX5_rest_146 : decode cX5_rest 146 = .ok (.iconst 1, 1) := by decide +kernel
theorem dX5_rest_147 : decode cX5_rest 147 = .ok (.goto 4, 3) := by decide +kernel
theorem dX5_rest_150 : decode cX5_rest 150 = .ok (.iconst 0, 1) := by decide +kernel
theorem dX5_rest_151 : decode cX5_rest 151 = .ok (.ireturn, 1) := by decide +kernel
set_option maxRecDepth 20000 in
theorem ggX5_root_X5_numbers : GoodIn wsX5_root wsX5_numbers := goodIn_r _ [14, 4, 2, 15, 16, 17, 13, 18, 19, 20, 21, 22, 6, 33, 34, 35, 36, 37, 38, 39, 40, 41, 42, 43, 44, 45, 46, 47, 48, 49, 50, 51, 52, 53] (by decide +kernel) (by decide +kernel)
set_option maxRecDepth 20000 in
theorem gX5_root_X5_numbers : GoodIn wsX5_root (wsV RX5 71 RX5 yX5_numbers wsX5_numbers) := goodIn_app (goodIn_of _ (by decide +kernel)) ggX5_root_X5_numbers
set_option maxRecDepth 20000 in
theorem ggX5_root_X5_fail : GoodIn wsX5_root wsX5_fail := goodIn_r _ [22, 6, 33, 34, 35, 36, 37, 38, 39, 40, 41, 42, 43, 44, 45, 46, 47, 48, 49, 50, 51, 52, 53] (by decide +kernel) (by decide +kernel)
set_option maxRecDepth 20000 in
theorem gX5_root_X5_fail : GoodIn wsX5_root (wsV RX5 54 RX5 yX5_fail wsX5_fail) := goodIn_app (goodIn_of _ (by decide +kernel)) ggX5_root_X5_fail
set_option maxRecDepth 20000 in
theorem ggX5_root_X5_greater : GoodIn wsX5_root wsX5_greater := goodIn_r _ [25] (by decide +kernel) (by decide +kernel)
set_option maxRecDepth 20000 in
theorem gX5_root_X5_greater : GoodIn wsX5_root (va_wsS RX5 74 yX5_greater wsX5_greater) := goodIn_app (goodIn_of _ (by decide +kernel)) ggX5_root_X5_greater
set_option maxRecDepth 20000 in
theorem ggX5_root_X5_raised : GoodIn wsX5_root wsX5_raised := goodIn_r _ [29, 6, 30, 31, 32, 33, 34, 35, 36, 37, 38, 39, 40, 41, 42, 43, 44, 45, 46, 47, 48, 49, 50, 51, 52, 53] (by decide +kernel) (by decide +kernel)
set_option maxRecDepth 20000 in
theorem gX5_root_X5_raised : GoodIn wsX5_root (wsV RX5 81 RX5 yX5_raised wsX5_raised) := goodIn_app (goodIn_of _ (by decide +kernel)) ggX5_root_X5_raised
theorem dX5_root_0 : decode cX5_root 0 = .ok (.aload_n 0, 1) := by decide +kernel
theorem dX5_root_1 : decode cX5_root 1 = .ok (.iconst 1, 1) := by decide +kernel
theorem dX5_root_2 : decode cX5_root 2 = .ok (.invokevirtual 71, 3) := by decide +kernel
theorem dX5_root_5 : decode cX5_root 5 = .ok (.ifCond .ne 5, 3) := by decide +kernel
theorem dX5_root_8 : decode cX5_root 8 = .ok (.iconst 0, 1) := by decide +kernel
theorem dX5_root_9 : decode cX5_root 9 = .ok (.ireturn, 1) := by decide +kernel
theorem dX5_root_10 : decode cX5_root 10 = .ok (.aload_n 0, 1) := by decide +kernel
theorem dX5_root_11 : decode cX5_root 11 = .ok (.getfield 13, 3) := by decide +kernel
theorem dX5_root_14 : decode cX5_root 14 = .ok (.aload_n 0, 1) := by decide +kernel
theorem dX5_root_15 : decode cX5_root 15 = .ok (.getfield 51, 3) := by decide +kernel
theorem dX5_root_18 : decode cX5_root 18 = .ok (.iconst 1, 1) := by decide +kernel
theorem dX5_root_19 : decode cX5_root 19 = .ok (.isub, 1) := by decide +kernel
theorem dX5_root_20 : decode cX5_root 20 = .ok (.laload, 1) := by decide +kernel
theorem dX5_root_21 : decode cX5_root 21 = .ok (.lconst 0, 1) := by decide +kernel
theorem dX5_root_22 : decode cX5_root 22 = .ok (.lcmp, 1) := by decide +kernel
theorem dX5_root_23 : decode cX5_root 23 = .ok (.ifCond .ge 9, 3) := by decide +kernel
theorem dX5_root_26 : decode cX5_root 26 = .ok (.aload_n 0, 1) := by decide +kernel
theorem dX5_root_27 : decode cX5_root 27 = .ok (.iconst 4, 1) := by decide +kernel
theorem dX5_root_28 : decode cX5_root 28 = .ok (.invokevirtual 54, 3) := by decide +kernel
theorem dX5_root_31 : decode cX5_root 31 = .ok (.ireturn, 1) := by decide +kernel
theorem dX5_root_32 : decode cX5_root 32 = .ok (.aload_n 0, 1) := by decide +kernel
theorem dX5_root_33 : decode cX5_root 33 = .ok (.aload_n 0, 1) := by decide +kernel
theorem dX5_root_34 : decode cX5_root 34 = .ok (.getfield 93, 3) := by decide +kernel
theorem dX5_root_37 : decode cX5_root 37 = .ok (.aload_n 0, 1) := by decide +kernel
theorem dX5_root_38 : decode cX5_root 38 = .ok (.getfield 17, 3) := by decide +kernel
theorem dX5_root_41 : decode cX5_root 41 = .ok (.aload_n 0, 1) := by decide +kernel
theorem dX5_root_42 : decode cX5_root 42 = .ok (.getfield 51, 3) := by decide +kernel
theorem dX5_root_45 : decode cX5_root 45 = .ok (.iconst 1, 1) := by decide +kernel
theorem dX5_root_46 : decode cX5_root 46 = .ok (.isub, 1) := by decide +kernel
theorem dX5_root_47 : decode cX5_root 47 = .ok (.iaload, 1) := by decide +kernel
theorem dX5_root_48 : decode cX5_root 48 = .ok (.invokestatic 74, 3) := by decide +kernel
theorem dX5_root_51 : decode cX5_root 51 = .ok (.putfield 78, 3) := by decide +kernel
theorem dX5_root_54 : decode cX5_root 54 = .ok (.aload_n 0, 1) := by decide +kernel
theorem dX5_root_55 : decode cX5_root 55 = .ok (.aload_n 0, 1) := by decide +kernel
theorem dX5_root_56 : decode cX5_root 56 = .ok (.getfield 13, 3) := by decide +kernel
theorem dX5_root_59 : decode cX5_root 59 = .ok (.aload_n 0, 1) := by decide +kernel
theorem dX5_root_60 : decode cX5_root 60 = .ok (.getfield 51, 3) := by decide +kernel
theorem dX5_root_63 : decode cX5_root 63 = .ok (.iconst 1, 1) := by decide +kernel
theorem dX5_root_64 : decode cX5_root 64 = .ok (.isub, 1) := by decide +kernel
theorem dX5_root_65 : decode cX5_root 65 = .ok (.laload, 1) := by decide +kernel
theorem dX5_root_66 : decode cX5_root 66 = .ok (.iconst 2, 1) := by decide +kernel
theorem dX5_root_67 : decode cX5_root 67 = .ok (.aload_n 0, 1) := by decide +kernel
theorem dX5_root_68 : decode cX5_root 68 = .ok (.getfield 78, 3) := by decide +kernel
theorem dX5_root_71 : decode cX5_root 71 = .ok (.imul, 1) := by decide +kernel
theorem dX5_root_72 : decode cX5_root 72 = .ok (.aload_n 0, 1) := by decide +kernel
theorem dX5_root_73 : decode cX5_root 73 = .ok (.getfield 17, 3) := by decide +kernel
theorem dX5_root_76 : decode cX5_root 76 = .ok (.aload_n 0, 1) := by decide +kernel
theorem dX5_root_77 : decode cX5_root 77 = .ok (.getfield 51, 3) := by decide +kernel
theorem dX5_root_80 : decode cX5_root 80 = .ok (.iconst 1, 1) := by decide +kernel
theorem dX5_root_81 : decode cX5_root 81 = .ok (.isub, 1) := by decide +kernel
theorem dX5_root_82 : decode cX5_root 82 = .ok (.iaload, 1) := by decide +kernel
theorem dX5_root_83 : decode cX5_root 83 = .ok (.isub, 1) := by decide +kernel
theorem dX5_root_84 : decode cX5_root 84 = .ok (.invokevirtual 81, 3) := by decide +kernel
theorem dX5_root_87 : decode cX5_root 87 = .ok (.lstore_n 1, 1) := by decide +kernel
theorem dX5_root_88 : decode cX5_root 88 = .ok (.aload_n 0, 1) := by decide +kernel
theorem dX5_root_89 : decode cX5_root 89 = .ok (.getfield 48, 3) := by decide +kernel
theorem dX5_root_92 : decode cX5_root 92 = .ok (.ifCond .le 5, 3) := by decide +kernel
theorem dX5_root_95 : decode cX5_root 95 = .ok (.iconst 0, 1) := by decide +kernel
theorem dX5_root_96 : decode cX5_root 96 = .ok (.ireturn, 1) := by decide +kernel
theorem dX5_root_97 : decode cX5_root 97 = .ok (.lconst 0, 1) := by decide +kernel
theorem dX5_root_98 : decode cX5_root 98 = .ok (.lstore_n 3, 1) := by decide +kernel
theorem dX5_root_99 : decode cX5_root 99 = .ok (.ldc2_w 107, 3) := by decide +kernel
theorem dX5_root_102 : decode cX5_root 102 = .ok (.lstore 5, 2) := by decide +kernel
theorem dX5_root_104 : decode cX5_root 104 = .ok (.iconst 0, 1) := by decide +kernel
theorem dX5_root_105 : decode cX5_root 105 = .ok (.istore 7, 2) := by decide +kernel
theorem dX5_root_107 : decode cX5_root 107 = .ok (.iload 7, 2) := by decide +kernel
theorem dX5_root_109 : decode cX5_root 109 = .ok (.bipush 40, 2) := by decide +kernel
theorem dX5_root_111 : decode cX5_root 111 = .ok (.if_icmp .ge 50, 3) := by decide +kernel
theorem dX5_root_114 : decode cX5_root 114 = .ok (.lload_n 3, 1) := by decide +kernel
theorem dX5_root_115 : decode cX5_root 115 = .ok (.lload 5, 2) := by decide +kernel
theorem dX5_root_117 : decode cX5_root 117 = .ok (.lcmp, 1) := by decide +kernel
theorem dX5_root_118 : decode cX5_root 118 = .ok (.ifCond .ge 43, 3) := by decide +kernel
theorem dX5_root_121 : decode cX5_root 121 = .ok (.lload_n 3, 1) := by decide +kernel
theorem dX5_root_122 : decode cX5_root 122 = .ok (.lload 5, 2) := by decide +kernel
theorem dX5_root_124 : decode cX5_root 124 = .ok (.ladd, 1) := by decide +kernel
theorem dX5_root_125 : decode cX5_root 125 = .ok (.lconst 1, 1) := by decide +kernel
theorem dX5_root_126 : decode cX5_root 126 = .ok (.ladd, 1) := by decide +kernel
theorem dX5_root_127 : decode cX5_root 127 = .ok (.ldc2_w 109, 3) := by decide +kernel
theorem dX5_root_130 : decode cX5_root 130 = .ok (.ldiv, 1) := by decide +kernel
theorem dX5_root_131 : decode cX5_root 131 = .ok (.lstore 8, 2) := by decide +kernel
theorem dX5_root_133 : decode cX5_root 133 = .ok (.lload 8, 2) := by decide +kernel
theorem dX5_root_135 : decode cX5_root 135 = .ok (.lload 8, 2) := by decide +kernel
theorem dX5_root_137 : decode cX5_root 137 = .ok (.lmul, 1) := by decide +kernel
theorem dX5_root_138 : decode cX5_root 138 = .ok (.lload_n 1, 1) := by decide +kernel
theorem dX5_root_139 : decode cX5_root 139 = .ok (.lcmp, 1) := by decide +kernel
theorem dX5_root_140 : decode cX5_root 140 = .ok (.ifCond .gt 9, 3) := by decide +kernel
theorem dX5_root_143 : decode cX5_root 143 = .ok (.lload 8, 2) := by decide +kernel
theorem dX5_root_145 : decode cX5_root 145 = .ok (.lstore_n 3, 1) := by decide +kernel
theorem dX5_root_146 : decode cX5_root 146 = .ok (.goto 9, 3) := by decide +kernel
theorem dX5_root_149 : decode cX5_root 149 = .ok (.lload 8, 2) := by decide +kernel
theorem dX5_root_151 : decode cX5_root 151 = .ok (.lconst 1, 1) := by decide +kernel
theorem dX5_root_152 : decode cX5_root 152 = .ok (.lsub, 1) := by decide +kernel
theorem dX5_root_153 : decode cX5_root 153 = .ok (.lstore 5, 2) := by decide +kernel
theorem dX5_root_155 : decode cX5_root 155 = .ok (.iinc 7 1, 3) := by decide +kernel
theorem dX5_root_158 : decode cX5_root 158 = .ok (.goto (-51), 3) := by decide +kernel
theorem dX5_root_161 : decode cX5_root 161 = .ok (.aload_n 0, 1) := by decide +kernel
theorem dX5_root_162 : decode cX5_root 162 = .ok (.lload_n 3, 1) := by decide +kernel
theorem dX5_root_163 : decode cX5_root 163 = .ok (.putfield 85, 3) := by decide +kernel
theorem dX5_root_166 : decode cX5_root 166 = .ok (.iconst 1, 1) := by decide +kernel
theorem dX5_root_167 : decode cX5_root 167 = .ok (.ireturn, 1) := by decide +kernel
theorem dX5_charAt_0 : decode cX5_charAt 0 = .ok (.iload_n 2, 1) := by decide +kernel
theorem dX5_charAt_1 : decode cX5_charAt 1 = .ok (.aload_n 0, 1) := by decide +kernel
theorem dX5_charAt_2 : decode cX5_charAt 2 = .ok (.getfield 29, 3) := by decide +kernel
theorem dX5_charAt_5 : decode cX5_charAt 5 = .ok (.iload_n 1, 1) := by decide +kernel
theorem dX5_charAt_6 : decode cX5_charAt 6 = .ok (.iaload, 1) := by decide +kernel
theorem dX5_charAt_7 : decode cX5_charAt 7 = .ok (.if_icmp .ge 18, 3) := by decide +kernel
theorem dX5_charAt_10 : decode cX5_charAt 10 = .ok (.aload_n 0, 1) := by decide +kernel
theorem dX5_charAt_11 : decode cX5_charAt 11 = .ok (.getfield 26, 3) := by decide +kernel
theorem dX5_charAt_14 : decode cX5_charAt 14 = .ok (.sipush 160, 3) := by decide +kernel
theorem dX5_charAt_17 : decode cX5_charAt 17 = .ok (.iload_n 1, 1) := by decide +kernel
theorem dX5_charAt_18 : decode cX5_charAt 18 = .ok (.imul, 1) := by decide +kernel
theorem dX5_charAt_19 : decode cX5_charAt 19 = .ok (.iload_n 2, 1) := by decide +kernel
theorem dX5_charAt_20 : decode cX5_charAt 20 = .ok (.iadd, 1) := by decide +kernel
theorem dX5_charAt_21 : decode cX5_charAt 21 = .ok (.iaload, 1) := by decide +kernel
theorem dX5_charAt_22 : decode cX5_charAt 22 = .ok (.goto 4, 3) := by decide +kernel
theorem dX5_charAt_25 : decode cX5_charAt 25 = .ok (.iconst 0, 1) := by decide +kernel
theorem dX5_charAt_26 : decode cX5_charAt 26 = .ok (.ireturn, 1) := by decide +kernel
theorem dX5_isNothing_0 : decode cX5_isNothing 0 = .ok (.iload_n 1, 1) := by decide +kernel
theorem dX5_isNothing_1 : decode cX5_isNothing 1 = .ok (.bipush 32, 2) := by decide +kernel
theorem dX5_isNothing_3 : decode cX5_isNothing 3 = .ok (.if_icmp .eq 9, 3) := by decide +kernel
theorem dX5_isNothing_6 : decode cX5_isNothing 6 = .ok (.iload_n 1, 1) := by decide +kernel
theorem dX5_isNothing_7 : decode cX5_isNothing 7 = .ok (.bipush 10, 2) := by decide +kernel
theorem dX5_isNothing_9 : decode cX5_isNothing 9 = .ok (.if_icmp .ne 7, 3) := by decide +kernel
theorem dX5_isNothing_12 : decode cX5_isNothing 12 = .ok (.iconst 1, 1) := by decide +kernel
theorem dX5_isNothing_13 : decode cX5_isNothing 13 = .ok (.goto 4, 3) := by decide +kernel
theorem dX5_isNothing_16 : decode cX5_isNothing 16 = .ok (.iconst 0, 1) := by decide +kernel
theorem dX5_isNothing_17 : decode cX5_isNothing 17 = .ok (.ireturn, 1) := by decide +kernel
set_option maxRecDepth 20000 in
theorem ggX5_isDone_X5_isNothing : GoodIn wsX5_isDone wsX5_isNothing := goodIn_r _ [8] (by decide +kernel) (by decide +kernel)
set_option maxRecDepth 20000 in
theorem gX5_isDone_X5_isNothing : GoodIn wsX5_isDone (wsV RX5 114 RX5 yX5_isNothing wsX5_isNothing) := goodIn_app (goodIn_of _ (by decide +kernel)) ggX5_isDone_X5_isNothing
theorem dX5_isDone_0 : decode cX5_isDone 0 = .ok (.aload_n 0, 1) := by decide +kernel
theorem dX5_isDone_1 : decode cX5_isDone 1 = .ok (.getfield 111, 3) := by decide +kernel
theorem dX5_isDone_4 : decode cX5_isDone 4 = .ok (.iconst 1, 1) := by decide +kernel
theorem dX5_isDone_5 : decode cX5_isDone 5 = .ok (.isub, 1) := by decide +kernel
theorem dX5_isDone_6 : decode cX5_isDone 6 = .ok (.istore_n 2, 1) := by decide +kernel
theorem dX5_isDone_7 : decode cX5_isDone 7 = .ok (.iload_n 1, 1) := by decide +kernel
theorem dX5_isDone_8 : decode cX5_isDone 8 = .ok (.istore_n 3, 1) := by decide +kernel
theorem dX5_isDone_9 : decode cX5_isDone 9 = .ok (.iload_n 3, 1) := by decide +kernel
theorem dX5_isDone_10 : decode cX5_isDone 10 = .ok (.aload_n 0, 1) := by decide +kernel
theorem dX5_isDone_11 : decode cX5_isDone 11 = .ok (.getfield 29, 3) := by decide +kernel
theorem dX5_isDone_14 : decode cX5_isDone 14 = .ok (.iload_n 2, 1) := by decide +kernel
theorem dX5_isDone_15 : decode cX5_isDone 15 = .ok (.iaload, 1) := by decide +kernel
theorem dX5_isDone_16 : decode cX5_isDone 16 = .ok (.if_icmp .ge 30, 3) := by decide +kernel
theorem dX5_isDone_19 : decode cX5_isDone 19 = .ok (.aload_n 0, 1) := by decide +kernel
theorem dX5_isDone_20 : decode cX5_isDone 20 = .ok (.aload_n 0, 1) := by decide +kernel
theorem dX5_isDone_21 : decode cX5_isDone 21 = .ok (.getfield 26, 3) := by decide +kernel
theorem dX5_isDone_24 : decode cX5_isDone 24 = .ok (.sipush 160, 3) := by decide +kernel
theorem dX5_isDone_27 : decode cX5_isDone 27 = .ok (.iload_n 2, 1) := by decide +kernel
theorem dX5_isDone_28 : decode cX5_isDone 28 = .ok (.imul, 1) := by decide +kernel
theorem dX5_isDone_29 : decode cX5_isDone 29 = .ok (.iload_n 3, 1) := by decide +kernel
theorem dX5_isDone_30 : decode cX5_isDone 30 = .ok (.iadd, 1) := by decide +kernel
theorem dX5_isDone_31 : decode cX5_isDone 31 = .ok (.iaload, 1) := by decide +kernel
theorem dX5_isDone_32 : decode cX5_isDone 32 = .ok (.invokevirtual 114, 3) := by decide +kernel
theorem dX5_isDone_35 : decode cX5_isDone 35 = .ok (.ifCond .ne 5, 3) := by decide +kernel
theorem dX5_isDone_38 : decode cX5_isDone 38 = .ok (.iconst 0, 1) := by decide +kernel
theorem dX5_isDone_39 : decode cX5_isDone 39 = .ok (.ireturn, 1) := by decide +kernel
theorem dX5_isDone_40 : decode cX5_isDone 40 = .ok (.iinc 3 1, 3) := by decide +kernel
theorem dX5_isDone_43 : decode cX5_isDone 43 = .ok (.goto (-34), 3) := by decide +kernel
theorem dX5_isDone_46 : decode cX5_isDone 46 = .ok (.iconst 1, 1) := by decide +kernel
theorem dX5_isDone_47 : decode cX5_isDone 47 = .ok (.ireturn, 1) := by decide +kernel
set_option maxRecDepth 20000 in
theorem ggX5_mayRun_X5_isDone : GoodIn wsX5_mayRun wsX5_isDone := goodIn_r _ [6, 1, 7, 8, 9, 10, 11, 5, 12, 18, 19, 20, 21, 22, 23, 24, 25, 26, 27, 28, 29, 30, 31, 32, 33, 34, 35, 36, 37, 38] (by decide +kernel) (by decide +kernel)
set_option maxRecDepth 20000 in
theorem gX5_mayRun_X5_isDone : GoodIn wsX5_mayRun (wsV RX5 117 RX5 yX5_isDone wsX5_isDone) := goodIn_app (goodIn_of _ (by decide +kernel)) ggX5_mayRun_X5_isDone
set_option maxRecDepth 20000 in
theorem ggX5_mayRun_X5_fail : GoodIn wsX5_mayRun wsX5_fail := goodIn_r _ [16, 17, 18, 19, 20, 21, 22, 23, 24, 25, 26, 27, 28, 29, 30, 31, 32, 33, 34, 35, 36, 37, 38] (by decide +kernel) (by decide +kernel)
set_option maxRecDepth 20000 in
theorem gX5_mayRun_X5_fail : GoodIn wsX5_mayRun (wsV RX5 54 RX5 yX5_fail wsX5_fail) := goodIn_app (goodIn_of _ (by decide +kernel)) ggX5_mayRun_X5_fail
theorem dX5_mayRun_0 : decode cX5_mayRun 0 = .ok (.aload_n 0, 1) := by decide +kernel
theorem dX5_mayRun_1 : decode cX5_mayRun 1 = .ok (.getfield 111, 3) := by decide +kernel
theorem dX5_mayRun_4 : decode cX5_mayRun 4 = .ok (.bipush 12, 2) := by decide +kernel
theorem dX5_mayRun_6 : decode cX5_mayRun 6 = .ok (.if_icmp .lt 19, 3) := by decide +kernel
theorem dX5_mayRun_9 : decode cX5_mayRun 9 = .ok (.aload_n 0, 1) := by decide +kernel
theorem dX5_mayRun_10 : decode cX5_mayRun 10 = .ok (.iload_n 1, 1) := by decide +kernel
theorem dX5_mayRun_11 : decode cX5_mayRun 11 = .ok (.invokevirtual 117, 3) := by decide +kernel
theorem dX5_mayRun_14 : decode cX5_mayRun 14 = .ok (.ifCond .ne 11, 3) := by decide +kernel
theorem dX5_mayRun_17 : decode cX5_mayRun 17 = .ok (.aload_n 0, 1) := by decide +kernel
theorem dX5_mayRun_18 : decode cX5_mayRun 18 = .ok (.iconst 5, 1) := by decide +kernel
theorem dX5_mayRun_19 : decode cX5_mayRun 19 = .ok (.invokevirtual 54, 3) := by decide +kernel
theorem dX5_mayRun_22 : decode cX5_mayRun 22 = .ok (.ifCond .eq 7, 3) := by decide +kernel
theorem dX5_mayRun_25 : decode cX5_mayRun 25 = .ok (.iconst 1, 1) := by decide +kernel
theorem dX5_mayRun_26 : decode cX5_mayRun 26 = .ok (.goto 4, 3) := by decide +kernel
theorem dX5_mayRun_29 : decode cX5_mayRun 29 = .ok (.iconst 0, 1) := by decide +kernel
theorem dX5_mayRun_30 : decode cX5_mayRun 30 = .ok (.ireturn, 1) := by decide +kernel
set_option maxRecDepth 20000 in
theorem ggX5_begin_X5_isDone : GoodIn wsX5_begin wsX5_isDone := goodIn_r _ [11, 2, 3, 5, 12, 13, 14, 10, 15, 16, 17, 18, 19, 20, 21, 22, 23, 24, 25, 26, 27, 28, 29, 30, 31, 32, 33, 34, 35, 36] (by decide +kernel) (by decide +kernel)
set_option maxRecDepth 20000 in
theorem gX5_begin_X5_isDone : GoodIn wsX5_begin (wsV RX5 117 RX5 yX5_isDone wsX5_isDone) := goodIn_app (goodIn_of _ (by decide +kernel)) ggX5_begin_X5_isDone
theorem dX5_begin_0 : decode cX5_begin 0 = .ok (.aload_n 0, 1) := by decide +kernel
theorem dX5_begin_1 : decode cX5_begin 1 = .ok (.getfield 32, 3) := by decide +kernel
theorem dX5_begin_4 : decode cX5_begin 4 = .ok (.aload_n 0, 1) := by decide +kernel
theorem dX5_begin_5 : decode cX5_begin 5 = .ok (.getfield 111, 3) := by decide +kernel
theorem dX5_begin_8 : decode cX5_begin 8 = .ok (.iconst 1, 1) := by decide +kernel
theorem dX5_begin_9 : decode cX5_begin 9 = .ok (.isub, 1) := by decide +kernel
theorem dX5_begin_10 : decode cX5_begin 10 = .ok (.iload_n 2, 1) := by decide +kernel
theorem dX5_begin_11 : decode cX5_begin 11 = .ok (.iastore, 1) := by decide +kernel
theorem dX5_begin_12 : decode cX5_begin 12 = .ok (.aload_n 0, 1) := by decide +kernel
theorem dX5_begin_13 : decode cX5_begin 13 = .ok (.iload_n 2, 1) := by decide +kernel
theorem dX5_begin_14 : decode cX5_begin 14 = .ok (.invokevirtual 117, 3) := by decide +kernel
theorem dX5_begin_17 : decode cX5_begin 17 = .ok (.ifCond .eq 13, 3) := by decide +kernel
theorem dX5_begin_20 : decode cX5_begin 20 = .ok (.aload_n 0, 1) := by decide +kernel
theorem dX5_begin_21 : decode cX5_begin 21 = .ok (.dup, 1) := by decide +kernel
theorem dX5_begin_22 : decode cX5_begin 22 = .ok (.getfield 111, 3) := by decide +kernel
theorem dX5_begin_25 : decode cX5_begin 25 = .ok (.iconst 1, 1) := by decide +kernel
theorem dX5_begin_26 : decode cX5_begin 26 = .ok (.isub, 1) := by decide +kernel
theorem dX5_begin_27 : decode cX5_begin 27 = .ok (.putfield 111, 3) := by decide +kernel
theorem dX5_begin_30 : decode cX5_begin 30 = .ok (.aload_n 0, 1) := by decide +kernel
theorem dX5_begin_31 : decode cX5_begin 31 = .ok (.getfield 29, 3) := by decide +kernel
theorem dX5_begin_34 : decode cX5_begin 34 = .ok (.aload_n 0, 1) := by decide +kernel
theorem dX5_begin_35 : decode cX5_begin 35 = .ok (.getfield 111, 3) := by decide +kernel
theorem dX5_begin_38 : decode cX5_begin 38 = .ok (.aload_n 0, 1) := by decide +kernel
theorem dX5_begin_39 : decode cX5_begin 39 = .ok (.getfield 13, 3) := by decide +kernel
theorem dX5_begin_42 : decode cX5_begin 42 = .ok (.iload_n 1, 1) := by decide +kernel
theorem dX5_begin_43 : decode cX5_begin 43 = .ok (.laload, 1) := by decide +kernel
theorem dX5_begin_44 : decode cX5_begin 44 = .ok (.l2i, 1) := by decide +kernel
theorem dX5_begin_45 : decode cX5_begin 45 = .ok (.iastore, 1) := by decide +kernel
theorem dX5_begin_46 : decode cX5_begin 46 = .ok (.aload_n 0, 1) := by decide +kernel
theorem dX5_begin_47 : decode cX5_begin 47 = .ok (.getfield 32, 3) := by decide +kernel
theorem dX5_begin_50 : decode cX5_begin 50 = .ok (.aload_n 0, 1) := by decide +kernel
theorem dX5_begin_51 : decode cX5_begin 51 = .ok (.getfield 111, 3) := by decide +kernel
theorem dX5_begin_54 : decode cX5_begin 54 = .ok (.iconst 0, 1) := by decide +kernel
theorem dX5_begin_55 : decode cX5_begin 55 = .ok (.iastore, 1) := by decide +kernel
theorem dX5_begin_56 : decode cX5_begin 56 = .ok (.iconst 0, 1) := by decide +kernel
theorem dX5_begin_57 : decode cX5_begin 57 = .ok (.istore_n 3, 1) := by decide +kernel
theorem dX5_begin_58 : decode cX5_begin 58 = .ok (.iload_n 3, 1) := by decide +kernel
theorem dX5_begin_59 : decode cX5_begin 59 = .ok (.aload_n 0, 1) := by decide +kernel
theorem dX5_begin_60 : decode cX5_begin 60 = .ok (.getfield 29, 3) := by decide +kernel
theorem dX5_begin_63 : decode cX5_begin 63 = .ok (.aload_n 0, 1) := by decide +kernel
theorem dX5_begin_64 : decode cX5_begin 64 = .ok (.getfield 111, 3) := by decide +kernel
theorem dX5_begin_67 : decode cX5_begin 67 = .ok (.iaload, 1) := by decide +kernel
theorem dX5_begin_68 : decode cX5_begin 68 = .ok (.if_icmp .ge 36, 3) := by decide +kernel
theorem dX5_begin_71 : decode cX5_begin 71 = .ok (.aload_n 0, 1) := by decide +kernel
theorem dX5_begin_72 : decode cX5_begin 72 = .ok (.getfield 26, 3) := by decide +kernel
theorem dX5_begin_75 : decode cX5_begin 75 = .ok (.sipush 160, 3) := by decide +kernel
theorem dX5_begin_78 : decode cX5_begin 78 = .ok (.aload_n 0, 1) := by decide +kernel
theorem dX5_begin_79 : decode cX5_begin 79 = .ok (.getfield 111, 3) := by decide +kernel
theorem dX5_begin_82 : decode cX5_begin 82 = .ok (.imul, 1) := by decide +kernel
theorem dX5_begin_83 : decode cX5_begin 83 = .ok (.iload_n 3, 1) := by decide +kernel
theorem dX5_begin_84 : decode cX5_begin 84 = .ok (.iadd, 1) := by decide +kernel
theorem dX5_begin_85 : decode cX5_begin 85 = .ok (.aload_n 0, 1) := by decide +kernel
theorem dX5_begin_86 : decode cX5_begin 86 = .ok (.getfield 20, 3) := by decide +kernel
theorem dX5_begin_89 : decode cX5_begin 89 = .ok (.sipush 160, 3) := by decide +kernel
theorem dX5_begin_92 : decode cX5_begin 92 = .ok (.iload_n 1, 1) := by decide +kernel
theorem dX5_begin_93 : decode cX5_begin 93 = .ok (.imul, 1) := by decide +kernel
theorem dX5_begin_94 : decode cX5_begin 94 = .ok (.iload_n 3, 1) := by decide +kernel
theorem dX5_begin_95 : decode cX5_begin 95 = .ok (.iadd, 1) := by decide +kernel
theorem dX5_begin_96 : decode cX5_begin 96 = .ok (.iaload, 1) := by decide +kernel
theorem dX5_begin_97 : decode cX5_begin 97 = .ok (.iastore, 1) := by decide +kernel
theorem dX5_begin_98 : decode cX5_begin 98 = .ok (.iinc 3 1, 3) := by decide +kernel
theorem dX5_begin_101 : decode cX5_begin 101 = .ok (.goto (-43), 3) := by decide +kernel
theorem dX5_begin_104 : decode cX5_begin 104 = .ok (.aload_n 0, 1) := by decide +kernel
theorem dX5_begin_105 : decode cX5_begin 105 = .ok (.dup, 1) := by decide +kernel
theorem dX5_begin_106 : decode cX5_begin 106 = .ok (.getfield 111, 3) := by decide +kernel
theorem dX5_begin_109 : decode cX5_begin 109 = .ok (.iconst 1, 1) := by decide +kernel
theorem dX5_begin_110 : decode cX5_begin 110 = .ok (.iadd, 1) := by decide +kernel
theorem dX5_begin_111 : decode cX5_begin 111 = .ok (.putfield 111, 3) := by decide +kernel
theorem dX5_begin_114 : decode cX5_begin 114 = .ok (.return_, 1) := by decide +kernel
set_option maxRecDepth 20000 in
theorem ggX5_digits_X5_charAt : GoodIn wsX5_digits wsX5_charAt := goodIn_r _ [10, 11, 12, 32, 33, 34, 35, 36, 37, 38, 39, 40, 41, 42, 43, 44, 45, 46, 47, 48, 49, 50, 51, 52] (by decide +kernel) (by decide +kernel)
set_option maxRecDepth 20000 in
theorem gX5_digits_X5_charAt : GoodIn wsX5_digits (wsV RX5 120 RX5 yX5_charAt wsX5_charAt) := goodIn_app (goodIn_of _ (by decide +kernel)) ggX5_digits_X5_charAt
set_option maxRecDepth 20000 in
theorem ggX5_digits_X5_within : GoodIn wsX5_digits wsX5_within := goodIn_r _ [15] (by decide +kernel) (by decide +kernel)
set_option maxRecDepth 20000 in
theorem gX5_digits_X5_within : GoodIn wsX5_digits (va_wsS RX5 127 yX5_within wsX5_within) := goodIn_app (goodIn_of _ (by decide +kernel)) ggX5_digits_X5_within
set_option maxRecDepth 20000 in
theorem ggX5_digits_X5_fail : GoodIn wsX5_digits wsX5_fail := goodIn_r _ [19, 20, 32, 33, 34, 35, 36, 37, 38, 39, 40, 41, 42, 43, 44, 45, 46, 47, 48, 49, 50, 51, 52] (by decide +kernel) (by decide +kernel)
set_option maxRecDepth 20000 in
theorem gX5_digits_X5_fail : GoodIn wsX5_digits (wsV RX5 54 RX5 yX5_fail wsX5_fail) := goodIn_app (goodIn_of _ (by decide +kernel)) ggX5_digits_X5_fail
set_option maxRecDepth 20000 in
theorem ggX5_digits_X5_room : GoodIn wsX5_digits wsX5_room := goodIn_r _ [24, 25, 16, 17, 18, 9, 19, 20, 32, 33, 34, 35, 36, 37, 38, 39, 40, 41, 42, 43, 44, 45, 46, 47, 48, 49, 50, 51, 52] (by decide +kernel) (by decide +kernel)
set_option maxRecDepth 20000 in
theorem gX5_digits_X5_room : GoodIn wsX5_digits (wsV RX5 131 RX5 yX5_room wsX5_room) := goodIn_app (goodIn_of _ (by decide +kernel)) ggX5_digits_X5_room
set_option maxRecDepth 20000 in
theorem ggX5_digits_X5_put : GoodIn wsX5_digits wsX5_put := goodIn_r _ [29, 25, 30, 31, 32, 33, 34, 35, 36, 37, 38, 39, 40, 41, 42, 43, 44, 45, 46, 47, 48, 49, 50, 51, 52] (by decide +kernel) (by decide +kernel)
set_option maxRecDepth 20000 in
theorem gX5_digits_X5_put : GoodIn wsX5_digits (wsV RX5 134 RX5 yX5_put wsX5_put) := goodIn_app (goodIn_of _ (by decide +kernel)) ggX5_digits_X5_put
theorem dX5_digits_0 : decode cX5_digits 0 = .ok (.aload_n 0, 1) := by decide +kernel
theorem dX5_digits_1 : decode cX5_digits 1 = .ok (.getfield 111, 3) := by decide +kernel
theorem dX5_digits_4 : decode cX5_digits 4 = .ok (.iconst 1, 1) := by decide +kernel
theorem dX5_digits_5 : decode cX5_digits 5 = .ok (.isub, 1) := by decide +kernel
theorem dX5_digits_6 : decode cX5_digits 6 = .ok (.istore_n 2, 1) := by decide +kernel
theorem dX5_digits_7 : decode cX5_digits 7 = .ok (.iload_n 1, 1) := by decide +kernel
theorem dX5_digits_8 : decode cX5_digits 8 = .ok (.istore_n 3, 1) := by decide +kernel
theorem dX5_digits_9 : decode cX5_digits 9 = .ok (.aload_n 0, 1) := by decide +kernel
theorem dX5_digits_10 : decode cX5_digits 10 = .ok (.iload_n 2, 1) := by decide +kernel
theorem dX5_digits_11 : decode cX5_digits 11 = .ok (.iload_n 3, 1) := by decide +kernel
theorem dX5_digits_12 : decode cX5_digits 12 = .ok (.invokevirtual 120, 3) := by decide +kernel
theorem dX5_digits_15 : decode cX5_digits 15 = .ok (.bipush 95, 2) := by decide +kernel
theorem dX5_digits_17 : decode cX5_digits 17 = .ok (.if_icmp .ne 7, 3) := by decide +kernel
theorem dX5_digits_20 : decode cX5_digits 20 = .ok (.iconst 1, 1) := by decide +kernel
theorem dX5_digits_21 : decode cX5_digits 21 = .ok (.goto 4, 3) := by decide +kernel
theorem dX5_digits_24 : decode cX5_digits 24 = .ok (.iconst 0, 1) := by decide +kernel
theorem dX5_digits_25 : decode cX5_digits 25 = .ok (.istore 4, 2) := by decide +kernel
theorem dX5_digits_27 : decode cX5_digits 27 = .ok (.iload 4, 2) := by decide +kernel
theorem dX5_digits_29 : decode cX5_digits 29 = .ok (.ifCond .eq 6, 3) := by decide +kernel
theorem dX5_digits_32 : decode cX5_digits 32 = .ok (.iinc 3 1, 3) := by decide +kernel
theorem dX5_digits_35 : decode cX5_digits 35 = .ok (.lconst 0, 1) := by decide +kernel
theorem dX5_digits_36 : decode cX5_digits 36 = .ok (.lstore 5, 2) := by decide +kernel
theorem dX5_digits_38 : decode cX5_digits 38 = .ok (.iconst 0, 1) := by decide +kernel
theorem dX5_digits_39 : decode cX5_digits 39 = .ok (.istore 7, 2) := by decide +kernel
theorem dX5_digits_41 : decode cX5_digits 41 = .ok (.iconst (-1), 1) := by decide +kernel
theorem dX5_digits_42 : decode cX5_digits 42 = .ok (.istore 8, 2) := by decide +kernel
theorem dX5_digits_44 : decode cX5_digits 44 = .ok (.iconst 0, 1) := by decide +kernel
theorem dX5_digits_45 : decode cX5_digits 45 = .ok (.istore 9, 2) := by decide +kernel
theorem dX5_digits_47 : decode cX5_digits 47 = .ok (.iload 9, 2) := by decide +kernel
theorem dX5_digits_49 : decode cX5_digits 49 = .ok (.sipush 160, 3) := by decide +kernel
theorem dX5_digits_52 : decode cX5_digits 52 = .ok (.if_icmp .ge 87, 3) := by decide +kernel
theorem dX5_digits_55 : decode cX5_digits 55 = .ok (.aload_n 0, 1) := by decide +kernel
theorem dX5_digits_56 : decode cX5_digits 56 = .ok (.iload_n 2, 1) := by decide +kernel
theorem dX5_digits_57 : decode cX5_digits 57 = .ok (.iload_n 3, 1) := by decide +kernel
theorem dX5_digits_58 : decode cX5_digits 58 = .ok (.invokevirtual 120, 3) := by decide +kernel
theorem dX5_digits_61 : decode cX5_digits 61 = .ok (.istore 10, 2) := by decide +kernel
theorem dX5_digits_63 : decode cX5_digits 63 = .ok (.iload 10, 2) := by decide +kernel
theorem dX5_digits_65 : decode cX5_digits 65 = .ok (.bipush 46, 2) := by decide +kernel
theorem dX5_digits_67 : decode cX5_digits 67 = .ok (.if_icmp .ne 14, 3) := by decide +kernel
theorem dX5_digits_70 : decode cX5_digits 70 = .ok (.iload 8, 2) := by decide +kernel
theorem dX5_digits_72 : decode cX5_digits 72 = .ok (.ifCond .ge 9, 3) := by decide +kernel
theorem dX5_digits_75 : decode cX5_digits 75 = .ok (.iconst 0, 1) := by decide +kernel
theorem dX5_digits_76 : decode cX5_digits 76 = .ok (.istore 8, 2) := by decide +kernel
theorem dX5_digits_78 : decode cX5_digits 78 = .ok (.goto 52, 3) := by decide +kernel
theorem dX5_digits_81 : decode cX5_digits 81 = .ok (.iload 10, 2) := by decide +kernel
theorem dX5_digits_83 : decode cX5_digits 83 = .ok (.i2l, 1) := by decide +kernel
theorem dX5_digits_84 : decode cX5_digits 84 = .ok (.ldc2_w 123, 3) := by decide +kernel
theorem dX5_digits_87 : decode cX5_digits 87 = .ok (.ldc2_w 125, 3) := by decide +kernel
theorem dX5_digits_90 : decode cX5_digits 90 = .ok (.invokestatic 127, 3) := by decide +kernel
theorem dX5_digits_93 : decode cX5_digits 93 = .ok (.ifCond .eq 46, 3) := by decide +kernel
theorem dX5_digits_96 : decode cX5_digits 96 = .ok (.iload 7, 2) := by decide +kernel
theorem dX5_digits_98 : decode cX5_digits 98 = .ok (.bipush 18, 2) := by decide +kernel
theorem dX5_digits_100 : decode cX5_digits 100 = .ok (.if_icmp .ge 19, 3) := by decide +kernel
theorem dX5_digits_103 : decode cX5_digits 103 = .ok (.ldc2_w 69, 3) := by decide +kernel
theorem dX5_digits_106 : decode cX5_digits 106 = .ok (.lload 5, 2) := by decide +kernel
theorem dX5_digits_108 : decode cX5_digits 108 = .ok (.lmul, 1) := by decide +kernel
theorem dX5_digits_109 : decode cX5_digits 109 = .ok (.iload 10, 2) := by decide +kernel
theorem dX5_digits_111 : decode cX5_digits 111 = .ok (.i2l, 1) := by decide +kernel
theorem dX5_digits_112 : decode cX5_digits 112 = .ok (.ladd, 1) := by decide +kernel
theorem dX5_digits_113 : decode cX5_digits 113 = .ok (.ldc2_w 123, 3) := by decide +kernel
theorem dX5_digits_116 : decode cX5_digits 116 = .ok (.lsub, 1) := by decide +kernel
theorem dX5_digits_117 : decode cX5_digits 117 = .ok (.lstore 5, 2) := by decide +kernel
theorem dX5_digits_119 : decode cX5_digits 119 = .ok (.iinc 7 1, 3) := by decide +kernel
theorem dX5_digits_122 : decode cX5_digits 122 = .ok (.iload 8, 2) := by decide +kernel
theorem dX5_digits_124 : decode cX5_digits 124 = .ok (.ifCond .lt 6, 3) := by decide +kernel
theorem dX5_digits_127 : decode cX5_digits 127 = .ok (.iinc 8 1, 3) := by decide +kernel
theorem dX5_digits_130 : decode cX5_digits 130 = .ok (.iinc 3 1, 3) := by decide +kernel
theorem dX5_digits_133 : decode cX5_digits 133 = .ok (.iinc 9 1, 3) := by decide +kernel
theorem dX5_digits_136 : decode cX5_digits 136 = .ok (.goto (-89), 3) := by decide +kernel
theorem dX5_digits_139 : decode cX5_digits 139 = .ok (.iload 7, 2) := by decide +kernel
theorem dX5_digits_141 : decode cX5_digits 141 = .ok (.iconst 1, 1) := by decide +kernel
theorem dX5_digits_142 : decode cX5_digits 142 = .ok (.if_icmp .lt 17, 3) := by decide +kernel
theorem dX5_digits_145 : decode cX5_digits 145 = .ok (.iload 7, 2) := by decide +kernel
theorem dX5_digits_147 : decode cX5_digits 147 = .ok (.bipush 18, 2) := by decide +kernel
theorem dX5_digits_149 : decode cX5_digits 149 = .ok (.if_icmp .gt 10, 3) := by decide +kernel
theorem dX5_digits_152 : decode cX5_digits 152 = .ok (.iload 8, 2) := by decide +kernel
theorem dX5_digits_154 : decode cX5_digits 154 = .ok (.bipush 9, 2) := by decide +kernel
theorem dX5_digits_156 : decode cX5_digits 156 = .ok (.if_icmp .le 9, 3) := by decide +kernel
theorem dX5_digits_159 : decode cX5_digits 159 = .ok (.aload_n 0, 1) := by decide +kernel
theorem dX5_digits_160 : decode cX5_digits 160 = .ok (.iconst 1, 1) := by decide +kernel
theorem dX5_digits_161 : decode cX5_digits 161 = .ok (.invokevirtual 54, 3) := by decide +kernel
theorem dX5_digits_164 : decode cX5_digits 164 = .ok (.ireturn, 1) := by decide +kernel
theorem dX5_digits_165 : decode cX5_digits 165 = .ok (.aload_n 0, 1) := by decide +kernel
theorem dX5_digits_166 : decode cX5_digits 166 = .ok (.invokevirtual 131, 3) := by decide +kernel
theorem dX5_digits_169 : decode cX5_digits 169 = .ok (.ifCond .ne 5, 3) := by decide +kernel
theorem dX5_digits_172 : decode cX5_digits 172 = .ok (.iconst 0, 1) := by decide +kernel
theorem dX5_digits_173 : decode cX5_digits 173 = .ok (.ireturn, 1) := by decide +kernel
theorem dX5_digits_174 : decode cX5_digits 174 = .ok (.aload_n 0, 1) := by decide +kernel
theorem dX5_digits_175 : decode cX5_digits 175 = .ok (.iconst 0, 1) := by decide +kernel
theorem dX5_digits_176 : decode cX5_digits 176 = .ok (.iload 4, 2) := by decide +kernel
theorem dX5_digits_178 : decode cX5_digits 178 = .ok (.ifCond .eq 9, 3) := by decide +kernel
theorem dX5_digits_181 : decode cX5_digits 181 = .ok (.lload 5, 2) := by decide +kernel
theorem dX5_digits_183 : decode cX5_digits 183 = .ok (.lneg, 1) := by decide +kernel
theorem dX5_digits_184 : decode cX5_digits 184 = .ok (.goto 5, 3) := by decide +kernel
theorem dX5_digits_187 : decode cX5_digits 187 = .ok (.lload 5, 2) := by decide +kernel
theorem dX5_digits_189 : decode cX5_digits 189 = .ok (.iload 8, 2) := by decide +kernel
theorem dX5_digits_191 : decode cX5_digits 191 = .ok (.ifCond .ge 7, 3) := by decide +kernel
theorem dX5_digits_194 : decode cX5_digits 194 = .ok (.iconst 0, 1) := by decide +kernel
theorem dX5_digits_195 : decode cX5_digits 195 = .ok (.goto 5, 3) := by decide +kernel
theorem dX5_digits_198 : decode cX5_digits 198 = .ok (.iload 8, 2) := by decide +kernel
theorem dX5_digits_200 : decode cX5_digits 200 = .ok (.invokevirtual 134, 3) := by decide +kernel
theorem dX5_digits_203 : decode cX5_digits 203 = .ok (.aload_n 0, 1) := by decide +kernel
theorem dX5_digits_204 : decode cX5_digits 204 = .ok (.getfield 32, 3) := by decide +kernel
theorem dX5_digits_207 : decode cX5_digits 207 = .ok (.iload_n 2, 1) := by decide +kernel
theorem dX5_digits_208 : decode cX5_digits 208 = .ok (.iload_n 3, 1) := by decide +kernel
theorem dX5_digits_209 : decode cX5_digits 209 = .ok (.iastore, 1) := by decide +kernel
theorem dX5_digits_210 : decode cX5_digits 210 = .ok (.iconst 1, 1) := by decide +kernel
theorem dX5_digits_211 : decode cX5_digits 211 = .ok (.ireturn, 1) := by decide +kernel
set_option maxRecDepth 20000 in
theorem ggX5_brackets_X5_fail : GoodIn wsX5_brackets wsX5_fail := goodIn_r _ [11, 12, 23, 24, 25, 26, 27, 28, 29, 30, 31, 32, 33, 34, 35, 36, 37, 38, 39, 40, 41, 42, 43] (by decide +kernel) (by decide +kernel)
set_option maxRecDepth 20000 in
theorem gX5_brackets_X5_fail : GoodIn wsX5_brackets (wsV RX5 54 RX5 yX5_fail wsX5_fail) := goodIn_app (goodIn_of _ (by decide +kernel)) ggX5_brackets_X5_fail
set_option maxRecDepth 20000 in
theorem ggX5_brackets_X5_room : GoodIn wsX5_brackets wsX5_room := goodIn_r _ [16, 5, 7, 8, 9, 10, 11, 12, 23, 24, 25, 26, 27, 28, 29, 30, 31, 32, 33, 34, 35, 36, 37, 38, 39, 40, 41, 42, 43] (by decide +kernel) (by decide +kernel)
set_option maxRecDepth 20000 in
theorem gX5_brackets_X5_room : GoodIn wsX5_brackets (wsV RX5 131 RX5 yX5_room wsX5_room) := goodIn_app (goodIn_of _ (by decide +kernel)) ggX5_brackets_X5_room
set_option maxRecDepth 20000 in
theorem ggX5_brackets_X5_put : GoodIn wsX5_brackets wsX5_put := goodIn_r _ [20, 5, 21, 22, 23, 24, 25, 26, 27, 28, 29, 30, 31, 32, 33, 34, 35, 36, 37, 38, 39, 40, 41, 42, 43] (by decide +kernel) (by decide +kernel)
set_option maxRecDepth 20000 in
theorem gX5_brackets_X5_put : GoodIn wsX5_brackets (wsV RX5 134 RX5 yX5_put wsX5_put) := goodIn_app (goodIn_of _ (by decide +kernel)) ggX5_brackets_X5_put
theorem dX5_brackets_0 : decode cX5_brackets 0 = .ok (.aload_n 0, 1) := by decide +kernel
theorem dX5_brackets_1 : decode cX5_brackets 1 = .ok (.getfield 111, 3) := by decide +kernel
theorem dX5_brackets_4 : decode cX5_brackets 4 = .ok (.iconst 1, 1) := by decide +kernel
theorem dX5_brackets_5 : decode cX5_brackets 5 = .ok (.isub, 1) := by decide +kernel
theorem dX5_brackets_6 : decode cX5_brackets 6 = .ok (.istore_n 2, 1) := by decide +kernel
theorem dX5_brackets_7 : decode cX5_brackets 7 = .ok (.iconst 1, 1) := by decide +kernel
theorem dX5_brackets_8 : decode cX5_brackets 8 = .ok (.istore_n 3, 1) := by decide +kernel
theorem dX5_brackets_9 : decode cX5_brackets 9 = .ok (.iload_n 1, 1) := by decide +kernel
theorem dX5_brackets_10 : decode cX5_brackets 10 = .ok (.iconst 1, 1) := by decide +kernel
theorem dX5_brackets_11 : decode cX5_brackets 11 = .ok (.iadd, 1) := by decide +kernel
theorem dX5_brackets_12 : decode cX5_brackets 12 = .ok (.istore 4, 2) := by decide +kernel
theorem dX5_brackets_14 : decode cX5_brackets 14 = .ok (.iload 4, 2) := by decide +kernel
theorem dX5_brackets_16 : decode cX5_brackets 16 = .ok (.aload_n 0, 1) := by decide +kernel
theorem dX5_brackets_17 : decode cX5_brackets 17 = .ok (.getfield 29, 3) := by decide +kernel
theorem dX5_brackets_20 : decode cX5_brackets 20 = .ok (.iload_n 2, 1) := by decide +kernel
theorem dX5_brackets_21 : decode cX5_brackets 21 = .ok (.iaload, 1) := by decide +kernel
theorem dX5_brackets_22 : decode cX5_brackets 22 = .ok (.if_icmp .ge 48, 3) := by decide +kernel
theorem dX5_brackets_25 : decode cX5_brackets 25 = .ok (.iload_n 3, 1) := by decide +kernel
theorem dX5_brackets_26 : decode cX5_brackets 26 = .ok (.ifCond .le 44, 3) := by decide +kernel
theorem dX5_brackets_29 : decode cX5_brackets 29 = .ok (.aload_n 0, 1) := by decide +kernel
theorem dX5_brackets_30 : decode cX5_brackets 30 = .ok (.getfield 26, 3) := by decide +kernel
theorem dX5_brackets_33 : decode cX5_brackets 33 = .ok (.sipush 160, 3) := by decide +kernel
theorem dX5_brackets_36 : decode cX5_brackets 36 = .ok (.iload_n 2, 1) := by decide +kernel
theorem dX5_brackets_37 : decode cX5_brackets 37 = .ok (.imul, 1) := by decide +kernel
theorem dX5_brackets_38 : decode cX5_brackets 38 = .ok (.iload 4, 2) := by decide +kernel
theorem dX5_brackets_40 : decode cX5_brackets 40 = .ok (.iadd, 1) := by decide +kernel
theorem dX5_brackets_41 : decode cX5_brackets 41 = .ok (.iaload, 1) := by decide +kernel
theorem dX5_brackets_42 : decode cX5_brackets 42 = .ok (.istore 5, 2) := by decide +kernel
theorem dX5_brackets_44 : decode cX5_brackets 44 = .ok (.iload 5, 2) := by decide +kernel
theorem dX5_brackets_46 : decode cX5_brackets 46 = .ok (.bipush 91, 2) := by decide +kernel
theorem dX5_brackets_48 : decode cX5_brackets 48 = .ok (.if_icmp .ne 6, 3) := by decide +kernel
theorem dX5_brackets_51 : decode cX5_brackets 51 = .ok (.iinc 3 1, 3) := by decide +kernel
theorem dX5_brackets_54 : decode cX5_brackets 54 = .ok (.iload 5, 2) := by decide +kernel
theorem dX5_brackets_56 : decode cX5_brackets 56 = .ok (.bipush 93, 2) := by decide +kernel
theorem dX5_brackets_58 : decode cX5_brackets 58 = .ok (.if_icmp .ne 6, 3) := by decide +kernel
theorem dX5_brackets_61 : decode cX5_brackets 61 = .ok (.iinc 3 (-1), 3) := by decide +kernel
theorem dX5_brackets_64 : decode cX5_brackets 64 = .ok (.iinc 4 1, 3) := by decide +kernel
theorem dX5_brackets_67 : decode cX5_brackets 67 = .ok (.goto (-53), 3) := by decide +kernel
theorem dX5_brackets_70 : decode cX5_brackets 70 = .ok (.iload_n 3, 1) := by decide +kernel
theorem dX5_brackets_71 : decode cX5_brackets 71 = .ok (.ifCond .le 9, 3) := by decide +kernel
theorem dX5_brackets_74 : decode cX5_brackets 74 = .ok (.aload_n 0, 1) := by decide +kernel
theorem dX5_brackets_75 : decode cX5_brackets 75 = .ok (.iconst 1, 1) := by decide +kernel
theorem dX5_brackets_76 : decode cX5_brackets 76 = .ok (.invokevirtual 54, 3) := by decide +kernel
end
section
theorem dX5_brackets_79 : decode cX5_brackets 79 = .ok (.ireturn, 1) := by decide +kernel
theorem dX5_brackets_80 : decode cX5_brackets 80 = .ok (.aload_n 0, 1) := by decide +kernel
theorem dX5_brackets_81 : decode cX5_brackets 81 = .ok (.invokevirtual 131, 3) := by decide +kernel
theorem dX5_brackets_84 : decode cX5_brackets 84 = .ok (.ifCond .ne 5, 3) := by decide +kernel
theorem dX5_brackets_87 : decode cX5_brackets 87 = .ok (.iconst 0, 1) := by decide +kernel
theorem dX5_brackets_88 : decode cX5_brackets 88 = .ok (.ireturn, 1) := by decide +kernel
theorem dX5_brackets_89 : decode cX5_brackets 89 = .ok (.iload 4, 2) := by decide +kernel
theorem dX5_brackets_91 : decode cX5_brackets 91 = .ok (.iload_n 1, 1) := by decide +kernel
theorem dX5_brackets_92 : decode cX5_brackets 92 = .ok (.isub, 1) := by decide +kernel
theorem dX5_brackets_93 : decode cX5_brackets 93 = .ok (.iconst 2, 1) := by decide +kernel
theorem dX5_brackets_94 : decode cX5_brackets 94 = .ok (.isub, 1) := by decide +kernel
theorem dX5_brackets_95 : decode cX5_brackets 95 = .ok (.istore 5, 2) := by decide +kernel
theorem dX5_brackets_97 : decode cX5_brackets 97 = .ok (.iconst 0, 1) := by decide +kernel
theorem dX5_brackets_98 : decode cX5_brackets 98 = .ok (.istore 6, 2) := by decide +kernel
theorem dX5_brackets_100 : decode cX5_brackets 100 = .ok (.iload 6, 2) := by decide +kernel
theorem dX5_brackets_102 : decode cX5_brackets 102 = .ok (.iload 5, 2) := by decide +kernel
theorem dX5_brackets_104 : decode cX5_brackets 104 = .ok (.if_icmp .ge 42, 3) := by decide +kernel
theorem dX5_brackets_107 : decode cX5_brackets 107 = .ok (.aload_n 0, 1) := by decide +kernel
theorem dX5_brackets_108 : decode cX5_brackets 108 = .ok (.getfield 20, 3) := by decide +kernel
theorem dX5_brackets_111 : decode cX5_brackets 111 = .ok (.sipush 160, 3) := by decide +kernel
theorem dX5_brackets_114 : decode cX5_brackets 114 = .ok (.aload_n 0, 1) := by decide +kernel
theorem dX5_brackets_115 : decode cX5_brackets 115 = .ok (.getfield 51, 3) := by decide +kernel
theorem dX5_brackets_118 : decode cX5_brackets 118 = .ok (.imul, 1) := by decide +kernel
theorem dX5_brackets_119 : decode cX5_brackets 119 = .ok (.iload 6, 2) := by decide +kernel
theorem dX5_brackets_121 : decode cX5_brackets 121 = .ok (.iadd, 1) := by decide +kernel
theorem dX5_brackets_122 : decode cX5_brackets 122 = .ok (.aload_n 0, 1) := by decide +kernel
theorem dX5_brackets_123 : decode cX5_brackets 123 = .ok (.getfield 26, 3) := by decide +kernel
theorem dX5_brackets_126 : decode cX5_brackets 126 = .ok (.sipush 160, 3) := by decide +kernel
theorem dX5_brackets_129 : decode cX5_brackets 129 = .ok (.iload_n 2, 1) := by decide +kernel
theorem dX5_brackets_130 : decode cX5_brackets 130 = .ok (.imul, 1) := by decide +kernel
theorem dX5_brackets_131 : decode cX5_brackets 131 = .ok (.iload_n 1, 1) := by decide +kernel
theorem dX5_brackets_132 : decode cX5_brackets 132 = .ok (.iadd, 1) := by decide +kernel
theorem dX5_brackets_133 : decode cX5_brackets 133 = .ok (.iconst 1, 1) := by decide +kernel
theorem dX5_brackets_134 : decode cX5_brackets 134 = .ok (.iadd, 1) := by decide +kernel
theorem dX5_brackets_135 : decode cX5_brackets 135 = .ok (.iload 6, 2) := by decide +kernel
theorem dX5_brackets_137 : decode cX5_brackets 137 = .ok (.iadd, 1) := by decide +kernel
theorem dX5_brackets_138 : decode cX5_brackets 138 = .ok (.iaload, 1) := by decide +kernel
theorem dX5_brackets_139 : decode cX5_brackets 139 = .ok (.iastore, 1) := by decide +kernel
theorem dX5_brackets_140 : decode cX5_brackets 140 = .ok (.iinc 6 1, 3) := by decide +kernel
theorem dX5_brackets_143 : decode cX5_brackets 143 = .ok (.goto (-43), 3) := by decide +kernel
theorem dX5_brackets_146 : decode cX5_brackets 146 = .ok (.aload_n 0, 1) := by decide +kernel
theorem dX5_brackets_147 : decode cX5_brackets 147 = .ok (.iconst 0, 1) := by decide +kernel
theorem dX5_brackets_148 : decode cX5_brackets 148 = .ok (.iload 5, 2) := by decide +kernel
theorem dX5_brackets_150 : decode cX5_brackets 150 = .ok (.i2l, 1) := by decide +kernel
theorem dX5_brackets_151 : decode cX5_brackets 151 = .ok (.iconst (-1), 1) := by decide +kernel
theorem dX5_brackets_152 : decode cX5_brackets 152 = .ok (.invokevirtual 134, 3) := by decide +kernel
theorem dX5_brackets_155 : decode cX5_brackets 155 = .ok (.aload_n 0, 1) := by decide +kernel
theorem dX5_brackets_156 : decode cX5_brackets 156 = .ok (.getfield 32, 3) := by decide +kernel
theorem dX5_brackets_159 : decode cX5_brackets 159 = .ok (.iload_n 2, 1) := by decide +kernel
theorem dX5_brackets_160 : decode cX5_brackets 160 = .ok (.iload 4, 2) := by decide +kernel
theorem dX5_brackets_162 : decode cX5_brackets 162 = .ok (.iastore, 1) := by decide +kernel
theorem dX5_brackets_163 : decode cX5_brackets 163 = .ok (.iconst 1, 1) := by decide +kernel
theorem dX5_brackets_164 : decode cX5_brackets 164 = .ok (.ireturn, 1) := by decide +kernel
set_option maxRecDepth 20000 in
theorem ggX5_calculates_X5_sum : GoodIn wsX5_calculates wsX5_sum := goodIn_r _ [12, 3, 2, 7, 1, 13, 6, 14, 15, 16, 11, 17, 18, 19, 20, 21, 22, 23, 24, 25, 26, 27, 28, 29, 30, 31, 32, 33, 34, 35, 36, 37, 38, 39, 40, 73, 74, 75, 76, 77, 78, 79, 80, 81, 82, 83, 84, 85, 86, 87, 88, 89, 90, 91, 92, 93] (by decide +kernel) (by decide +kernel)
set_option maxRecDepth 20000 in
theorem gX5_calculates_X5_sum : GoodIn wsX5_calculates (wsV RX5 138 RX5 yX5_sum wsX5_sum) := goodIn_app (goodIn_of _ (by decide +kernel)) ggX5_calculates_X5_sum
set_option maxRecDepth 20000 in
theorem ggX5_calculates_X5_times : GoodIn wsX5_calculates wsX5_times := goodIn_r _ [44, 3, 2, 5, 7, 1, 6, 13, 14, 15, 16, 11, 17, 18, 19, 20, 21, 22, 23, 24, 25, 26, 27, 28, 45, 46, 47, 48, 39, 49, 50, 51, 35, 73, 74, 75, 76, 77, 78, 79, 80, 81, 82, 83, 84, 85, 86, 87, 88, 89, 90, 91, 92, 93] (by decide +kernel) (by decide +kernel)
set_option maxRecDepth 20000 in
theorem gX5_calculates_X5_times : GoodIn wsX5_calculates (wsV RX5 142 RX5 yX5_times wsX5_times) := goodIn_app (goodIn_of _ (by decide +kernel)) ggX5_calculates_X5_times
set_option maxRecDepth 20000 in
theorem ggX5_calculates_X5_quotient : GoodIn wsX5_calculates wsX5_quotient := goodIn_r _ [55, 1, 2, 5, 3, 13, 6, 7, 14, 15, 16, 11, 17, 18, 19, 20, 21, 22, 23, 24, 25, 29, 30, 31, 32, 33, 34, 35, 73, 74, 75, 76, 77, 78, 79, 80, 81, 82, 83, 84, 85, 86, 87, 88, 89, 90, 91, 92, 93] (by decide +kernel) (by decide +kernel)
set_option maxRecDepth 20000 in
theorem gX5_calculates_X5_quotient : GoodIn wsX5_calculates (wsV RX5 103 RX5 yX5_quotient wsX5_quotient) := goodIn_app (goodIn_of _ (by decide +kernel)) ggX5_calculates_X5_quotient
set_option maxRecDepth 20000 in
theorem ggX5_calculates_X5_rest : GoodIn wsX5_calculates wsX5_rest := goodIn_r _ [59, 5, 3, 2, 7, 6, 1, 13, 52, 53, 54, 11, 55, 14, 15, 16, 17, 18, 19, 20, 21, 22, 23, 24, 25, 29, 30, 31, 32, 33, 34, 35, 26, 27, 28, 45, 46, 47, 48, 39, 36, 37, 38, 40, 73, 74, 75, 76, 77, 78, 79, 80, 81, 82, 83, 84, 85, 86, 87, 88, 89, 90, 91, 92, 93] (by decide +kernel) (by decide +kernel)
set_option maxRecDepth 20000 in
theorem gX5_calculates_X5_rest : GoodIn wsX5_calculates (wsV RX5 145 RX5 yX5_rest wsX5_rest) := goodIn_app (goodIn_of _ (by decide +kernel)) ggX5_calculates_X5_rest
set_option maxRecDepth 20000 in
theorem ggX5_calculates_X5_root : GoodIn wsX5_calculates wsX5_root := goodIn_r _ [63, 1, 2, 5, 3, 7, 13, 64, 65, 6, 14, 15, 16, 11, 17, 18, 19, 20, 21, 22, 23, 24, 25, 26, 27, 28, 29, 30, 31, 32, 33, 34, 35, 73, 74, 75, 76, 77, 78, 79, 80, 81, 82, 83, 84, 85, 86, 87, 88, 89, 90, 91, 92, 93] (by decide +kernel) (by decide +kernel)
set_option maxRecDepth 20000 in
theorem gX5_calculates_X5_root : GoodIn wsX5_calculates (wsV RX5 148 RX5 yX5_root wsX5_root) := goodIn_app (goodIn_of _ (by decide +kernel)) ggX5_calculates_X5_root
set_option maxRecDepth 20000 in
theorem ggX5_calculates_X5_numbers : GoodIn wsX5_calculates wsX5_numbers := goodIn_r _ [17, 3, 2, 18, 19, 20, 11, 21, 22, 23, 24, 25, 13, 73, 74, 75, 76, 77, 78, 79, 80, 81, 82, 83, 84, 85, 86, 87, 88, 89, 90, 91, 92, 93] (by decide +kernel) (by decide +kernel)
set_option maxRecDepth 20000 in
theorem gX5_calculates_X5_numbers : GoodIn wsX5_calculates (wsV RX5 71 RX5 yX5_numbers wsX5_numbers) := goodIn_app (goodIn_of _ (by decide +kernel)) ggX5_calculates_X5_numbers
set_option maxRecDepth 20000 in
theorem ggX5_calculates_X5_put : GoodIn wsX5_calculates wsX5_put := goodIn_r _ [69, 2, 1, 3, 73, 74, 75, 76, 77, 78, 79, 80, 81, 82, 83, 84, 85, 86, 87, 88, 89, 90, 91, 92, 93] (by decide +kernel) (by decide +kernel)
set_option maxRecDepth 20000 in
theorem gX5_calculates_X5_put : GoodIn wsX5_calculates (wsV RX5 134 RX5 yX5_put wsX5_put) := goodIn_app (goodIn_of _ (by decide +kernel)) ggX5_calculates_X5_put
set_option maxRecDepth 20000 in
theorem ggX5_calculates_X5_cut : GoodIn wsX5_calculates wsX5_cut := goodIn_r _ [51, 35] (by decide +kernel) (by decide +kernel)
set_option maxRecDepth 20000 in
theorem gX5_calculates_X5_cut : GoodIn wsX5_calculates (va_wsS RX5 100 yX5_cut wsX5_cut) := goodIn_app (goodIn_of _ (by decide +kernel)) ggX5_calculates_X5_cut
set_option maxRecDepth 20000 in
theorem ggX5_calculates_X5_raised : GoodIn wsX5_calculates wsX5_raised := goodIn_r _ [32, 13, 33, 34, 35, 73, 74, 75, 76, 77, 78, 79, 80, 81, 82, 83, 84, 85, 86, 87, 88, 89, 90, 91, 92, 93] (by decide +kernel) (by decide +kernel)
set_option maxRecDepth 20000 in
theorem gX5_calculates_X5_raised : GoodIn wsX5_calculates (wsV RX5 81 RX5 yX5_raised wsX5_raised) := goodIn_app (goodIn_of _ (by decide +kernel)) ggX5_calculates_X5_raised
set_option maxRecDepth 20000 in
theorem ggX5_calculates_X5_within : GoodIn wsX5_calculates wsX5_within := goodIn_r _ [72] (by decide +kernel) (by decide +kernel)
set_option maxRecDepth 20000 in
theorem gX5_calculates_X5_within : GoodIn wsX5_calculates (va_wsS RX5 127 yX5_within wsX5_within) := goodIn_app (goodIn_of _ (by decide +kernel)) ggX5_calculates_X5_within
set_option maxRecDepth 20000 in
theorem ggX5_calculates_X5_fail : GoodIn wsX5_calculates wsX5_fail := goodIn_r _ [25, 13, 73, 74, 75, 76, 77, 78, 79, 80, 81, 82, 83, 84, 85, 86, 87, 88, 89, 90, 91, 92, 93] (by decide +kernel) (by decide +kernel)
set_option maxRecDepth 20000 in
theorem gX5_calculates_X5_fail : GoodIn wsX5_calculates (wsV RX5 54 RX5 yX5_fail wsX5_fail) := goodIn_app (goodIn_of _ (by decide +kernel)) ggX5_calculates_X5_fail
theorem dX5_calculates_0 : decode cX5_calculates 0 = .ok (.iload_n 1, 1) := by decide +kernel
theorem dX5_calculates_1 : decode cX5_calculates 1 = .ok (.bipush 43, 2) := by decide +kernel
theorem dX5_calculates_3 : decode cX5_calculates 3 = .ok (.if_icmp .eq 9, 3) := by decide +kernel
theorem dX5_calculates_6 : decode cX5_calculates 6 = .ok (.iload_n 1, 1) := by decide +kernel
theorem dX5_calculates_7 : decode cX5_calculates 7 = .ok (.bipush 45, 2) := by decide +kernel
theorem dX5_calculates_9 : decode cX5_calculates 9 = .ok (.if_icmp .ne 21, 3) := by decide +kernel
theorem dX5_calculates_12 : decode cX5_calculates 12 = .ok (.aload_n 0, 1) := by decide +kernel
theorem dX5_calculates_13 : decode cX5_calculates 13 = .ok (.iload_n 1, 1) := by decide +kernel
theorem dX5_calculates_14 : decode cX5_calculates 14 = .ok (.bipush 45, 2) := by decide +kernel
theorem dX5_calculates_16 : decode cX5_calculates 16 = .ok (.if_icmp .ne 7, 3) := by decide +kernel
theorem dX5_calculates_19 : decode cX5_calculates 19 = .ok (.iconst 1, 1) := by decide +kernel
theorem dX5_calculates_20 : decode cX5_calculates 20 = .ok (.goto 4, 3) := by decide +kernel
theorem dX5_calculates_23 : decode cX5_calculates 23 = .ok (.iconst 0, 1) := by decide +kernel
theorem dX5_calculates_24 : decode cX5_calculates 24 = .ok (.invokevirtual 138, 3) := by decide +kernel
theorem dX5_calculates_27 : decode cX5_calculates 27 = .ok (.goto 60, 3) := by decide +kernel
theorem dX5_calculates_30 : decode cX5_calculates 30 = .ok (.iload_n 1, 1) := by decide +kernel
theorem dX5_calculates_31 : decode cX5_calculates 31 = .ok (.bipush 42, 2) := by decide +kernel
theorem dX5_calculates_33 : decode cX5_calculates 33 = .ok (.if_icmp .ne 10, 3) := by decide +kernel
theorem dX5_calculates_36 : decode cX5_calculates 36 = .ok (.aload_n 0, 1) := by decide +kernel
theorem dX5_calculates_37 : decode cX5_calculates 37 = .ok (.invokevirtual 142, 3) := by decide +kernel
theorem dX5_calculates_40 : decode cX5_calculates 40 = .ok (.goto 47, 3) := by decide +kernel
theorem dX5_calculates_43 : decode cX5_calculates 43 = .ok (.iload_n 1, 1) := by decide +kernel
theorem dX5_calculates_44 : decode cX5_calculates 44 = .ok (.bipush 47, 2) := by decide +kernel
theorem dX5_calculates_46 : decode cX5_calculates 46 = .ok (.if_icmp .ne 10, 3) := by decide +kernel
theorem dX5_calculates_49 : decode cX5_calculates 49 = .ok (.aload_n 0, 1) := by decide +kernel
theorem dX5_calculates_50 : decode cX5_calculates 50 = .ok (.invokevirtual 103, 3) := by decide +kernel
theorem dX5_calculates_53 : decode cX5_calculates 53 = .ok (.goto 34, 3) := by decide +kernel
theorem dX5_calculates_56 : decode cX5_calculates 56 = .ok (.iload_n 1, 1) := by decide +kernel
theorem dX5_calculates_57 : decode cX5_calculates 57 = .ok (.bipush 37, 2) := by decide +kernel
theorem dX5_calculates_59 : decode cX5_calculates 59 = .ok (.if_icmp .ne 10, 3) := by decide +kernel
theorem dX5_calculates_62 : decode cX5_calculates 62 = .ok (.aload_n 0, 1) := by decide +kernel
theorem dX5_calculates_63 : decode cX5_calculates 63 = .ok (.invokevirtual 145, 3) := by decide +kernel
theorem dX5_calculates_66 : decode cX5_calculates 66 = .ok (.goto 21, 3) := by decide +kernel
theorem dX5_calculates_69 : decode cX5_calculates 69 = .ok (.iload_n 1, 1) := by decide +kernel
theorem dX5_calculates_70 : decode cX5_calculates 70 = .ok (.bipush 118, 2) := by decide +kernel
theorem dX5_calculates_72 : decode cX5_calculates 72 = .ok (.if_icmp .ne 10, 3) := by decide +kernel
theorem dX5_calculates_75 : decode cX5_calculates 75 = .ok (.aload_n 0, 1) := by decide +kernel
theorem dX5_calculates_76 : decode cX5_calculates 76 = .ok (.invokevirtual 148, 3) := by decide +kernel
theorem dX5_calculates_79 : decode cX5_calculates 79 = .ok (.goto 8, 3) := by decide +kernel
theorem dX5_calculates_82 : decode cX5_calculates 82 = .ok (.aload_n 0, 1) := by decide +kernel
theorem dX5_calculates_83 : decode cX5_calculates 83 = .ok (.iconst 1, 1) := by decide +kernel
theorem dX5_calculates_84 : decode cX5_calculates 84 = .ok (.invokevirtual 71, 3) := by decide +kernel
theorem dX5_calculates_87 : decode cX5_calculates 87 = .ok (.istore_n 2, 1) := by decide +kernel
theorem dX5_calculates_88 : decode cX5_calculates 88 = .ok (.iload_n 2, 1) := by decide +kernel
theorem dX5_calculates_89 : decode cX5_calculates 89 = .ok (.ifCond .ne 5, 3) := by decide +kernel
theorem dX5_calculates_92 : decode cX5_calculates 92 = .ok (.iconst 0, 1) := by decide +kernel
theorem dX5_calculates_93 : decode cX5_calculates 93 = .ok (.ireturn, 1) := by decide +kernel
theorem dX5_calculates_94 : decode cX5_calculates 94 = .ok (.iload_n 1, 1) := by decide +kernel
theorem dX5_calculates_95 : decode cX5_calculates 95 = .ok (.bipush 126, 2) := by decide +kernel
theorem dX5_calculates_97 : decode cX5_calculates 97 = .ok (.if_icmp .ne 34, 3) := by decide +kernel
theorem dX5_calculates_100 : decode cX5_calculates 100 = .ok (.aload_n 0, 1) := by decide +kernel
theorem dX5_calculates_101 : decode cX5_calculates 101 = .ok (.iconst 1, 1) := by decide +kernel
theorem dX5_calculates_102 : decode cX5_calculates 102 = .ok (.aload_n 0, 1) := by decide +kernel
theorem dX5_calculates_103 : decode cX5_calculates 103 = .ok (.getfield 13, 3) := by decide +kernel
theorem dX5_calculates_106 : decode cX5_calculates 106 = .ok (.aload_n 0, 1) := by decide +kernel
theorem dX5_calculates_107 : decode cX5_calculates 107 = .ok (.getfield 51, 3) := by decide +kernel
theorem dX5_calculates_110 : decode cX5_calculates 110 = .ok (.iconst 1, 1) := by decide +kernel
theorem dX5_calculates_111 : decode cX5_calculates 111 = .ok (.isub, 1) := by decide +kernel
theorem dX5_calculates_112 : decode cX5_calculates 112 = .ok (.laload, 1) := by decide +kernel
theorem dX5_calculates_113 : decode cX5_calculates 113 = .ok (.lneg, 1) := by decide +kernel
theorem dX5_calculates_114 : decode cX5_calculates 114 = .ok (.aload_n 0, 1) := by decide +kernel
theorem dX5_calculates_115 : decode cX5_calculates 115 = .ok (.getfield 17, 3) := by decide +kernel
theorem dX5_calculates_118 : decode cX5_calculates 118 = .ok (.aload_n 0, 1) := by decide +kernel
theorem dX5_calculates_119 : decode cX5_calculates 119 = .ok (.getfield 51, 3) := by decide +kernel
theorem dX5_calculates_122 : decode cX5_calculates 122 = .ok (.iconst 1, 1) := by decide +kernel
theorem dX5_calculates_123 : decode cX5_calculates 123 = .ok (.isub, 1) := by decide +kernel
theorem dX5_calculates_124 : decode cX5_calculates 124 = .ok (.iaload, 1) := by decide +kernel
theorem dX5_calculates_125 : decode cX5_calculates 125 = .ok (.invokevirtual 134, 3) := by decide +kernel
theorem dX5_calculates_128 : decode cX5_calculates 128 = .ok (.goto 143, 3) := by decide +kernel
theorem dX5_calculates_131 : decode cX5_calculates 131 = .ok (.iload_n 1, 1) := by decide +kernel
theorem dX5_calculates_132 : decode cX5_calculates 132 = .ok (.bipush 88, 2) := by decide +kernel
theorem dX5_calculates_134 : decode cX5_calculates 134 = .ok (.if_icmp .ne 24, 3) := by decide +kernel
theorem dX5_calculates_137 : decode cX5_calculates 137 = .ok (.aload_n 0, 1) := by decide +kernel
theorem dX5_calculates_138 : decode cX5_calculates 138 = .ok (.iconst 1, 1) := by decide +kernel
theorem dX5_calculates_139 : decode cX5_calculates 139 = .ok (.aload_n 0, 1) := by decide +kernel
theorem dX5_calculates_140 : decode cX5_calculates 140 = .ok (.getfield 17, 3) := by decide +kernel
theorem dX5_calculates_143 : decode cX5_calculates 143 = .ok (.aload_n 0, 1) := by decide +kernel
theorem dX5_calculates_144 : decode cX5_calculates 144 = .ok (.getfield 51, 3) := by decide +kernel
theorem dX5_calculates_147 : decode cX5_calculates 147 = .ok (.iconst 1, 1) := by decide +kernel
theorem dX5_calculates_148 : decode cX5_calculates 148 = .ok (.isub, 1) := by decide +kernel
theorem dX5_calculates_149 : decode cX5_calculates 149 = .ok (.iaload, 1) := by decide +kernel
theorem dX5_calculates_150 : decode cX5_calculates 150 = .ok (.i2l, 1) := by decide +kernel
theorem dX5_calculates_151 : decode cX5_calculates 151 = .ok (.iconst 0, 1) := by decide +kernel
theorem dX5_calculates_152 : decode cX5_calculates 152 = .ok (.invokevirtual 134, 3) := by decide +kernel
theorem dX5_calculates_155 : decode cX5_calculates 155 = .ok (.goto 116, 3) := by decide +kernel
theorem dX5_calculates_158 : decode cX5_calculates 158 = .ok (.iload_n 1, 1) := by decide +kernel
theorem dX5_calculates_159 : decode cX5_calculates 159 = .ok (.bipush 107, 2) := by decide +kernel
theorem dX5_calculates_161 : decode cX5_calculates 161 = .ok (.if_icmp .ne 87, 3) := by decide +kernel
theorem dX5_calculates_164 : decode cX5_calculates 164 = .ok (.aload_n 0, 1) := by decide +kernel
theorem dX5_calculates_165 : decode cX5_calculates 165 = .ok (.getfield 13, 3) := by decide +kernel
theorem dX5_calculates_168 : decode cX5_calculates 168 = .ok (.aload_n 0, 1) := by decide +kernel
theorem dX5_calculates_169 : decode cX5_calculates 169 = .ok (.getfield 51, 3) := by decide +kernel
theorem dX5_calculates_172 : decode cX5_calculates 172 = .ok (.iconst 1, 1) := by decide +kernel
theorem dX5_calculates_173 : decode cX5_calculates 173 = .ok (.isub, 1) := by decide +kernel
theorem dX5_calculates_174 : decode cX5_calculates 174 = .ok (.laload, 1) := by decide +kernel
theorem dX5_calculates_175 : decode cX5_calculates 175 = .ok (.lstore_n 3, 1) := by decide +kernel
theorem dX5_calculates_176 : decode cX5_calculates 176 = .ok (.aload_n 0, 1) := by decide +kernel
theorem dX5_calculates_177 : decode cX5_calculates 177 = .ok (.getfield 17, 3) := by decide +kernel
theorem dX5_calculates_180 : decode cX5_calculates 180 = .ok (.aload_n 0, 1) := by decide +kernel
theorem dX5_calculates_181 : decode cX5_calculates 181 = .ok (.getfield 51, 3) := by decide +kernel
theorem dX5_calculates_184 : decode cX5_calculates 184 = .ok (.iconst 1, 1) := by decide +kernel
theorem dX5_calculates_185 : decode cX5_calculates 185 = .ok (.isub, 1) := by decide +kernel
theorem dX5_calculates_186 : decode cX5_calculates 186 = .ok (.iaload, 1) := by decide +kernel
theorem dX5_calculates_187 : decode cX5_calculates 187 = .ok (.istore 5, 2) := by decide +kernel
theorem dX5_calculates_189 : decode cX5_calculates 189 = .ok (.lload_n 3, 1) := by decide +kernel
theorem dX5_calculates_190 : decode cX5_calculates 190 = .ok (.iload 5, 2) := by decide +kernel
theorem dX5_calculates_192 : decode cX5_calculates 192 = .ok (.invokestatic 100, 3) := by decide +kernel
theorem dX5_calculates_195 : decode cX5_calculates 195 = .ok (.lstore 6, 2) := by decide +kernel
theorem dX5_calculates_197 : decode cX5_calculates 197 = .ok (.aload_n 0, 1) := by decide +kernel
theorem dX5_calculates_198 : decode cX5_calculates 198 = .ok (.lload 6, 2) := by decide +kernel
theorem dX5_calculates_200 : decode cX5_calculates 200 = .ok (.iload 5, 2) := by decide +kernel
theorem dX5_calculates_202 : decode cX5_calculates 202 = .ok (.invokevirtual 81, 3) := by decide +kernel
theorem dX5_calculates_205 : decode cX5_calculates 205 = .ok (.lload_n 3, 1) := by decide +kernel
theorem dX5_calculates_206 : decode cX5_calculates 206 = .ok (.lcmp, 1) := by decide +kernel
theorem dX5_calculates_207 : decode cX5_calculates 207 = .ok (.ifCond .ne 15, 3) := by decide +kernel
theorem dX5_calculates_210 : decode cX5_calculates 210 = .ok (.lload 6, 2) := by decide +kernel
theorem dX5_calculates_212 : decode cX5_calculates 212 = .ok (.lconst 0, 1) := by decide +kernel
theorem dX5_calculates_213 : decode cX5_calculates 213 = .ok (.ldc2_w 151, 3) := by decide +kernel
theorem dX5_calculates_216 : decode cX5_calculates 216 = .ok (.invokestatic 127, 3) := by decide +kernel
theorem dX5_calculates_219 : decode cX5_calculates 219 = .ok (.ifCond .ne 9, 3) := by decide +kernel
theorem dX5_calculates_222 : decode cX5_calculates 222 = .ok (.aload_n 0, 1) := by decide +kernel
theorem dX5_calculates_223 : decode cX5_calculates 223 = .ok (.iconst 4, 1) := by decide +kernel
theorem dX5_calculates_224 : decode cX5_calculates 224 = .ok (.invokevirtual 54, 3) := by decide +kernel
theorem dX5_calculates_227 : decode cX5_calculates 227 = .ok (.ireturn, 1) := by decide +kernel
theorem dX5_calculates_228 : decode cX5_calculates 228 = .ok (.aload_n 0, 1) := by decide +kernel
theorem dX5_calculates_229 : decode cX5_calculates 229 = .ok (.lload 6, 2) := by decide +kernel
theorem dX5_calculates_231 : decode cX5_calculates 231 = .ok (.l2i, 1) := by decide +kernel
theorem dX5_calculates_232 : decode cX5_calculates 232 = .ok (.putfield 93, 3) := by decide +kernel
theorem dX5_calculates_235 : decode cX5_calculates 235 = .ok (.aload_n 0, 1) := by decide +kernel
theorem dX5_calculates_236 : decode cX5_calculates 236 = .ok (.dup, 1) := by decide +kernel
theorem dX5_calculates_237 : decode cX5_calculates 237 = .ok (.getfield 51, 3) := by decide +kernel
theorem dX5_calculates_240 : decode cX5_calculates 240 = .ok (.iconst 1, 1) := by decide +kernel
theorem dX5_calculates_241 : decode cX5_calculates 241 = .ok (.isub, 1) := by decide +kernel
theorem dX5_calculates_242 : decode cX5_calculates 242 = .ok (.putfield 51, 3) := by decide +kernel
theorem dX5_calculates_245 : decode cX5_calculates 245 = .ok (.goto 26, 3) := by decide +kernel
theorem dX5_calculates_248 : decode cX5_calculates 248 = .ok (.aload_n 0, 1) := by decide +kernel
theorem dX5_calculates_249 : decode cX5_calculates 249 = .ok (.iload_n 1, 1) := by decide +kernel
theorem dX5_calculates_250 : decode cX5_calculates 250 = .ok (.bipush 118, 2) := by decide +kernel
theorem dX5_calculates_252 : decode cX5_calculates 252 = .ok (.if_icmp .ne 7, 3) := by decide +kernel
theorem dX5_calculates_255 : decode cX5_calculates 255 = .ok (.iconst 1, 1) := by decide +kernel
theorem dX5_calculates_256 : decode cX5_calculates 256 = .ok (.goto 4, 3) := by decide +kernel
theorem dX5_calculates_259 : decode cX5_calculates 259 = .ok (.iconst 2, 1) := by decide +kernel
theorem dX5_calculates_260 : decode cX5_calculates 260 = .ok (.aload_n 0, 1) := by decide +kernel
theorem dX5_calculates_261 : decode cX5_calculates 261 = .ok (.getfield 85, 3) := by decide +kernel
theorem dX5_calculates_264 : decode cX5_calculates 264 = .ok (.aload_n 0, 1) := by decide +kernel
theorem dX5_calculates_265 : decode cX5_calculates 265 = .ok (.getfield 78, 3) := by decide +kernel
theorem dX5_calculates_268 : decode cX5_calculates 268 = .ok (.invokevirtual 134, 3) := by decide +kernel
theorem dX5_calculates_271 : decode cX5_calculates 271 = .ok (.iconst 1, 1) := by decide +kernel
theorem dX5_calculates_272 : decode cX5_calculates 272 = .ok (.ireturn, 1) := by decide +kernel
set_option maxRecDepth 20000 in
theorem ggX5_moves_X5_room : GoodIn wsX5_moves wsX5_room := goodIn_r _ [12, 1, 13, 14, 15, 11, 16, 17, 31, 32, 33, 34, 35, 36, 37, 38, 39, 40, 41, 42, 43, 44, 45, 46, 47, 48, 49, 50, 51] (by decide +kernel) (by decide +kernel)
set_option maxRecDepth 20000 in
theorem gX5_moves_X5_room : GoodIn wsX5_moves (wsV RX5 131 RX5 yX5_room wsX5_room) := goodIn_app (goodIn_of _ (by decide +kernel)) ggX5_moves_X5_room
set_option maxRecDepth 20000 in
theorem ggX5_moves_X5_put : GoodIn wsX5_moves wsX5_put := goodIn_r _ [21, 1, 5, 7, 31, 32, 33, 34, 35, 36, 37, 38, 39, 40, 41, 42, 43, 44, 45, 46, 47, 48, 49, 50, 51] (by decide +kernel) (by decide +kernel)
set_option maxRecDepth 20000 in
theorem gX5_moves_X5_put : GoodIn wsX5_moves (wsV RX5 134 RX5 yX5_put wsX5_put) := goodIn_app (goodIn_of _ (by decide +kernel)) ggX5_moves_X5_put
set_option maxRecDepth 20000 in
theorem ggX5_moves_X5_have : GoodIn wsX5_moves wsX5_have := goodIn_r _ [25, 1, 13, 14, 15, 11, 16, 17, 31, 32, 33, 34, 35, 36, 37, 38, 39, 40, 41, 42, 43, 44, 45, 46, 47, 48, 49, 50, 51] (by decide +kernel) (by decide +kernel)
set_option maxRecDepth 20000 in
theorem gX5_moves_X5_have : GoodIn wsX5_moves (wsV RX5 58 RX5 yX5_have wsX5_have) := goodIn_app (goodIn_of _ (by decide +kernel)) ggX5_moves_X5_have
set_option maxRecDepth 20000 in
theorem ggX5_moves_X5_copy : GoodIn wsX5_moves wsX5_copy := goodIn_r _ [29, 5, 7, 30, 31, 32, 33, 34, 35, 36, 37, 38, 39, 40, 41, 42, 43, 44, 45, 46, 47, 48, 49, 50, 51] (by decide +kernel) (by decide +kernel)
set_option maxRecDepth 20000 in
theorem gX5_moves_X5_copy : GoodIn wsX5_moves (wsV RX5 153 RX5 yX5_copy wsX5_copy) := goodIn_app (goodIn_of _ (by decide +kernel)) ggX5_moves_X5_copy
theorem dX5_moves_0 : decode cX5_moves 0 = .ok (.iload_n 1, 1) := by decide +kernel
theorem dX5_moves_1 : decode cX5_moves 1 = .ok (.bipush 99, 2) := by decide +kernel
theorem dX5_moves_3 : decode cX5_moves 3 = .ok (.if_icmp .ne 10, 3) := by decide +kernel
theorem dX5_moves_6 : decode cX5_moves 6 = .ok (.aload_n 0, 1) := by decide +kernel
theorem dX5_moves_7 : decode cX5_moves 7 = .ok (.iconst 0, 1) := by decide +kernel
theorem dX5_moves_8 : decode cX5_moves 8 = .ok (.putfield 51, 3) := by decide +kernel
theorem dX5_moves_11 : decode cX5_moves 11 = .ok (.iconst 1, 1) := by decide +kernel
theorem dX5_moves_12 : decode cX5_moves 12 = .ok (.ireturn, 1) := by decide +kernel
theorem dX5_moves_13 : decode cX5_moves 13 = .ok (.iload_n 1, 1) := by decide +kernel
theorem dX5_moves_14 : decode cX5_moves 14 = .ok (.bipush 122, 2) := by decide +kernel
theorem dX5_moves_16 : decode cX5_moves 16 = .ok (.if_icmp .eq 9, 3) := by decide +kernel
theorem dX5_moves_19 : decode cX5_moves 19 = .ok (.iload_n 1, 1) := by decide +kernel
theorem dX5_moves_20 : decode cX5_moves 20 = .ok (.bipush 75, 2) := by decide +kernel
theorem dX5_moves_22 : decode cX5_moves 22 = .ok (.if_icmp .ne 39, 3) := by decide +kernel
theorem dX5_moves_25 : decode cX5_moves 25 = .ok (.aload_n 0, 1) := by decide +kernel
theorem dX5_moves_26 : decode cX5_moves 26 = .ok (.invokevirtual 131, 3) := by decide +kernel
theorem dX5_moves_29 : decode cX5_moves 29 = .ok (.ifCond .ne 5, 3) := by decide +kernel
theorem dX5_moves_32 : decode cX5_moves 32 = .ok (.iconst 0, 1) := by decide +kernel
theorem dX5_moves_33 : decode cX5_moves 33 = .ok (.ireturn, 1) := by decide +kernel
theorem dX5_moves_34 : decode cX5_moves 34 = .ok (.aload_n 0, 1) := by decide +kernel
theorem dX5_moves_35 : decode cX5_moves 35 = .ok (.iconst 0, 1) := by decide +kernel
theorem dX5_moves_36 : decode cX5_moves 36 = .ok (.iload_n 1, 1) := by decide +kernel
theorem dX5_moves_37 : decode cX5_moves 37 = .ok (.bipush 122, 2) := by decide +kernel
theorem dX5_moves_39 : decode cX5_moves 39 = .ok (.if_icmp .ne 11, 3) := by decide +kernel
theorem dX5_moves_42 : decode cX5_moves 42 = .ok (.aload_n 0, 1) := by decide +kernel
theorem dX5_moves_43 : decode cX5_moves 43 = .ok (.getfield 51, 3) := by decide +kernel
theorem dX5_moves_46 : decode cX5_moves 46 = .ok (.i2l, 1) := by decide +kernel
theorem dX5_moves_47 : decode cX5_moves 47 = .ok (.goto 8, 3) := by decide +kernel
theorem dX5_moves_50 : decode cX5_moves 50 = .ok (.aload_n 0, 1) := by decide +kernel
theorem dX5_moves_51 : decode cX5_moves 51 = .ok (.getfield 93, 3) := by decide +kernel
theorem dX5_moves_54 : decode cX5_moves 54 = .ok (.i2l, 1) := by decide +kernel
theorem dX5_moves_55 : decode cX5_moves 55 = .ok (.iconst 0, 1) := by decide +kernel
theorem dX5_moves_56 : decode cX5_moves 56 = .ok (.invokevirtual 134, 3) := by decide +kernel
theorem dX5_moves_59 : decode cX5_moves 59 = .ok (.iconst 1, 1) := by decide +kernel
theorem dX5_moves_60 : decode cX5_moves 60 = .ok (.ireturn, 1) := by decide +kernel
theorem dX5_moves_61 : decode cX5_moves 61 = .ok (.aload_n 0, 1) := by decide +kernel
theorem dX5_moves_62 : decode cX5_moves 62 = .ok (.iload_n 1, 1) := by decide +kernel
theorem dX5_moves_63 : decode cX5_moves 63 = .ok (.bipush 114, 2) := by decide +kernel
theorem dX5_moves_65 : decode cX5_moves 65 = .ok (.if_icmp .ne 7, 3) := by decide +kernel
theorem dX5_moves_68 : decode cX5_moves 68 = .ok (.iconst 2, 1) := by decide +kernel
theorem dX5_moves_69 : decode cX5_moves 69 = .ok (.goto 4, 3) := by decide +kernel
theorem dX5_moves_72 : decode cX5_moves 72 = .ok (.iconst 1, 1) := by decide +kernel
theorem dX5_moves_73 : decode cX5_moves 73 = .ok (.invokevirtual 58, 3) := by decide +kernel
theorem dX5_moves_76 : decode cX5_moves 76 = .ok (.ifCond .ne 5, 3) := by decide +kernel
theorem dX5_moves_79 : decode cX5_moves 79 = .ok (.iconst 0, 1) := by decide +kernel
theorem dX5_moves_80 : decode cX5_moves 80 = .ok (.ireturn, 1) := by decide +kernel
theorem dX5_moves_81 : decode cX5_moves 81 = .ok (.iload_n 1, 1) := by decide +kernel
theorem dX5_moves_82 : decode cX5_moves 82 = .ok (.bipush 100, 2) := by decide +kernel
theorem dX5_moves_84 : decode cX5_moves 84 = .ok (.if_icmp .ne 39, 3) := by decide +kernel
theorem dX5_moves_87 : decode cX5_moves 87 = .ok (.aload_n 0, 1) := by decide +kernel
theorem dX5_moves_88 : decode cX5_moves 88 = .ok (.invokevirtual 131, 3) := by decide +kernel
theorem dX5_moves_91 : decode cX5_moves 91 = .ok (.ifCond .ne 5, 3) := by decide +kernel
theorem dX5_moves_94 : decode cX5_moves 94 = .ok (.iconst 0, 1) := by decide +kernel
theorem dX5_moves_95 : decode cX5_moves 95 = .ok (.ireturn, 1) := by decide +kernel
theorem dX5_moves_96 : decode cX5_moves 96 = .ok (.aload_n 0, 1) := by decide +kernel
theorem dX5_moves_97 : decode cX5_moves 97 = .ok (.aload_n 0, 1) := by decide +kernel
theorem dX5_moves_98 : decode cX5_moves 98 = .ok (.getfield 51, 3) := by decide +kernel
theorem dX5_moves_101 : decode cX5_moves 101 = .ok (.iconst 1, 1) := by decide +kernel
theorem dX5_moves_102 : decode cX5_moves 102 = .ok (.isub, 1) := by decide +kernel
theorem dX5_moves_103 : decode cX5_moves 103 = .ok (.aload_n 0, 1) := by decide +kernel
theorem dX5_moves_104 : decode cX5_moves 104 = .ok (.getfield 51, 3) := by decide +kernel
theorem dX5_moves_107 : decode cX5_moves 107 = .ok (.invokevirtual 153, 3) := by decide +kernel
theorem dX5_moves_110 : decode cX5_moves 110 = .ok (.aload_n 0, 1) := by decide +kernel
theorem dX5_moves_111 : decode cX5_moves 111 = .ok (.dup, 1) := by decide +kernel
theorem dX5_moves_112 : decode cX5_moves 112 = .ok (.getfield 51, 3) := by decide +kernel
theorem dX5_moves_115 : decode cX5_moves 115 = .ok (.iconst 1, 1) := by decide +kernel
theorem dX5_moves_116 : decode cX5_moves 116 = .ok (.iadd, 1) := by decide +kernel
theorem dX5_moves_117 : decode cX5_moves 117 = .ok (.putfield 51, 3) := by decide +kernel
theorem dX5_moves_120 : decode cX5_moves 120 = .ok (.goto 130, 3) := by decide +kernel
theorem dX5_moves_123 : decode cX5_moves 123 = .ok (.iload_n 1, 1) := by decide +kernel
theorem dX5_moves_124 : decode cX5_moves 124 = .ok (.bipush 114, 2) := by decide +kernel
theorem dX5_moves_126 : decode cX5_moves 126 = .ok (.if_icmp .ne 46, 3) := by decide +kernel
theorem dX5_moves_129 : decode cX5_moves 129 = .ok (.aload_n 0, 1) := by decide +kernel
theorem dX5_moves_130 : decode cX5_moves 130 = .ok (.aload_n 0, 1) := by decide +kernel
theorem dX5_moves_131 : decode cX5_moves 131 = .ok (.getfield 51, 3) := by decide +kernel
theorem dX5_moves_134 : decode cX5_moves 134 = .ok (.iconst 1, 1) := by decide +kernel
theorem dX5_moves_135 : decode cX5_moves 135 = .ok (.isub, 1) := by decide +kernel
theorem dX5_moves_136 : decode cX5_moves 136 = .ok (.bipush 80, 2) := by decide +kernel
theorem dX5_moves_138 : decode cX5_moves 138 = .ok (.invokevirtual 153, 3) := by decide +kernel
theorem dX5_moves_141 : decode cX5_moves 141 = .ok (.aload_n 0, 1) := by decide +kernel
theorem dX5_moves_142 : decode cX5_moves 142 = .ok (.aload_n 0, 1) := by decide +kernel
theorem dX5_moves_143 : decode cX5_moves 143 = .ok (.getfield 51, 3) := by decide +kernel
theorem dX5_moves_146 : decode cX5_moves 146 = .ok (.iconst 2, 1) := by decide +kernel
theorem dX5_moves_147 : decode cX5_moves 147 = .ok (.isub, 1) := by decide +kernel
theorem dX5_moves_148 : decode cX5_moves 148 = .ok (.aload_n 0, 1) := by decide +kernel
theorem dX5_moves_149 : decode cX5_moves 149 = .ok (.getfield 51, 3) := by decide +kernel
theorem dX5_moves_152 : decode cX5_moves 152 = .ok (.iconst 1, 1) := by decide +kernel
theorem dX5_moves_153 : decode cX5_moves 153 = .ok (.isub, 1) := by decide +kernel
theorem dX5_moves_154 : decode cX5_moves 154 = .ok (.invokevirtual 153, 3) := by decide +kernel
theorem dX5_moves_157 : decode cX5_moves 157 = .ok (.aload_n 0, 1) := by decide +kernel
theorem dX5_moves_158 : decode cX5_moves 158 = .ok (.bipush 80, 2) := by decide +kernel
theorem dX5_moves_160 : decode cX5_moves 160 = .ok (.aload_n 0, 1) := by decide +kernel
theorem dX5_moves_161 : decode cX5_moves 161 = .ok (.getfield 51, 3) := by decide +kernel
theorem dX5_moves_164 : decode cX5_moves 164 = .ok (.iconst 2, 1) := by decide +kernel
theorem dX5_moves_165 : decode cX5_moves 165 = .ok (.isub, 1) := by decide +kernel
theorem dX5_moves_166 : decode cX5_moves 166 = .ok (.invokevirtual 153, 3) := by decide +kernel
theorem dX5_moves_169 : decode cX5_moves 169 = .ok (.goto 81, 3) := by decide +kernel
theorem dX5_moves_172 : decode cX5_moves 172 = .ok (.iload_n 1, 1) := by decide +kernel
theorem dX5_moves_173 : decode cX5_moves 173 = .ok (.bipush 68, 2) := by decide +kernel
theorem dX5_moves_175 : decode cX5_moves 175 = .ok (.if_icmp .ne 16, 3) := by decide +kernel
theorem dX5_moves_178 : decode cX5_moves 178 = .ok (.aload_n 0, 1) := by decide +kernel
theorem dX5_moves_179 : decode cX5_moves 179 = .ok (.dup, 1) := by decide +kernel
theorem dX5_moves_180 : decode cX5_moves 180 = .ok (.getfield 51, 3) := by decide +kernel
theorem dX5_moves_183 : decode cX5_moves 183 = .ok (.iconst 1, 1) := by decide +kernel
theorem dX5_moves_184 : decode cX5_moves 184 = .ok (.isub, 1) := by decide +kernel
theorem dX5_moves_185 : decode cX5_moves 185 = .ok (.putfield 51, 3) := by decide +kernel
theorem dX5_moves_188 : decode cX5_moves 188 = .ok (.goto 62, 3) := by decide +kernel
theorem dX5_moves_191 : decode cX5_moves 191 = .ok (.aload_n 0, 1) := by decide +kernel
theorem dX5_moves_192 : decode cX5_moves 192 = .ok (.getfield 157, 3) := by decide +kernel
theorem dX5_moves_195 : decode cX5_moves 195 = .ok (.bipush 40, 2) := by decide +kernel
theorem dX5_moves_197 : decode cX5_moves 197 = .ok (.if_icmp .ge 53, 3) := by decide +kernel
theorem dX5_moves_200 : decode cX5_moves 200 = .ok (.aload_n 0, 1) := by decide +kernel
theorem dX5_moves_201 : decode cX5_moves 201 = .ok (.getfield 35, 3) := by decide +kernel
theorem dX5_moves_204 : decode cX5_moves 204 = .ok (.aload_n 0, 1) := by decide +kernel
theorem dX5_moves_205 : decode cX5_moves 205 = .ok (.getfield 157, 3) := by decide +kernel
theorem dX5_moves_208 : decode cX5_moves 208 = .ok (.aload_n 0, 1) := by decide +kernel
theorem dX5_moves_209 : decode cX5_moves 209 = .ok (.getfield 13, 3) := by decide +kernel
theorem dX5_moves_212 : decode cX5_moves 212 = .ok (.aload_n 0, 1) := by decide +kernel
theorem dX5_moves_213 : decode cX5_moves 213 = .ok (.getfield 51, 3) := by decide +kernel
theorem dX5_moves_216 : decode cX5_moves 216 = .ok (.iconst 1, 1) := by decide +kernel
theorem dX5_moves_217 : decode cX5_moves 217 = .ok (.isub, 1) := by decide +kernel
theorem dX5_moves_218 : decode cX5_moves 218 = .ok (.laload, 1) := by decide +kernel
theorem dX5_moves_219 : decode cX5_moves 219 = .ok (.lastore, 1) := by decide +kernel
theorem dX5_moves_220 : decode cX5_moves 220 = .ok (.aload_n 0, 1) := by decide +kernel
theorem dX5_moves_221 : decode cX5_moves 221 = .ok (.getfield 38, 3) := by decide +kernel
theorem dX5_moves_224 : decode cX5_moves 224 = .ok (.aload_n 0, 1) := by decide +kernel
theorem dX5_moves_225 : decode cX5_moves 225 = .ok (.getfield 157, 3) := by decide +kernel
theorem dX5_moves_228 : decode cX5_moves 228 = .ok (.aload_n 0, 1) := by decide +kernel
theorem dX5_moves_229 : decode cX5_moves 229 = .ok (.getfield 17, 3) := by decide +kernel
theorem dX5_moves_232 : decode cX5_moves 232 = .ok (.aload_n 0, 1) := by decide +kernel
theorem dX5_moves_233 : decode cX5_moves 233 = .ok (.getfield 51, 3) := by decide +kernel
theorem dX5_moves_236 : decode cX5_moves 236 = .ok (.iconst 1, 1) := by decide +kernel
theorem dX5_moves_237 : decode cX5_moves 237 = .ok (.isub, 1) := by decide +kernel
theorem dX5_moves_238 : decode cX5_moves 238 = .ok (.iaload, 1) := by decide +kernel
theorem dX5_moves_239 : decode cX5_moves 239 = .ok (.iastore, 1) := by decide +kernel
theorem dX5_moves_240 : decode cX5_moves 240 = .ok (.aload_n 0, 1) := by decide +kernel
theorem dX5_moves_241 : decode cX5_moves 241 = .ok (.dup, 1) := by decide +kernel
theorem dX5_moves_242 : decode cX5_moves 242 = .ok (.getfield 157, 3) := by decide +kernel
theorem dX5_moves_245 : decode cX5_moves 245 = .ok (.iconst 1, 1) := by decide +kernel
theorem dX5_moves_246 : decode cX5_moves 246 = .ok (.iadd, 1) := by decide +kernel
theorem dX5_moves_247 : decode cX5_moves 247 = .ok (.putfield 157, 3) := by decide +kernel
theorem dX5_moves_250 : decode cX5_moves 250 = .ok (.iconst 1, 1) := by decide +kernel
theorem dX5_moves_251 : decode cX5_moves 251 = .ok (.ireturn, 1) := by decide +kernel
set_option maxRecDepth 20000 in
theorem ggX5_stores_X5_have : GoodIn wsX5_stores wsX5_have := goodIn_r _ [7, 2, 8, 9, 10, 6, 11, 12, 28, 29, 30, 31, 32, 33, 34, 35, 36, 37, 38, 39, 40, 41, 42, 43, 44, 45, 46, 47, 48] (by decide +kernel) (by decide +kernel)
set_option maxRecDepth 20000 in
theorem gX5_stores_X5_have : GoodIn wsX5_stores (wsV RX5 58 RX5 yX5_have wsX5_have) := goodIn_app (goodIn_of _ (by decide +kernel)) ggX5_stores_X5_have
set_option maxRecDepth 20000 in
theorem ggX5_stores_X5_fail : GoodIn wsX5_stores wsX5_fail := goodIn_r _ [11, 12, 28, 29, 30, 31, 32, 33, 34, 35, 36, 37, 38, 39, 40, 41, 42, 43, 44, 45, 46, 47, 48] (by decide +kernel) (by decide +kernel)
set_option maxRecDepth 20000 in
theorem gX5_stores_X5_fail : GoodIn wsX5_stores (wsV RX5 54 RX5 yX5_fail wsX5_fail) := goodIn_app (goodIn_of _ (by decide +kernel)) ggX5_stores_X5_fail
set_option maxRecDepth 20000 in
theorem ggX5_stores_X5_topOf : GoodIn wsX5_stores wsX5_topOf := goodIn_r _ [16, 1, 28, 29, 30, 31, 32, 33, 34, 35, 36, 37, 38, 39, 40, 41, 42, 43, 44, 45, 46, 47, 48] (by decide +kernel) (by decide +kernel)
set_option maxRecDepth 20000 in
theorem gX5_stores_X5_topOf : GoodIn wsX5_stores (wsV RX5 160 RX5 yX5_topOf wsX5_topOf) := goodIn_app (goodIn_of _ (by decide +kernel)) ggX5_stores_X5_topOf
set_option maxRecDepth 20000 in
theorem ggX5_stores_X5_copy : GoodIn wsX5_stores wsX5_copy := goodIn_r _ [20, 21, 22, 23, 28, 29, 30, 31, 32, 33, 34, 35, 36, 37, 38, 39, 40, 41, 42, 43, 44, 45, 46, 47, 48] (by decide +kernel) (by decide +kernel)
set_option maxRecDepth 20000 in
theorem gX5_stores_X5_copy : GoodIn wsX5_stores (wsV RX5 153 RX5 yX5_copy wsX5_copy) := goodIn_app (goodIn_of _ (by decide +kernel)) ggX5_stores_X5_copy
set_option maxRecDepth 20000 in
theorem ggX5_stores_X5_room : GoodIn wsX5_stores wsX5_room := goodIn_r _ [27, 2, 8, 9, 10, 6, 11, 12, 28, 29, 30, 31, 32, 33, 34, 35, 36, 37, 38, 39, 40, 41, 42, 43, 44, 45, 46, 47, 48] (by decide +kernel) (by decide +kernel)
set_option maxRecDepth 20000 in
theorem gX5_stores_X5_room : GoodIn wsX5_stores (wsV RX5 131 RX5 yX5_room wsX5_room) := goodIn_app (goodIn_of _ (by decide +kernel)) ggX5_stores_X5_room
theorem dX5_stores_0 : decode cX5_stores 0 = .ok (.iload_n 1, 1) := by decide +kernel
theorem dX5_stores_1 : decode cX5_stores 1 = .ok (.bipush 115, 2) := by decide +kernel
theorem dX5_stores_3 : decode cX5_stores 3 = .ok (.if_icmp .eq 9, 3) := by decide +kernel
theorem dX5_stores_6 : decode cX5_stores 6 = .ok (.iload_n 1, 1) := by decide +kernel
theorem dX5_stores_7 : decode cX5_stores 7 = .ok (.bipush 83, 2) := by decide +kernel
theorem dX5_stores_9 : decode cX5_stores 9 = .ok (.if_icmp .ne 94, 3) := by decide +kernel
theorem dX5_stores_12 : decode cX5_stores 12 = .ok (.aload_n 0, 1) := by decide +kernel
theorem dX5_stores_13 : decode cX5_stores 13 = .ok (.iconst 1, 1) := by decide +kernel
theorem dX5_stores_14 : decode cX5_stores 14 = .ok (.invokevirtual 58, 3) := by decide +kernel
theorem dX5_stores_17 : decode cX5_stores 17 = .ok (.ifCond .ne 5, 3) := by decide +kernel
theorem dX5_stores_20 : decode cX5_stores 20 = .ok (.iconst 0, 1) := by decide +kernel
theorem dX5_stores_21 : decode cX5_stores 21 = .ok (.ireturn, 1) := by decide +kernel
theorem dX5_stores_22 : decode cX5_stores 22 = .ok (.iload_n 1, 1) := by decide +kernel
theorem dX5_stores_23 : decode cX5_stores 23 = .ok (.bipush 83, 2) := by decide +kernel
theorem dX5_stores_25 : decode cX5_stores 25 = .ok (.if_icmp .eq 12, 3) := by decide +kernel
theorem dX5_stores_28 : decode cX5_stores 28 = .ok (.aload_n 0, 1) := by decide +kernel
theorem dX5_stores_29 : decode cX5_stores 29 = .ok (.getfield 23, 3) := by decide +kernel
theorem dX5_stores_32 : decode cX5_stores 32 = .ok (.iload_n 2, 1) := by decide +kernel
theorem dX5_stores_33 : decode cX5_stores 33 = .ok (.iaload, 1) := by decide +kernel
theorem dX5_stores_34 : decode cX5_stores 34 = .ok (.ifCond .ne 7, 3) := by decide +kernel
theorem dX5_stores_37 : decode cX5_stores 37 = .ok (.iconst 1, 1) := by decide +kernel
theorem dX5_stores_38 : decode cX5_stores 38 = .ok (.goto 4, 3) := by decide +kernel
theorem dX5_stores_41 : decode cX5_stores 41 = .ok (.iconst 0, 1) := by decide +kernel
theorem dX5_stores_42 : decode cX5_stores 42 = .ok (.istore_n 3, 1) := by decide +kernel
theorem dX5_stores_43 : decode cX5_stores 43 = .ok (.iload_n 3, 1) := by decide +kernel
theorem dX5_stores_44 : decode cX5_stores 44 = .ok (.ifCond .eq 20, 3) := by decide +kernel
theorem dX5_stores_47 : decode cX5_stores 47 = .ok (.aload_n 0, 1) := by decide +kernel
theorem dX5_stores_48 : decode cX5_stores 48 = .ok (.getfield 23, 3) := by decide +kernel
theorem dX5_stores_51 : decode cX5_stores 51 = .ok (.iload_n 2, 1) := by decide +kernel
theorem dX5_stores_52 : decode cX5_stores 52 = .ok (.iaload, 1) := by decide +kernel
theorem dX5_stores_53 : decode cX5_stores 53 = .ok (.bipush 10, 2) := by decide +kernel
theorem dX5_stores_55 : decode cX5_stores 55 = .ok (.if_icmp .ne 9, 3) := by decide +kernel
theorem dX5_stores_58 : decode cX5_stores 58 = .ok (.aload_n 0, 1) := by decide +kernel
theorem dX5_stores_59 : decode cX5_stores 59 = .ok (.iconst 5, 1) := by decide +kernel
theorem dX5_stores_60 : decode cX5_stores 60 = .ok (.invokevirtual 54, 3) := by decide +kernel
theorem dX5_stores_63 : decode cX5_stores 63 = .ok (.ireturn, 1) := by decide +kernel
theorem dX5_stores_64 : decode cX5_stores 64 = .ok (.iload_n 3, 1) := by decide +kernel
theorem dX5_stores_65 : decode cX5_stores 65 = .ok (.ifCond .eq 13, 3) := by decide +kernel
theorem dX5_stores_68 : decode cX5_stores 68 = .ok (.aload_n 0, 1) := by decide +kernel
theorem dX5_stores_69 : decode cX5_stores 69 = .ok (.getfield 23, 3) := by decide +kernel
theorem dX5_stores_72 : decode cX5_stores 72 = .ok (.iload_n 2, 1) := by decide +kernel
theorem dX5_stores_73 : decode cX5_stores 73 = .ok (.dup2, 1) := by decide +kernel
theorem dX5_stores_74 : decode cX5_stores 74 = .ok (.iaload, 1) := by decide +kernel
theorem dX5_stores_75 : decode cX5_stores 75 = .ok (.iconst 1, 1) := by decide +kernel
theorem dX5_stores_76 : decode cX5_stores 76 = .ok (.iadd, 1) := by decide +kernel
theorem dX5_stores_77 : decode cX5_stores 77 = .ok (.iastore, 1) := by decide +kernel
theorem dX5_stores_78 : decode cX5_stores 78 = .ok (.aload_n 0, 1) := by decide +kernel
theorem dX5_stores_79 : decode cX5_stores 79 = .ok (.dup, 1) := by decide +kernel
theorem dX5_stores_80 : decode cX5_stores 80 = .ok (.getfield 51, 3) := by decide +kernel
theorem dX5_stores_83 : decode cX5_stores 83 = .ok (.iconst 1, 1) := by decide +kernel
theorem dX5_stores_84 : decode cX5_stores 84 = .ok (.isub, 1) := by decide +kernel
theorem dX5_stores_85 : decode cX5_stores 85 = .ok (.putfield 51, 3) := by decide +kernel
theorem dX5_stores_88 : decode cX5_stores 88 = .ok (.aload_n 0, 1) := by decide +kernel
theorem dX5_stores_89 : decode cX5_stores 89 = .ok (.aload_n 0, 1) := by decide +kernel
theorem dX5_stores_90 : decode cX5_stores 90 = .ok (.getfield 51, 3) := by decide +kernel
theorem dX5_stores_93 : decode cX5_stores 93 = .ok (.aload_n 0, 1) := by decide +kernel
theorem dX5_stores_94 : decode cX5_stores 94 = .ok (.iload_n 2, 1) := by decide +kernel
theorem dX5_stores_95 : decode cX5_stores 95 = .ok (.invokevirtual 160, 3) := by decide +kernel
theorem dX5_stores_98 : decode cX5_stores 98 = .ok (.invokevirtual 153, 3) := by decide +kernel
theorem dX5_stores_101 : decode cX5_stores 101 = .ok (.iconst 1, 1) := by decide +kernel
theorem dX5_stores_102 : decode cX5_stores 102 = .ok (.ireturn, 1) := by decide +kernel
theorem dX5_stores_103 : decode cX5_stores 103 = .ok (.aload_n 0, 1) := by decide +kernel
theorem dX5_stores_104 : decode cX5_stores 104 = .ok (.getfield 23, 3) := by decide +kernel
theorem dX5_stores_107 : decode cX5_stores 107 = .ok (.iload_n 2, 1) := by decide +kernel
theorem dX5_stores_108 : decode cX5_stores 108 = .ok (.iaload, 1) := by decide +kernel
theorem dX5_stores_109 : decode cX5_stores 109 = .ok (.ifCond .ne 9, 3) := by decide +kernel
theorem dX5_stores_112 : decode cX5_stores 112 = .ok (.aload_n 0, 1) := by decide +kernel
theorem dX5_stores_113 : decode cX5_stores 113 = .ok (.iconst 2, 1) := by decide +kernel
theorem dX5_stores_114 : decode cX5_stores 114 = .ok (.invokevirtual 54, 3) := by decide +kernel
theorem dX5_stores_117 : decode cX5_stores 117 = .ok (.ireturn, 1) := by decide +kernel
theorem dX5_stores_118 : decode cX5_stores 118 = .ok (.aload_n 0, 1) := by decide +kernel
theorem dX5_stores_119 : decode cX5_stores 119 = .ok (.invokevirtual 131, 3) := by decide +kernel
theorem dX5_stores_122 : decode cX5_stores 122 = .ok (.ifCond .ne 5, 3) := by decide +kernel
theorem dX5_stores_125 : decode cX5_stores 125 = .ok (.iconst 0, 1) := by decide +kernel
theorem dX5_stores_126 : decode cX5_stores 126 = .ok (.ireturn, 1) := by decide +kernel
theorem dX5_stores_127 : decode cX5_stores 127 = .ok (.aload_n 0, 1) := by decide +kernel
theorem dX5_stores_128 : decode cX5_stores 128 = .ok (.aload_n 0, 1) := by decide +kernel
theorem dX5_stores_129 : decode cX5_stores 129 = .ok (.iload_n 2, 1) := by decide +kernel
theorem dX5_stores_130 : decode cX5_stores 130 = .ok (.invokevirtual 160, 3) := by decide +kernel
theorem dX5_stores_133 : decode cX5_stores 133 = .ok (.aload_n 0, 1) := by decide +kernel
theorem dX5_stores_134 : decode cX5_stores 134 = .ok (.getfield 51, 3) := by decide +kernel
theorem dX5_stores_137 : decode cX5_stores 137 = .ok (.invokevirtual 153, 3) := by decide +kernel
theorem dX5_stores_140 : decode cX5_stores 140 = .ok (.aload_n 0, 1) := by decide +kernel
theorem dX5_stores_141 : decode cX5_stores 141 = .ok (.dup, 1) := by decide +kernel
theorem dX5_stores_142 : decode cX5_stores 142 = .ok (.getfield 51, 3) := by decide +kernel
theorem dX5_stores_145 : decode cX5_stores 145 = .ok (.iconst 1, 1) := by decide +kernel
theorem dX5_stores_146 : decode cX5_stores 146 = .ok (.iadd, 1) := by decide +kernel
theorem dX5_stores_147 : decode cX5_stores 147 = .ok (.putfield 51, 3) := by decide +kernel
theorem dX5_stores_150 : decode cX5_stores 150 = .ok (.iload_n 1, 1) := by decide +kernel
theorem dX5_stores_151 : decode cX5_stores 151 = .ok (.bipush 76, 2) := by decide +kernel
theorem dX5_stores_153 : decode cX5_stores 153 = .ok (.if_icmp .ne 13, 3) := by decide +kernel
theorem dX5_stores_156 : decode cX5_stores 156 = .ok (.aload_n 0, 1) := by decide +kernel
theorem dX5_stores_157 : decode cX5_stores 157 = .ok (.getfield 23, 3) := by decide +kernel
theorem dX5_stores_160 : decode cX5_stores 160 = .ok (.iload_n 2, 1) := by decide +kernel
theorem dX5_stores_161 : decode cX5_stores 161 = .ok (.dup2, 1) := by decide +kernel
theorem dX5_stores_162 : decode cX5_stores 162 = .ok (.iaload, 1) := by decide +kernel
theorem dX5_stores_163 : decode cX5_stores 163 = .ok (.iconst 1, 1) := by decide +kernel
theorem dX5_stores_164 : decode cX5_stores 164 = .ok (.isub, 1) := by decide +kernel
theorem dX5_stores_165 : decode cX5_stores 165 = .ok (.iastore, 1) := by decide +kernel
theorem dX5_stores_166 : decode cX5_stores 166 = .ok (.iconst 1, 1) := by decide +kernel
theorem dX5_stores_167 : decode cX5_stores 167 = .ok (.ireturn, 1) := by decide +kernel
set_option maxRecDepth 20000 in
theorem ggX5_tests_X5_numbers : GoodIn wsX5_tests wsX5_numbers := goodIn_r _ [9, 4, 2, 10, 11, 12, 8, 13, 14, 15, 16, 17, 18, 60, 61, 62, 63, 64, 65, 66, 67, 68, 69, 70, 71, 72, 73, 74, 75, 76, 77, 78, 79, 80] (by decide +kernel) (by decide +kernel)
set_option maxRecDepth 20000 in
theorem gX5_tests_X5_numbers : GoodIn wsX5_tests (wsV RX5 71 RX5 yX5_numbers wsX5_numbers) := goodIn_app (goodIn_of _ (by decide +kernel)) ggX5_tests_X5_numbers
set_option maxRecDepth 20000 in
theorem ggX5_tests_X5_compared : GoodIn wsX5_tests wsX5_compared := goodIn_r _ [22, 4, 2, 23, 24, 1, 18, 25, 26, 8, 27, 28, 29, 30, 31, 32, 33, 34, 60, 61, 62, 63, 64, 65, 66, 67, 68, 69, 70, 71, 72, 73, 74, 75, 76, 77, 78, 79, 80] (by decide +kernel) (by decide +kernel)
set_option maxRecDepth 20000 in
theorem gX5_tests_X5_compared : GoodIn wsX5_tests (wsV RX5 164 RX5 yX5_compared wsX5_compared) := goodIn_app (goodIn_of _ (by decide +kernel)) ggX5_tests_X5_compared
set_option maxRecDepth 20000 in
theorem ggX5_tests_X5_fail : GoodIn wsX5_tests wsX5_fail := goodIn_r _ [17, 18, 60, 61, 62, 63, 64, 65, 66, 67, 68, 69, 70, 71, 72, 73, 74, 75, 76, 77, 78, 79, 80] (by decide +kernel) (by decide +kernel)
set_option maxRecDepth 20000 in
theorem gX5_tests_X5_fail : GoodIn wsX5_tests (wsV RX5 54 RX5 yX5_fail wsX5_fail) := goodIn_app (goodIn_of _ (by decide +kernel)) ggX5_tests_X5_fail
set_option maxRecDepth 20000 in
theorem ggX5_tests_X5_topOf : GoodIn wsX5_tests wsX5_topOf := goodIn_r _ [38, 3, 60, 61, 62, 63, 64, 65, 66, 67, 68, 69, 70, 71, 72, 73, 74, 75, 76, 77, 78, 79, 80] (by decide +kernel) (by decide +kernel)
set_option maxRecDepth 20000 in
theorem gX5_tests_X5_topOf : GoodIn wsX5_tests (wsV RX5 160 RX5 yX5_topOf wsX5_topOf) := goodIn_app (goodIn_of _ (by decide +kernel)) ggX5_tests_X5_topOf
set_option maxRecDepth 20000 in
theorem ggX5_tests_X5_mayRun : GoodIn wsX5_tests wsX5_mayRun := goodIn_r _ [42, 43, 44, 45, 46, 8, 47, 48, 49, 50, 51, 52, 53, 14, 15, 16, 17, 18, 60, 61, 62, 63, 64, 65, 66, 67, 68, 69, 70, 71, 72, 73, 74, 75, 76, 77, 78, 79, 80] (by decide +kernel) (by decide +kernel)
set_option maxRecDepth 20000 in
theorem gX5_tests_X5_mayRun : GoodIn wsX5_tests (wsV RX5 167 RX5 yX5_mayRun wsX5_mayRun) := goodIn_app (goodIn_of _ (by decide +kernel)) ggX5_tests_X5_mayRun
set_option maxRecDepth 20000 in
theorem ggX5_tests_X5_begin : GoodIn wsX5_tests wsX5_begin := goodIn_r _ [57, 58, 43, 48, 23, 49, 59, 44, 45, 46, 8, 47, 50, 51, 52, 53, 60, 61, 62, 63, 64, 65, 66, 67, 68, 69, 70, 71, 72, 73, 74, 75, 76, 77, 78, 79, 80] (by decide +kernel) (by decide +kernel)
set_option maxRecDepth 20000 in
theorem gX5_tests_X5_begin : GoodIn wsX5_tests (wsV RX5 170 RX5 yX5_begin wsX5_begin) := goodIn_app (goodIn_of _ (by decide +kernel)) ggX5_tests_X5_begin
theorem dX5_tests_0 : decode cX5_tests 0 = .ok (.aload_n 0, 1) := by decide +kernel
theorem dX5_tests_1 : decode cX5_tests 1 = .ok (.iconst 2, 1) := by decide +kernel
theorem dX5_tests_2 : decode cX5_tests 2 = .ok (.invokevirtual 71, 3) := by decide +kernel
theorem dX5_tests_5 : decode cX5_tests 5 = .ok (.ifCond .eq 10, 3) := by decide +kernel
theorem dX5_tests_8 : decode cX5_tests 8 = .ok (.aload_n 0, 1) := by decide +kernel
theorem dX5_tests_9 : decode cX5_tests 9 = .ok (.invokevirtual 164, 3) := by decide +kernel
theorem dX5_tests_12 : decode cX5_tests 12 = .ok (.ifCond .ne 5, 3) := by decide +kernel
theorem dX5_tests_15 : decode cX5_tests 15 = .ok (.iconst 0, 1) := by decide +kernel
theorem dX5_tests_16 : decode cX5_tests 16 = .ok (.ireturn, 1) := by decide +kernel
theorem dX5_tests_17 : decode cX5_tests 17 = .ok (.iload_n 1, 1) := by decide +kernel
theorem dX5_tests_18 : decode cX5_tests 18 = .ok (.bipush 60, 2) := by decide +kernel
theorem dX5_tests_20 : decode cX5_tests 20 = .ok (.if_icmp .ne 20, 3) := by decide +kernel
theorem dX5_tests_23 : decode cX5_tests 23 = .ok (.aload_n 0, 1) := by decide +kernel
theorem dX5_tests_24 : decode cX5_tests 24 = .ok (.getfield 85, 3) := by decide +kernel
theorem dX5_tests_27 : decode cX5_tests 27 = .ok (.lconst 0, 1) := by decide +kernel
theorem dX5_tests_28 : decode cX5_tests 28 = .ok (.lcmp, 1) := by decide +kernel
theorem dX5_tests_29 : decode cX5_tests 29 = .ok (.ifCond .le 7, 3) := by decide +kernel
theorem dX5_tests_32 : decode cX5_tests 32 = .ok (.iconst 1, 1) := by decide +kernel
theorem dX5_tests_33 : decode cX5_tests 33 = .ok (.goto 44, 3) := by decide +kernel
theorem dX5_tests_36 : decode cX5_tests 36 = .ok (.iconst 0, 1) := by decide +kernel
theorem dX5_tests_37 : decode cX5_tests 37 = .ok (.goto 40, 3) := by decide +kernel
theorem dX5_tests_40 : decode cX5_tests 40 = .ok (.iload_n 1, 1) := by decide +kernel
theorem dX5_tests_41 : decode cX5_tests 41 = .ok (.bipush 62, 2) := by decide +kernel
theorem dX5_tests_43 : decode cX5_tests 43 = .ok (.if_icmp .ne 20, 3) := by decide +kernel
theorem dX5_tests_46 : decode cX5_tests 46 = .ok (.aload_n 0, 1) := by decide +kernel
theorem dX5_tests_47 : decode cX5_tests 47 = .ok (.getfield 85, 3) := by decide +kernel
theorem dX5_tests_50 : decode cX5_tests 50 = .ok (.lconst 0, 1) := by decide +kernel
theorem dX5_tests_51 : decode cX5_tests 51 = .ok (.lcmp, 1) := by decide +kernel
theorem dX5_tests_52 : decode cX5_tests 52 = .ok (.ifCond .ge 7, 3) := by decide +kernel
theorem dX5_tests_55 : decode cX5_tests 55 = .ok (.iconst 1, 1) := by decide +kernel
theorem dX5_tests_56 : decode cX5_tests 56 = .ok (.goto 21, 3) := by decide +kernel
theorem dX5_tests_59 : decode cX5_tests 59 = .ok (.iconst 0, 1) := by decide +kernel
theorem dX5_tests_60 : decode cX5_tests 60 = .ok (.goto 17, 3) := by decide +kernel
theorem dX5_tests_63 : decode cX5_tests 63 = .ok (.aload_n 0, 1) := by decide +kernel
theorem dX5_tests_64 : decode cX5_tests 64 = .ok (.getfield 85, 3) := by decide +kernel
theorem dX5_tests_67 : decode cX5_tests 67 = .ok (.lconst 0, 1) := by decide +kernel
theorem dX5_tests_68 : decode cX5_tests 68 = .ok (.lcmp, 1) := by decide +kernel
theorem dX5_tests_69 : decode cX5_tests 69 = .ok (.ifCond .ne 7, 3) := by decide +kernel
theorem dX5_tests_72 : decode cX5_tests 72 = .ok (.iconst 1, 1) := by decide +kernel
theorem dX5_tests_73 : decode cX5_tests 73 = .ok (.goto 4, 3) := by decide +kernel
theorem dX5_tests_76 : decode cX5_tests 76 = .ok (.iconst 0, 1) := by decide +kernel
theorem dX5_tests_77 : decode cX5_tests 77 = .ok (.istore 4, 2) := by decide +kernel
theorem dX5_tests_79 : decode cX5_tests 79 = .ok (.iload 4, 2) := by decide +kernel
theorem dX5_tests_81 : decode cX5_tests 81 = .ok (.ifCond .ne 15, 3) := by decide +kernel
theorem dX5_tests_84 : decode cX5_tests 84 = .ok (.aload_n 0, 1) := by decide +kernel
theorem dX5_tests_85 : decode cX5_tests 85 = .ok (.dup, 1) := by decide +kernel
theorem dX5_tests_86 : decode cX5_tests 86 = .ok (.getfield 51, 3) := by decide +kernel
theorem dX5_tests_89 : decode cX5_tests 89 = .ok (.iconst 2, 1) := by decide +kernel
theorem dX5_tests_90 : decode cX5_tests 90 = .ok (.isub, 1) := by decide +kernel
theorem dX5_tests_91 : decode cX5_tests 91 = .ok (.putfield 51, 3) := by decide +kernel
theorem dX5_tests_94 : decode cX5_tests 94 = .ok (.iconst 1, 1) := by decide +kernel
theorem dX5_tests_95 : decode cX5_tests 95 = .ok (.ireturn, 1) := by decide +kernel
theorem dX5_tests_96 : decode cX5_tests 96 = .ok (.aload_n 0, 1) := by decide +kernel
theorem dX5_tests_97 : decode cX5_tests 97 = .ok (.getfield 23, 3) := by decide +kernel
theorem dX5_tests_100 : decode cX5_tests 100 = .ok (.iload_n 2, 1) := by decide +kernel
theorem dX5_tests_101 : decode cX5_tests 101 = .ok (.iaload, 1) := by decide +kernel
theorem dX5_tests_102 : decode cX5_tests 102 = .ok (.ifCond .ne 9, 3) := by decide +kernel
theorem dX5_tests_105 : decode cX5_tests 105 = .ok (.aload_n 0, 1) := by decide +kernel
theorem dX5_tests_106 : decode cX5_tests 106 = .ok (.iconst 2, 1) := by decide +kernel
theorem dX5_tests_107 : decode cX5_tests 107 = .ok (.invokevirtual 54, 3) := by decide +kernel
theorem dX5_tests_110 : decode cX5_tests 110 = .ok (.ireturn, 1) := by decide +kernel
theorem dX5_tests_111 : decode cX5_tests 111 = .ok (.aload_n 0, 1) := by decide +kernel
theorem dX5_tests_112 : decode cX5_tests 112 = .ok (.getfield 17, 3) := by decide +kernel
theorem dX5_tests_115 : decode cX5_tests 115 = .ok (.aload_n 0, 1) := by decide +kernel
theorem dX5_tests_116 : decode cX5_tests 116 = .ok (.iload_n 2, 1) := by decide +kernel
theorem dX5_tests_117 : decode cX5_tests 117 = .ok (.invokevirtual 160, 3) := by decide +kernel
theorem dX5_tests_120 : decode cX5_tests 120 = .ok (.iaload, 1) := by decide +kernel
theorem dX5_tests_121 : decode cX5_tests 121 = .ok (.ifCond .lt 9, 3) := by decide +kernel
theorem dX5_tests_124 : decode cX5_tests 124 = .ok (.aload_n 0, 1) := by decide +kernel
theorem dX5_tests_125 : decode cX5_tests 125 = .ok (.iconst 3, 1) := by decide +kernel
theorem dX5_tests_126 : decode cX5_tests 126 = .ok (.invokevirtual 54, 3) := by decide +kernel
theorem dX5_tests_129 : decode cX5_tests 129 = .ok (.ireturn, 1) := by decide +kernel
theorem dX5_tests_130 : decode cX5_tests 130 = .ok (.aload_n 0, 1) := by decide +kernel
theorem dX5_tests_131 : decode cX5_tests 131 = .ok (.iload_n 3, 1) := by decide +kernel
theorem dX5_tests_132 : decode cX5_tests 132 = .ok (.invokevirtual 167, 3) := by decide +kernel
theorem dX5_tests_135 : decode cX5_tests 135 = .ok (.ifCond .ne 5, 3) := by decide +kernel
theorem dX5_tests_138 : decode cX5_tests 138 = .ok (.iconst 0, 1) := by decide +kernel
theorem dX5_tests_139 : decode cX5_tests 139 = .ok (.ireturn, 1) := by decide +kernel
theorem dX5_tests_140 : decode cX5_tests 140 = .ok (.aload_n 0, 1) := by decide +kernel
theorem dX5_tests_141 : decode cX5_tests 141 = .ok (.dup, 1) := by decide +kernel
theorem dX5_tests_142 : decode cX5_tests 142 = .ok (.getfield 51, 3) := by decide +kernel
theorem dX5_tests_145 : decode cX5_tests 145 = .ok (.iconst 2, 1) := by decide +kernel
theorem dX5_tests_146 : decode cX5_tests 146 = .ok (.isub, 1) := by decide +kernel
theorem dX5_tests_147 : decode cX5_tests 147 = .ok (.putfield 51, 3) := by decide +kernel
theorem dX5_tests_150 : decode cX5_tests 150 = .ok (.aload_n 0, 1) := by decide +kernel
theorem dX5_tests_151 : decode cX5_tests 151 = .ok (.aload_n 0, 1) := by decide +kernel
theorem dX5_tests_152 : decode cX5_tests 152 = .ok (.iload_n 2, 1) := by decide +kernel
theorem dX5_tests_153 : decode cX5_tests 153 = .ok (.invokevirtual 160, 3) := by decide +kernel
theorem dX5_tests_156 : decode cX5_tests 156 = .ok (.iload_n 3, 1) := by decide +kernel
theorem dX5_tests_157 : decode cX5_tests 157 = .ok (.invokevirtual 170, 3) := by decide +kernel
theorem dX5_tests_160 : decode cX5_tests 160 = .ok (.iconst 1, 1) := by decide +kernel
theorem dX5_tests_161 : decode cX5_tests 161 = .ok (.ireturn, 1) := by decide +kernel
set_option maxRecDepth 20000 in
theorem ggX5_compared_X5_greater : GoodIn wsX5_compared wsX5_greater := goodIn_r _ [10] (by decide +kernel) (by decide +kernel)
set_option maxRecDepth 20000 in
theorem gX5_compared_X5_greater : GoodIn wsX5_compared (va_wsS RX5 74 yX5_greater wsX5_greater) := goodIn_app (goodIn_of _ (by decide +kernel)) ggX5_compared_X5_greater
set_option maxRecDepth 20000 in
theorem ggX5_compared_X5_raised : GoodIn wsX5_compared wsX5_raised := goodIn_r _ [14, 6, 15, 16, 17, 18, 19, 20, 21, 22, 23, 24, 25, 26, 27, 28, 29, 30, 31, 32, 33, 34, 35, 36, 37, 38] (by decide +kernel) (by decide +kernel)
set_option maxRecDepth 20000 in
theorem gX5_compared_X5_raised : GoodIn wsX5_compared (wsV RX5 81 RX5 yX5_raised wsX5_raised) := goodIn_app (goodIn_of _ (by decide +kernel)) ggX5_compared_X5_raised
theorem dX5_compared_0 : decode cX5_compared 0 = .ok (.aload_n 0, 1) := by decide +kernel
theorem dX5_compared_1 : decode cX5_compared 1 = .ok (.getfield 17, 3) := by decide +kernel
theorem dX5_compared_4 : decode cX5_compared 4 = .ok (.aload_n 0, 1) := by decide +kernel
theorem dX5_compared_5 : decode cX5_compared 5 = .ok (.getfield 51, 3) := by decide +kernel
theorem dX5_compared_8 : decode cX5_compared 8 = .ok (.iconst 1, 1) := by decide +kernel
theorem dX5_compared_9 : decode cX5_compared 9 = .ok (.isub, 1) := by decide +kernel
theorem dX5_compared_10 : decode cX5_compared 10 = .ok (.iaload, 1) := by decide +kernel
theorem dX5_compared_11 : decode cX5_compared 11 = .ok (.aload_n 0, 1) := by decide +kernel
theorem dX5_compared_12 : decode cX5_compared 12 = .ok (.getfield 17, 3) := by decide +kernel
theorem dX5_compared_15 : decode cX5_compared 15 = .ok (.aload_n 0, 1) := by decide +kernel
theorem dX5_compared_16 : decode cX5_compared 16 = .ok (.getfield 51, 3) := by decide +kernel
theorem dX5_compared_19 : decode cX5_compared 19 = .ok (.iconst 2, 1) := by decide +kernel
theorem dX5_compared_20 : decode cX5_compared 20 = .ok (.isub, 1) := by decide +kernel
theorem dX5_compared_21 : decode cX5_compared 21 = .ok (.iaload, 1) := by decide +kernel
theorem dX5_compared_22 : decode cX5_compared 22 = .ok (.invokestatic 74, 3) := by decide +kernel
theorem dX5_compared_25 : decode cX5_compared 25 = .ok (.istore_n 1, 1) := by decide +kernel
theorem dX5_compared_26 : decode cX5_compared 26 = .ok (.aload_n 0, 1) := by decide +kernel
theorem dX5_compared_27 : decode cX5_compared 27 = .ok (.aload_n 0, 1) := by decide +kernel
theorem dX5_compared_28 : decode cX5_compared 28 = .ok (.getfield 13, 3) := by decide +kernel
theorem dX5_compared_31 : decode cX5_compared 31 = .ok (.aload_n 0, 1) := by decide +kernel
theorem dX5_compared_32 : decode cX5_compared 32 = .ok (.getfield 51, 3) := by decide +kernel
theorem dX5_compared_35 : decode cX5_compared 35 = .ok (.iconst 2, 1) := by decide +kernel
theorem dX5_compared_36 : decode cX5_compared 36 = .ok (.isub, 1) := by decide +kernel
theorem dX5_compared_37 : decode cX5_compared 37 = .ok (.laload, 1) := by decide +kernel
theorem dX5_compared_38 : decode cX5_compared 38 = .ok (.iload_n 1, 1) := by decide +kernel
theorem dX5_compared_39 : decode cX5_compared 39 = .ok (.aload_n 0, 1) := by decide +kernel
theorem dX5_compared_40 : decode cX5_compared 40 = .ok (.getfield 17, 3) := by decide +kernel
theorem dX5_compared_43 : decode cX5_compared 43 = .ok (.aload_n 0, 1) := by decide +kernel
theorem dX5_compared_44 : decode cX5_compared 44 = .ok (.getfield 51, 3) := by decide +kernel
theorem dX5_compared_47 : decode cX5_compared 47 = .ok (.iconst 2, 1) := by decide +kernel
theorem dX5_compared_48 : decode cX5_compared 48 = .ok (.isub, 1) := by decide +kernel
theorem dX5_compared_49 : decode cX5_compared 49 = .ok (.iaload, 1) := by decide +kernel
theorem dX5_compared_50 : decode cX5_compared 50 = .ok (.isub, 1) := by decide +kernel
theorem dX5_compared_51 : decode cX5_compared 51 = .ok (.invokevirtual 81, 3) := by decide +kernel
theorem dX5_compared_54 : decode cX5_compared 54 = .ok (.lstore_n 2, 1) := by decide +kernel
theorem dX5_compared_55 : decode cX5_compared 55 = .ok (.aload_n 0, 1) := by decide +kernel
theorem dX5_compared_56 : decode cX5_compared 56 = .ok (.aload_n 0, 1) := by decide +kernel
theorem dX5_compared_57 : decode cX5_compared 57 = .ok (.getfield 13, 3) := by decide +kernel
theorem dX5_compared_60 : decode cX5_compared 60 = .ok (.aload_n 0, 1) := by decide +kernel
theorem dX5_compared_61 : decode cX5_compared 61 = .ok (.getfield 51, 3) := by decide +kernel
theorem dX5_compared_64 : decode cX5_compared 64 = .ok (.iconst 1, 1) := by decide +kernel
theorem dX5_compared_65 : decode cX5_compared 65 = .ok (.isub, 1) := by decide +kernel
theorem dX5_compared_66 : decode cX5_compared 66 = .ok (.laload, 1) := by decide +kernel
theorem dX5_compared_67 : decode cX5_compared 67 = .ok (.iload_n 1, 1) := by decide +kernel
theorem dX5_compared_68 : decode cX5_compared 68 = .ok (.aload_n 0, 1) := by decide +kernel
theorem dX5_compared_69 : decode cX5_compared 69 = .ok (.getfield 17, 3) := by decide +kernel
theorem dX5_compared_72 : decode cX5_compared 72 = .ok (.aload_n 0, 1) := by decide +kernel
theorem dX5_compared_73 : decode cX5_compared 73 = .ok (.getfield 51, 3) := by decide +kernel
theorem dX5_compared_76 : decode cX5_compared 76 = .ok (.iconst 1, 1) := by decide +kernel
theorem dX5_compared_77 : decode cX5_compared 77 = .ok (.isub, 1) := by decide +kernel
theorem dX5_compared_78 : decode cX5_compared 78 = .ok (.iaload, 1) := by decide +kernel
theorem dX5_compared_79 : decode cX5_compared 79 = .ok (.isub, 1) := by decide +kernel
theorem dX5_compared_80 : decode cX5_compared 80 = .ok (.invokevirtual 81, 3) := by decide +kernel
theorem dX5_compared_83 : decode cX5_compared 83 = .ok (.lstore 4, 2) := by decide +kernel
theorem dX5_compared_85 : decode cX5_compared 85 = .ok (.aload_n 0, 1) := by decide +kernel
theorem dX5_compared_86 : decode cX5_compared 86 = .ok (.lload_n 2, 1) := by decide +kernel
theorem dX5_compared_87 : decode cX5_compared 87 = .ok (.lload 4, 2) := by decide +kernel
theorem dX5_compared_89 : decode cX5_compared 89 = .ok (.lcmp, 1) := by decide +kernel
theorem dX5_compared_90 : decode cX5_compared 90 = .ok (.ifCond .le 7, 3) := by decide +kernel
theorem dX5_compared_93 : decode cX5_compared 93 = .ok (.lconst 1, 1) := by decide +kernel
theorem dX5_compared_94 : decode cX5_compared 94 = .ok (.goto 17, 3) := by decide +kernel
theorem dX5_compared_97 : decode cX5_compared 97 = .ok (.lload_n 2, 1) := by decide +kernel
theorem dX5_compared_98 : decode cX5_compared 98 = .ok (.lload 4, 2) := by decide +kernel
theorem dX5_compared_100 : decode cX5_compared 100 = .ok (.lcmp, 1) := by decide +kernel
theorem dX5_compared_101 : decode cX5_compared 101 = .ok (.ifCond .ge 9, 3) := by decide +kernel
theorem dX5_compared_104 : decode cX5_compared 104 = .ok (.ldc2_w 173, 3) := by decide +kernel
theorem dX5_compared_107 : decode cX5_compared 107 = .ok (.goto 4, 3) := by decide +kernel
theorem dX5_compared_110 : decode cX5_compared 110 = .ok (.lconst 0, 1) := by decide +kernel
theorem dX5_compared_111 : decode cX5_compared 111 = .ok (.putfield 85, 3) := by decide +kernel
theorem dX5_compared_114 : decode cX5_compared 114 = .ok (.aload_n 0, 1) := by decide +kernel
theorem dX5_compared_115 : decode cX5_compared 115 = .ok (.getfield 48, 3) := by decide +kernel
theorem dX5_compared_118 : decode cX5_compared 118 = .ok (.ifCond .ne 7, 3) := by decide +kernel
theorem dX5_compared_121 : decode cX5_compared 121 = .ok (.iconst 1, 1) := by decide +kernel
theorem dX5_compared_122 : decode cX5_compared 122 = .ok (.goto 4, 3) := by decide +kernel
theorem dX5_compared_125 : decode cX5_compared 125 = .ok (.iconst 0, 1) := by decide +kernel
theorem dX5_compared_126 : decode cX5_compared 126 = .ok (.ireturn, 1) := by decide +kernel
set_option maxRecDepth 20000 in
theorem ggX5_runs_X5_have : GoodIn wsX5_runs wsX5_have := goodIn_r _ [7, 2, 8, 9, 10, 6, 11, 12, 35, 36, 37, 38, 39, 40, 41, 42, 43, 44, 45, 46, 47, 48, 49, 50, 51, 52, 53, 54, 55] (by decide +kernel) (by decide +kernel)
set_option maxRecDepth 20000 in
theorem gX5_runs_X5_have : GoodIn wsX5_runs (wsV RX5 58 RX5 yX5_have wsX5_have) := goodIn_app (goodIn_of _ (by decide +kernel)) ggX5_runs_X5_have
set_option maxRecDepth 20000 in
theorem ggX5_runs_X5_mayRun : GoodIn wsX5_runs wsX5_mayRun := goodIn_r _ [16, 17, 18, 19, 20, 6, 21, 22, 23, 24, 25, 26, 27, 8, 9, 10, 11, 12, 35, 36, 37, 38, 39, 40, 41, 42, 43, 44, 45, 46, 47, 48, 49, 50, 51, 52, 53, 54, 55] (by decide +kernel) (by decide +kernel)
set_option maxRecDepth 20000 in
theorem gX5_runs_X5_mayRun : GoodIn wsX5_runs (wsV RX5 167 RX5 yX5_mayRun wsX5_mayRun) := goodIn_app (goodIn_of _ (by decide +kernel)) ggX5_runs_X5_mayRun
set_option maxRecDepth 20000 in
theorem ggX5_runs_X5_begin : GoodIn wsX5_runs wsX5_begin := goodIn_r _ [31, 32, 17, 22, 33, 23, 34, 18, 19, 20, 6, 21, 24, 25, 26, 27, 35, 36, 37, 38, 39, 40, 41, 42, 43, 44, 45, 46, 47, 48, 49, 50, 51, 52, 53, 54, 55] (by decide +kernel) (by decide +kernel)
set_option maxRecDepth 20000 in
theorem gX5_runs_X5_begin : GoodIn wsX5_runs (wsV RX5 170 RX5 yX5_begin wsX5_begin) := goodIn_app (goodIn_of _ (by decide +kernel)) ggX5_runs_X5_begin
theorem dX5_runs_0 : decode cX5_runs 0 = .ok (.aload_n 0, 1) := by decide +kernel
theorem dX5_runs_1 : decode cX5_runs 1 = .ok (.iconst 1, 1) := by decide +kernel
theorem dX5_runs_2 : decode cX5_runs 2 = .ok (.invokevirtual 58, 3) := by decide +kernel
theorem dX5_runs_5 : decode cX5_runs 5 = .ok (.ifCond .ne 5, 3) := by decide +kernel
theorem dX5_runs_8 : decode cX5_runs 8 = .ok (.iconst 0, 1) := by decide +kernel
theorem dX5_runs_9 : decode cX5_runs 9 = .ok (.ireturn, 1) := by decide +kernel
theorem dX5_runs_10 : decode cX5_runs 10 = .ok (.aload_n 0, 1) := by decide +kernel
theorem dX5_runs_11 : decode cX5_runs 11 = .ok (.getfield 17, 3) := by decide +kernel
theorem dX5_runs_14 : decode cX5_runs 14 = .ok (.aload_n 0, 1) := by decide +kernel
theorem dX5_runs_15 : decode cX5_runs 15 = .ok (.getfield 51, 3) := by decide +kernel
theorem dX5_runs_18 : decode cX5_runs 18 = .ok (.iconst 1, 1) := by decide +kernel
theorem dX5_runs_19 : decode cX5_runs 19 = .ok (.isub, 1) := by decide +kernel
theorem dX5_runs_20 : decode cX5_runs 20 = .ok (.iaload, 1) := by decide +kernel
theorem dX5_runs_21 : decode cX5_runs 21 = .ok (.ifCond .lt 5, 3) := by decide +kernel
theorem dX5_runs_24 : decode cX5_runs 24 = .ok (.iconst 1, 1) := by decide +kernel
theorem dX5_runs_25 : decode cX5_runs 25 = .ok (.ireturn, 1) := by decide +kernel
theorem dX5_runs_26 : decode cX5_runs 26 = .ok (.aload_n 0, 1) := by decide +kernel
theorem dX5_runs_27 : decode cX5_runs 27 = .ok (.iload_n 1, 1) := by decide +kernel
theorem dX5_runs_28 : decode cX5_runs 28 = .ok (.invokevirtual 167, 3) := by decide +kernel
theorem dX5_runs_31 : decode cX5_runs 31 = .ok (.ifCond .ne 5, 3) := by decide +kernel
theorem dX5_runs_34 : decode cX5_runs 34 = .ok (.iconst 0, 1) := by decide +kernel
theorem dX5_runs_35 : decode cX5_runs 35 = .ok (.ireturn, 1) := by decide +kernel
theorem dX5_runs_36 : decode cX5_runs 36 = .ok (.aload_n 0, 1) := by decide +kernel
theorem dX5_runs_37 : decode cX5_runs 37 = .ok (.dup, 1) := by decide +kernel
theorem dX5_runs_38 : decode cX5_runs 38 = .ok (.getfield 51, 3) := by decide +kernel
theorem dX5_runs_41 : decode cX5_runs 41 = .ok (.iconst 1, 1) := by decide +kernel
theorem dX5_runs_42 : decode cX5_runs 42 = .ok (.isub, 1) := by decide +kernel
theorem dX5_runs_43 : decode cX5_runs 43 = .ok (.putfield 51, 3) := by decide +kernel
theorem dX5_runs_46 : decode cX5_runs 46 = .ok (.aload_n 0, 1) := by decide +kernel
theorem dX5_runs_47 : decode cX5_runs 47 = .ok (.aload_n 0, 1) := by decide +kernel
theorem dX5_runs_48 : decode cX5_runs 48 = .ok (.getfield 51, 3) := by decide +kernel
theorem dX5_runs_51 : decode cX5_runs 51 = .ok (.iload_n 1, 1) := by decide +kernel
theorem dX5_runs_52 : decode cX5_runs 52 = .ok (.invokevirtual 170, 3) := by decide +kernel
theorem dX5_runs_55 : decode cX5_runs 55 = .ok (.iconst 1, 1) := by decide +kernel
theorem dX5_runs_56 : decode cX5_runs 56 = .ok (.ireturn, 1) := by decide +kernel
theorem dX5_isOne_0 : decode cX5_isOne 0 = .ok (.iload_n 0, 1) := by decide +kernel
theorem dX5_isOne_1 : decode cX5_isOne 1 = .ok (.iload_n 1, 1) := by decide +kernel
theorem dX5_isOne_2 : decode cX5_isOne 2 = .ok (.if_icmp .eq 19, 3) := by decide +kernel
theorem dX5_isOne_5 : decode cX5_isOne 5 = .ok (.iload_n 0, 1) := by decide +kernel
theorem dX5_isOne_6 : decode cX5_isOne 6 = .ok (.iload_n 2, 1) := by decide +kernel
theorem dX5_isOne_7 : decode cX5_isOne 7 = .ok (.if_icmp .eq 14, 3) := by decide +kernel
theorem dX5_isOne_10 : decode cX5_isOne 10 = .ok (.iload_n 0, 1) := by decide +kernel
theorem dX5_isOne_11 : decode cX5_isOne 11 = .ok (.iload_n 3, 1) := by decide +kernel
theorem dX5_isOne_12 : decode cX5_isOne 12 = .ok (.if_icmp .eq 9, 3) := by decide +kernel
theorem dX5_isOne_15 : decode cX5_isOne 15 = .ok (.iload_n 0, 1) := by decide +kernel
theorem dX5_isOne_16 : decode cX5_isOne 16 = .ok (.iload 4, 2) := by decide +kernel
theorem dX5_isOne_18 : decode cX5_isOne 18 = .ok (.if_icmp .ne 7, 3) := by decide +kernel
theorem dX5_isOne_21 : decode cX5_isOne 21 = .ok (.iconst 1, 1) := by decide +kernel
theorem dX5_isOne_22 : decode cX5_isOne 22 = .ok (.goto 4, 3) := by decide +kernel
theorem dX5_isOne_25 : decode cX5_isOne 25 = .ok (.iconst 0, 1) := by decide +kernel
theorem dX5_isOne_26 : decode cX5_isOne 26 = .ok (.ireturn, 1) := by decide +kernel
set_option maxRecDepth 20000 in
theorem ggX5_command_X5_charAt : GoodIn wsX5_command wsX5_charAt := goodIn_r _ [12, 13, 14, 158, 159, 160, 161, 162, 163, 164, 165, 166, 167, 168, 169, 170, 171, 172, 173, 174, 175, 176, 177, 178] (by decide +kernel) (by decide +kernel)
set_option maxRecDepth 20000 in
theorem gX5_command_X5_charAt : GoodIn wsX5_command (wsV RX5 120 RX5 yX5_charAt wsX5_charAt) := goodIn_app (goodIn_of _ (by decide +kernel)) ggX5_command_X5_charAt
set_option maxRecDepth 20000 in
theorem ggX5_command_X5_within : GoodIn wsX5_command wsX5_within := goodIn_r _ [17] (by decide +kernel) (by decide +kernel)
set_option maxRecDepth 20000 in
theorem gX5_command_X5_within : GoodIn wsX5_command (va_wsS RX5 127 yX5_within wsX5_within) := goodIn_app (goodIn_of _ (by decide +kernel)) ggX5_command_X5_within
set_option maxRecDepth 20000 in
theorem ggX5_command_X5_digits : GoodIn wsX5_command wsX5_digits := goodIn_r _ [21, 1, 2, 3, 22, 6, 8, 9, 10, 11, 12, 13, 14, 15, 16, 17, 23, 24, 25, 26, 27, 28, 29, 30, 31, 32, 33, 34, 35, 36, 37, 38, 158, 159, 160, 161, 162, 163, 164, 165, 166, 167, 168, 169, 170, 171, 172, 173, 174, 175, 176, 177, 178] (by decide +kernel) (by decide +kernel)
set_option maxRecDepth 20000 in
theorem gX5_command_X5_digits : GoodIn wsX5_command (wsV RX5 175 RX5 yX5_digits wsX5_digits) := goodIn_app (goodIn_of _ (by decide +kernel)) ggX5_command_X5_digits
set_option maxRecDepth 20000 in
theorem ggX5_command_X5_brackets : GoodIn wsX5_command wsX5_brackets := goodIn_r _ [42, 1, 13, 14, 43, 32, 6, 23, 24, 25, 11, 26, 27, 28, 29, 30, 31, 33, 34, 35, 36, 37, 38, 158, 159, 160, 161, 162, 163, 164, 165, 166, 167, 168, 169, 170, 171, 172, 173, 174, 175, 176, 177, 178] (by decide +kernel) (by decide +kernel)
set_option maxRecDepth 20000 in
theorem gX5_command_X5_brackets : GoodIn wsX5_command (wsV RX5 178 RX5 yX5_brackets wsX5_brackets) := goodIn_app (goodIn_of _ (by decide +kernel)) ggX5_command_X5_brackets
set_option maxRecDepth 20000 in
theorem ggX5_command_X5_isOne : GoodIn wsX5_command wsX5_isOne := goodIn_r _ [46] (by decide +kernel) (by decide +kernel)
set_option maxRecDepth 20000 in
theorem gX5_command_X5_isOne : GoodIn wsX5_command (va_wsS RX5 181 yX5_isOne wsX5_isOne) := goodIn_app (goodIn_of _ (by decide +kernel)) ggX5_command_X5_isOne
set_option maxRecDepth 20000 in
theorem ggX5_command_X5_fail : GoodIn wsX5_command wsX5_fail := goodIn_r _ [26, 27, 158, 159, 160, 161, 162, 163, 164, 165, 166, 167, 168, 169, 170, 171, 172, 173, 174, 175, 176, 177, 178] (by decide +kernel) (by decide +kernel)
set_option maxRecDepth 20000 in
theorem gX5_command_X5_fail : GoodIn wsX5_command (wsV RX5 54 RX5 yX5_fail wsX5_fail) := goodIn_app (goodIn_of _ (by decide +kernel)) ggX5_command_X5_fail
set_option maxRecDepth 20000 in
theorem ggX5_command_X5_register : GoodIn wsX5_command wsX5_register := goodIn_r _ [49] (by decide +kernel) (by decide +kernel)
set_option maxRecDepth 20000 in
theorem gX5_command_X5_register : GoodIn wsX5_command (va_wsS RX5 189 yX5_register wsX5_register) := goodIn_app (goodIn_of _ (by decide +kernel)) ggX5_command_X5_register
set_option maxRecDepth 20000 in
theorem ggX5_command_X5_stores : GoodIn wsX5_command wsX5_stores := goodIn_r _ [53, 54, 32, 55, 56, 57, 11, 58, 23, 24, 25, 26, 27, 59, 60, 61, 62, 63, 64, 65, 66, 37, 38, 43, 28, 29, 30, 31, 158, 159, 160, 161, 162, 163, 164, 165, 166, 167, 168, 169, 170, 171, 172, 173, 174, 175, 176, 177, 178] (by decide +kernel) (by decide +kernel)
set_option maxRecDepth 20000 in
theorem gX5_command_X5_stores : GoodIn wsX5_command (wsV RX5 192 RX5 yX5_stores wsX5_stores) := goodIn_app (goodIn_of _ (by decide +kernel)) ggX5_command_X5_stores
set_option maxRecDepth 20000 in
theorem ggX5_command_X5_tests : GoodIn wsX5_command wsX5_tests := goodIn_r _ [70, 71, 32, 54, 38, 72, 73, 74, 11, 75, 55, 56, 57, 58, 23, 24, 25, 26, 27, 76, 77, 78, 79, 37, 80, 81, 82, 83, 84, 85, 86, 87, 88, 89, 22, 59, 60, 61, 62, 90, 91, 92, 93, 1, 94, 95, 96, 97, 13, 14, 98, 99, 100, 101, 102, 103, 104, 105, 6, 43, 158, 159, 160, 161, 162, 163, 164, 165, 166, 167, 168, 169, 170, 171, 172, 173, 174, 175, 176, 177, 178] (by decide +kernel) (by decide +kernel)
set_option maxRecDepth 20000 in
theorem gX5_command_X5_tests : GoodIn wsX5_command (wsV RX5 196 RX5 yX5_tests wsX5_tests) := goodIn_app (goodIn_of _ (by decide +kernel)) ggX5_command_X5_tests
set_option maxRecDepth 20000 in
theorem ggX5_command_X5_runs : GoodIn wsX5_command wsX5_runs := goodIn_r _ [109, 38, 32, 55, 56, 57, 11, 58, 23, 24, 25, 26, 27, 90, 91, 92, 93, 1, 94, 95, 96, 97, 13, 14, 98, 99, 100, 101, 102, 103, 104, 105, 6, 37, 43, 158, 159, 160, 161, 162, 163, 164, 165, 166, 167, 168, 169, 170, 171, 172, 173, 174, 175, 176, 177, 178] (by decide +kernel) (by decide +kernel)
set_option maxRecDepth 20000 in
theorem gX5_command_X5_runs : GoodIn wsX5_command (wsV RX5 200 RX5 yX5_runs wsX5_runs) := goodIn_app (goodIn_of _ (by decide +kernel)) ggX5_command_X5_runs
set_option maxRecDepth 20000 in
theorem ggX5_command_X5_calculates : GoodIn wsX5_command wsX5_calculates := goodIn_r _ [113, 37, 32, 38, 114, 115, 71, 116, 117, 118, 119, 11, 120, 27, 72, 73, 74, 75, 55, 56, 57, 58, 23, 24, 25, 26, 81, 82, 83, 84, 85, 86, 87, 88, 89, 22, 121, 122, 123, 124, 125, 126, 127, 128, 129, 130, 131, 132, 133, 134, 135, 136, 137, 138, 139, 140, 141, 142, 143, 144, 145, 146, 147, 148, 149, 150, 33, 34, 35, 36, 15, 16, 17, 158, 159, 160, 161, 162, 163, 164, 165, 166, 167, 168, 169, 170, 171, 172, 173, 174, 175, 176, 177, 178] (by decide +kernel) (by decide +kernel)
set_option maxRecDepth 20000 in
theorem gX5_command_X5_calculates : GoodIn wsX5_command (wsV RX5 207 RX5 yX5_calculates wsX5_calculates) := goodIn_app (goodIn_of _ (by decide +kernel)) ggX5_command_X5_calculates
set_option maxRecDepth 20000 in
theorem ggX5_command_X5_moves : GoodIn wsX5_command wsX5_moves := goodIn_r _ [154, 32, 115, 155, 156, 37, 157, 38, 28, 29, 30, 11, 31, 23, 24, 25, 26, 27, 33, 34, 35, 36, 55, 56, 57, 58, 63, 64, 65, 66, 43, 158, 159, 160, 161, 162, 163, 164, 165, 166, 167, 168, 169, 170, 171, 172, 173, 174, 175, 176, 177, 178] (by decide +kernel) (by decide +kernel)
set_option maxRecDepth 20000 in
theorem gX5_command_X5_moves : GoodIn wsX5_command (wsV RX5 210 RX5 yX5_moves wsX5_moves) := goodIn_app (goodIn_of _ (by decide +kernel)) ggX5_command_X5_moves
theorem dX5_command_0 : decode cX5_command 0 = .ok (.aload_n 0, 1) := by decide +kernel
theorem dX5_command_1 : decode cX5_command 1 = .ok (.getfield 111, 3) := by decide +kernel
theorem dX5_command_4 : decode cX5_command 4 = .ok (.iconst 1, 1) := by decide +kernel
theorem dX5_command_5 : decode cX5_command 5 = .ok (.isub, 1) := by decide +kernel
theorem dX5_command_6 : decode cX5_command 6 = .ok (.istore_n 2, 1) := by decide +kernel
theorem dX5_command_7 : decode cX5_command 7 = .ok (.aload_n 0, 1) := by decide +kernel
theorem dX5_command_8 : decode cX5_command 8 = .ok (.iload_n 2, 1) := by decide +kernel
theorem dX5_command_9 : decode cX5_command 9 = .ok (.iload_n 1, 1) := by decide +kernel
theorem dX5_command_10 : decode cX5_command 10 = .ok (.invokevirtual 120, 3) := by decide +kernel
theorem dX5_command_13 : decode cX5_command 13 = .ok (.istore_n 3, 1) := by decide +kernel
theorem dX5_command_14 : decode cX5_command 14 = .ok (.aload_n 0, 1) := by decide +kernel
theorem dX5_command_15 : decode cX5_command 15 = .ok (.iload_n 2, 1) := by decide +kernel
theorem dX5_command_16 : decode cX5_command 16 = .ok (.iload_n 1, 1) := by decide +kernel
theorem dX5_command_17 : decode cX5_command 17 = .ok (.iconst 1, 1) := by decide +kernel
theorem dX5_command_18 : decode cX5_command 18 = .ok (.iadd, 1) := by decide +kernel
theorem dX5_command_19 : decode cX5_command 19 = .ok (.invokevirtual 120, 3) := by decide +kernel
theorem dX5_command_22 : decode cX5_command 22 = .ok (.istore 4, 2) := by decide +kernel
theorem dX5_command_24 : decode cX5_command 24 = .ok (.iload_n 3, 1) := by decide +kernel
theorem dX5_command_25 : decode cX5_command 25 = .ok (.i2l, 1) := by decide +kernel
theorem dX5_command_26 : decode cX5_command 26 = .ok (.ldc2_w 123, 3) := by decide +kernel
theorem dX5_command_29 : decode cX5_command 29 = .ok (.ldc2_w 125, 3) := by decide +kernel
theorem dX5_command_32 : decode cX5_command 32 = .ok (.invokestatic 127, 3) := by decide +kernel
theorem dX5_command_35 : decode cX5_command 35 = .ok (.ifCond .ne 15, 3) := by decide +kernel
theorem dX5_command_38 : decode cX5_command 38 = .ok (.iload_n 3, 1) := by decide +kernel
theorem dX5_command_39 : decode cX5_command 39 = .ok (.bipush 95, 2) := by decide +kernel
theorem dX5_command_41 : decode cX5_command 41 = .ok (.if_icmp .eq 9, 3) := by decide +kernel
theorem dX5_command_44 : decode cX5_command 44 = .ok (.iload_n 3, 1) := by decide +kernel
theorem dX5_command_45 : decode cX5_command 45 = .ok (.bipush 46, 2) := by decide +kernel
theorem dX5_command_47 : decode cX5_command 47 = .ok (.if_icmp .ne 9, 3) := by decide +kernel
theorem dX5_command_50 : decode cX5_command 50 = .ok (.aload_n 0, 1) := by decide +kernel
theorem dX5_command_51 : decode cX5_command 51 = .ok (.iload_n 1, 1) := by decide +kernel
theorem dX5_command_52 : decode cX5_command 52 = .ok (.invokevirtual 175, 3) := by decide +kernel
theorem dX5_command_55 : decode cX5_command 55 = .ok (.ireturn, 1) := by decide +kernel
theorem dX5_command_56 : decode cX5_command 56 = .ok (.iload_n 3, 1) := by decide +kernel
theorem dX5_command_57 : decode cX5_command 57 = .ok (.bipush 91, 2) := by decide +kernel
theorem dX5_command_59 : decode cX5_command 59 = .ok (.if_icmp .ne 9, 3) := by decide +kernel
theorem dX5_command_62 : decode cX5_command 62 = .ok (.aload_n 0, 1) := by decide +kernel
theorem dX5_command_63 : decode cX5_command 63 = .ok (.iload_n 1, 1) := by decide +kernel
theorem dX5_command_64 : decode cX5_command 64 = .ok (.invokevirtual 178, 3) := by decide +kernel
theorem dX5_command_67 : decode cX5_command 67 = .ok (.ireturn, 1) := by decide +kernel
theorem dX5_command_68 : decode cX5_command 68 = .ok (.iload_n 3, 1) := by decide +kernel
theorem dX5_command_69 : decode cX5_command 69 = .ok (.bipush 115, 2) := by decide +kernel
theorem dX5_command_71 : decode cX5_command 71 = .ok (.bipush 108, 2) := by decide +kernel
theorem dX5_command_73 : decode cX5_command 73 = .ok (.bipush 83, 2) := by decide +kernel
theorem dX5_command_75 : decode cX5_command 75 = .ok (.bipush 76, 2) := by decide +kernel
theorem dX5_command_77 : decode cX5_command 77 = .ok (.invokestatic 181, 3) := by decide +kernel
theorem dX5_command_80 : decode cX5_command 80 = .ok (.ifCond .ne 18, 3) := by decide +kernel
theorem dX5_command_83 : decode cX5_command 83 = .ok (.iload_n 3, 1) := by decide +kernel
theorem dX5_command_84 : decode cX5_command 84 = .ok (.bipush 60, 2) := by decide +kernel
theorem dX5_command_86 : decode cX5_command 86 = .ok (.bipush 62, 2) := by decide +kernel
theorem dX5_command_88 : decode cX5_command 88 = .ok (.bipush 61, 2) := by decide +kernel
theorem dX5_command_90 : decode cX5_command 90 = .ok (.bipush 60, 2) := by decide +kernel
theorem dX5_command_92 : decode cX5_command 92 = .ok (.invokestatic 181, 3) := by decide +kernel
theorem dX5_command_95 : decode cX5_command 95 = .ok (.ifCond .eq 7, 3) := by decide +kernel
theorem dX5_command_98 : decode cX5_command 98 = .ok (.iconst 1, 1) := by decide +kernel
theorem dX5_command_99 : decode cX5_command 99 = .ok (.goto 4, 3) := by decide +kernel
theorem dX5_command_102 : decode cX5_command 102 = .ok (.iconst 0, 1) := by decide +kernel
theorem dX5_command_103 : decode cX5_command 103 = .ok (.istore 5, 2) := by decide +kernel
theorem dX5_command_105 : decode cX5_command 105 = .ok (.iload 5, 2) := by decide +kernel
theorem dX5_command_107 : decode cX5_command 107 = .ok (.ifCond .eq 24, 3) := by decide +kernel
theorem dX5_command_110 : decode cX5_command 110 = .ok (.iload 4, 2) := by decide +kernel
theorem dX5_command_112 : decode cX5_command 112 = .ok (.i2l, 1) := by decide +kernel
theorem dX5_command_113 : decode cX5_command 113 = .ok (.ldc2_w 185, 3) := by decide +kernel
end
section
theorem dX5_command_116 : decode cX5_command 116 = .ok (.ldc2_w 187, 3) := by decide +kernel
theorem dX5_command_119 : decode cX5_command 119 = .ok (.invokestatic 127, 3) := by decide +kernel
theorem dX5_command_122 : decode cX5_command 122 = .ok (.ifCond .ne 9, 3) := by decide +kernel
theorem dX5_command_125 : decode cX5_command 125 = .ok (.aload_n 0, 1) := by decide +kernel
theorem dX5_command_126 : decode cX5_command 126 = .ok (.iconst 1, 1) := by decide +kernel
theorem dX5_command_127 : decode cX5_command 127 = .ok (.invokevirtual 54, 3) := by decide +kernel
theorem dX5_command_130 : decode cX5_command 130 = .ok (.ireturn, 1) := by decide +kernel
theorem dX5_command_131 : decode cX5_command 131 = .ok (.iload 5, 2) := by decide +kernel
theorem dX5_command_133 : decode cX5_command 133 = .ok (.ifCond .eq 9, 3) := by decide +kernel
theorem dX5_command_136 : decode cX5_command 136 = .ok (.iload_n 1, 1) := by decide +kernel
theorem dX5_command_137 : decode cX5_command 137 = .ok (.iconst 2, 1) := by decide +kernel
theorem dX5_command_138 : decode cX5_command 138 = .ok (.iadd, 1) := by decide +kernel
theorem dX5_command_139 : decode cX5_command 139 = .ok (.goto 6, 3) := by decide +kernel
theorem dX5_command_142 : decode cX5_command 142 = .ok (.iload_n 1, 1) := by decide +kernel
theorem dX5_command_143 : decode cX5_command 143 = .ok (.iconst 1, 1) := by decide +kernel
theorem dX5_command_144 : decode cX5_command 144 = .ok (.iadd, 1) := by decide +kernel
theorem dX5_command_145 : decode cX5_command 145 = .ok (.istore 6, 2) := by decide +kernel
theorem dX5_command_147 : decode cX5_command 147 = .ok (.aload_n 0, 1) := by decide +kernel
theorem dX5_command_148 : decode cX5_command 148 = .ok (.getfield 32, 3) := by decide +kernel
theorem dX5_command_151 : decode cX5_command 151 = .ok (.iload_n 2, 1) := by decide +kernel
theorem dX5_command_152 : decode cX5_command 152 = .ok (.iload 6, 2) := by decide +kernel
theorem dX5_command_154 : decode cX5_command 154 = .ok (.iastore, 1) := by decide +kernel
theorem dX5_command_155 : decode cX5_command 155 = .ok (.iload_n 3, 1) := by decide +kernel
theorem dX5_command_156 : decode cX5_command 156 = .ok (.bipush 115, 2) := by decide +kernel
theorem dX5_command_158 : decode cX5_command 158 = .ok (.bipush 108, 2) := by decide +kernel
theorem dX5_command_160 : decode cX5_command 160 = .ok (.bipush 83, 2) := by decide +kernel
theorem dX5_command_162 : decode cX5_command 162 = .ok (.bipush 76, 2) := by decide +kernel
theorem dX5_command_164 : decode cX5_command 164 = .ok (.invokestatic 181, 3) := by decide +kernel
theorem dX5_command_167 : decode cX5_command 167 = .ok (.ifCond .eq 14, 3) := by decide +kernel
theorem dX5_command_170 : decode cX5_command 170 = .ok (.aload_n 0, 1) := by decide +kernel
theorem dX5_command_171 : decode cX5_command 171 = .ok (.iload_n 3, 1) := by decide +kernel
theorem dX5_command_172 : decode cX5_command 172 = .ok (.iload 4, 2) := by decide +kernel
theorem dX5_command_174 : decode cX5_command 174 = .ok (.invokestatic 189, 3) := by decide +kernel
theorem dX5_command_177 : decode cX5_command 177 = .ok (.invokevirtual 192, 3) := by decide +kernel
theorem dX5_command_180 : decode cX5_command 180 = .ok (.ireturn, 1) := by decide +kernel
theorem dX5_command_181 : decode cX5_command 181 = .ok (.iload 5, 2) := by decide +kernel
theorem dX5_command_183 : decode cX5_command 183 = .ok (.ifCond .eq 16, 3) := by decide +kernel
theorem dX5_command_186 : decode cX5_command 186 = .ok (.aload_n 0, 1) := by decide +kernel
theorem dX5_command_187 : decode cX5_command 187 = .ok (.iload_n 3, 1) := by decide +kernel
theorem dX5_command_188 : decode cX5_command 188 = .ok (.iload 4, 2) := by decide +kernel
theorem dX5_command_190 : decode cX5_command 190 = .ok (.invokestatic 189, 3) := by decide +kernel
theorem dX5_command_193 : decode cX5_command 193 = .ok (.iload 6, 2) := by decide +kernel
theorem dX5_command_195 : decode cX5_command 195 = .ok (.invokevirtual 196, 3) := by decide +kernel
theorem dX5_command_198 : decode cX5_command 198 = .ok (.ireturn, 1) := by decide +kernel
theorem dX5_command_199 : decode cX5_command 199 = .ok (.iload_n 3, 1) := by decide +kernel
theorem dX5_command_200 : decode cX5_command 200 = .ok (.bipush 120, 2) := by decide +kernel
theorem dX5_command_202 : decode cX5_command 202 = .ok (.if_icmp .ne 10, 3) := by decide +kernel
theorem dX5_command_205 : decode cX5_command 205 = .ok (.aload_n 0, 1) := by decide +kernel
theorem dX5_command_206 : decode cX5_command 206 = .ok (.iload 6, 2) := by decide +kernel
theorem dX5_command_208 : decode cX5_command 208 = .ok (.invokevirtual 200, 3) := by decide +kernel
theorem dX5_command_211 : decode cX5_command 211 = .ok (.ireturn, 1) := by decide +kernel
theorem dX5_command_212 : decode cX5_command 212 = .ok (.iload_n 3, 1) := by decide +kernel
theorem dX5_command_213 : decode cX5_command 213 = .ok (.bipush 113, 2) := by decide +kernel
theorem dX5_command_215 : decode cX5_command 215 = .ok (.if_icmp .ne 10, 3) := by decide +kernel
theorem dX5_command_218 : decode cX5_command 218 = .ok (.aload_n 0, 1) := by decide +kernel
theorem dX5_command_219 : decode cX5_command 219 = .ok (.iconst 1, 1) := by decide +kernel
theorem dX5_command_220 : decode cX5_command 220 = .ok (.putfield 203, 3) := by decide +kernel
theorem dX5_command_223 : decode cX5_command 223 = .ok (.iconst 1, 1) := by decide +kernel
theorem dX5_command_224 : decode cX5_command 224 = .ok (.ireturn, 1) := by decide +kernel
theorem dX5_command_225 : decode cX5_command 225 = .ok (.iload_n 3, 1) := by decide +kernel
theorem dX5_command_226 : decode cX5_command 226 = .ok (.bipush 43, 2) := by decide +kernel
theorem dX5_command_228 : decode cX5_command 228 = .ok (.bipush 45, 2) := by decide +kernel
theorem dX5_command_230 : decode cX5_command 230 = .ok (.bipush 42, 2) := by decide +kernel
theorem dX5_command_232 : decode cX5_command 232 = .ok (.bipush 47, 2) := by decide +kernel
theorem dX5_command_234 : decode cX5_command 234 = .ok (.invokestatic 181, 3) := by decide +kernel
theorem dX5_command_237 : decode cX5_command 237 = .ok (.ifCond .ne 24, 3) := by decide +kernel
theorem dX5_command_240 : decode cX5_command 240 = .ok (.iload_n 3, 1) := by decide +kernel
theorem dX5_command_241 : decode cX5_command 241 = .ok (.bipush 37, 2) := by decide +kernel
theorem dX5_command_243 : decode cX5_command 243 = .ok (.bipush 118, 2) := by decide +kernel
theorem dX5_command_245 : decode cX5_command 245 = .ok (.bipush 126, 2) := by decide +kernel
theorem dX5_command_247 : decode cX5_command 247 = .ok (.bipush 107, 2) := by decide +kernel
theorem dX5_command_249 : decode cX5_command 249 = .ok (.invokestatic 181, 3) := by decide +kernel
theorem dX5_command_252 : decode cX5_command 252 = .ok (.ifCond .ne 9, 3) := by decide +kernel
theorem dX5_command_255 : decode cX5_command 255 = .ok (.iload_n 3, 1) := by decide +kernel
theorem dX5_command_256 : decode cX5_command 256 = .ok (.bipush 88, 2) := by decide +kernel
theorem dX5_command_258 : decode cX5_command 258 = .ok (.if_icmp .ne 9, 3) := by decide +kernel
theorem dX5_command_261 : decode cX5_command 261 = .ok (.aload_n 0, 1) := by decide +kernel
theorem dX5_command_262 : decode cX5_command 262 = .ok (.iload_n 3, 1) := by decide +kernel
theorem dX5_command_263 : decode cX5_command 263 = .ok (.invokevirtual 207, 3) := by decide +kernel
theorem dX5_command_266 : decode cX5_command 266 = .ok (.ireturn, 1) := by decide +kernel
theorem dX5_command_267 : decode cX5_command 267 = .ok (.iload_n 3, 1) := by decide +kernel
theorem dX5_command_268 : decode cX5_command 268 = .ok (.bipush 100, 2) := by decide +kernel
theorem dX5_command_270 : decode cX5_command 270 = .ok (.bipush 114, 2) := by decide +kernel
theorem dX5_command_272 : decode cX5_command 272 = .ok (.bipush 68, 2) := by decide +kernel
theorem dX5_command_274 : decode cX5_command 274 = .ok (.bipush 99, 2) := by decide +kernel
theorem dX5_command_276 : decode cX5_command 276 = .ok (.invokestatic 181, 3) := by decide +kernel
theorem dX5_command_279 : decode cX5_command 279 = .ok (.ifCond .ne 18, 3) := by decide +kernel
theorem dX5_command_282 : decode cX5_command 282 = .ok (.iload_n 3, 1) := by decide +kernel
theorem dX5_command_283 : decode cX5_command 283 = .ok (.bipush 122, 2) := by decide +kernel
theorem dX5_command_285 : decode cX5_command 285 = .ok (.bipush 75, 2) := by decide +kernel
theorem dX5_command_287 : decode cX5_command 287 = .ok (.bipush 112, 2) := by decide +kernel
theorem dX5_command_289 : decode cX5_command 289 = .ok (.bipush 112, 2) := by decide +kernel
theorem dX5_command_291 : decode cX5_command 291 = .ok (.invokestatic 181, 3) := by decide +kernel
theorem dX5_command_294 : decode cX5_command 294 = .ok (.ifCond .eq 9, 3) := by decide +kernel
theorem dX5_command_297 : decode cX5_command 297 = .ok (.aload_n 0, 1) := by decide +kernel
theorem dX5_command_298 : decode cX5_command 298 = .ok (.iload_n 3, 1) := by decide +kernel
theorem dX5_command_299 : decode cX5_command 299 = .ok (.invokevirtual 210, 3) := by decide +kernel
theorem dX5_command_302 : decode cX5_command 302 = .ok (.ireturn, 1) := by decide +kernel
theorem dX5_command_303 : decode cX5_command 303 = .ok (.aload_n 0, 1) := by decide +kernel
theorem dX5_command_304 : decode cX5_command 304 = .ok (.iconst 1, 1) := by decide +kernel
theorem dX5_command_305 : decode cX5_command 305 = .ok (.invokevirtual 54, 3) := by decide +kernel
theorem dX5_command_308 : decode cX5_command 308 = .ok (.ireturn, 1) := by decide +kernel
set_option maxRecDepth 20000 in
theorem ggX5_run_X5_within : GoodIn wsX5_run wsX5_within := goodIn_r _ [17] (by decide +kernel) (by decide +kernel)
set_option maxRecDepth 20000 in
theorem gX5_run_X5_within : GoodIn wsX5_run (va_wsS RX5 127 yX5_within wsX5_within) := goodIn_app (goodIn_of _ (by decide +kernel)) ggX5_run_X5_within
set_option maxRecDepth 20000 in
theorem ggX5_run_X5_isNothing : GoodIn wsX5_run wsX5_isNothing := goodIn_r _ [21] (by decide +kernel) (by decide +kernel)
set_option maxRecDepth 20000 in
theorem gX5_run_X5_isNothing : GoodIn wsX5_run (wsV RX5 114 RX5 yX5_isNothing wsX5_isNothing) := goodIn_app (goodIn_of _ (by decide +kernel)) ggX5_run_X5_isNothing
set_option maxRecDepth 20000 in
theorem ggX5_run_X5_command : GoodIn wsX5_run wsX5_command := goodIn_r _ [25, 7, 26, 27, 28, 29, 10, 6, 30, 31, 32, 16, 33, 8, 11, 14, 15, 17, 34, 35, 36, 37, 38, 39, 40, 41, 42, 5, 43, 44, 45, 46, 47, 48, 49, 50, 51, 52, 53, 54, 55, 56, 57, 58, 59, 60, 61, 62, 63, 64, 65, 66, 67, 68, 69, 70, 71, 72, 73, 74, 75, 76, 77, 78, 79, 80, 81, 82, 83, 84, 85, 86, 87, 88, 89, 90, 91, 92, 93, 94, 95, 96, 97, 98, 99, 100, 101, 102, 103, 104, 105, 106, 107, 108, 109, 110, 111, 112, 18, 19, 20, 21, 113, 114, 115, 116, 117, 118, 119, 120, 121, 122, 123, 124, 125, 126, 127, 128, 129, 130, 131, 132, 133, 134, 135, 136, 137, 138, 139, 140, 141, 142, 143, 144, 145, 146, 147, 148, 149, 150, 151, 152, 153, 154, 155, 156, 157, 158, 159, 160, 161, 162, 163, 164, 165, 3, 166, 167, 168, 169, 170, 171, 172, 173, 174, 175, 176, 177, 178, 179, 180, 181, 182, 183, 184, 185, 186, 187, 188] (by decide +kernel) (by decide +kernel)
set_option maxRecDepth 20000 in
theorem gX5_run_X5_command : GoodIn wsX5_run (wsV RX5 219 RX5 yX5_command wsX5_command) := goodIn_app (goodIn_of _ (by decide +kernel)) ggX5_run_X5_command
theorem dX5_run_0 : decode cX5_run 0 = .ok (.aload_n 0, 1) := by decide +kernel
theorem dX5_run_1 : decode cX5_run 1 = .ok (.iconst 1, 1) := by decide +kernel
theorem dX5_run_2 : decode cX5_run 2 = .ok (.putfield 41, 3) := by decide +kernel
theorem dX5_run_5 : decode cX5_run 5 = .ok (.iload_n 1, 1) := by decide +kernel
theorem dX5_run_6 : decode cX5_run 6 = .ok (.i2l, 1) := by decide +kernel
theorem dX5_run_7 : decode cX5_run 7 = .ok (.lconst 0, 1) := by decide +kernel
theorem dX5_run_8 : decode cX5_run 8 = .ok (.ldc2_w 213, 3) := by decide +kernel
theorem dX5_run_11 : decode cX5_run 11 = .ok (.invokestatic 127, 3) := by decide +kernel
theorem dX5_run_14 : decode cX5_run 14 = .ok (.ifCond .ne 5, 3) := by decide +kernel
theorem dX5_run_17 : decode cX5_run 17 = .ok (.iconst 0, 1) := by decide +kernel
theorem dX5_run_18 : decode cX5_run 18 = .ok (.ireturn, 1) := by decide +kernel
theorem dX5_run_19 : decode cX5_run 19 = .ok (.aload_n 0, 1) := by decide +kernel
theorem dX5_run_20 : decode cX5_run 20 = .ok (.iconst 0, 1) := by decide +kernel
theorem dX5_run_21 : decode cX5_run 21 = .ok (.putfield 157, 3) := by decide +kernel
theorem dX5_run_24 : decode cX5_run 24 = .ok (.aload_n 0, 1) := by decide +kernel
theorem dX5_run_25 : decode cX5_run 25 = .ok (.iconst 0, 1) := by decide +kernel
theorem dX5_run_26 : decode cX5_run 26 = .ok (.putfield 215, 3) := by decide +kernel
theorem dX5_run_29 : decode cX5_run 29 = .ok (.aload_n 0, 1) := by decide +kernel
theorem dX5_run_30 : decode cX5_run 30 = .ok (.iconst 0, 1) := by decide +kernel
theorem dX5_run_31 : decode cX5_run 31 = .ok (.putfield 48, 3) := by decide +kernel
theorem dX5_run_34 : decode cX5_run 34 = .ok (.aload_n 0, 1) := by decide +kernel
theorem dX5_run_35 : decode cX5_run 35 = .ok (.iconst 0, 1) := by decide +kernel
theorem dX5_run_36 : decode cX5_run 36 = .ok (.putfield 203, 3) := by decide +kernel
theorem dX5_run_39 : decode cX5_run 39 = .ok (.aload_n 0, 1) := by decide +kernel
theorem dX5_run_40 : decode cX5_run 40 = .ok (.iconst 1, 1) := by decide +kernel
theorem dX5_run_41 : decode cX5_run 41 = .ok (.putfield 111, 3) := by decide +kernel
theorem dX5_run_44 : decode cX5_run 44 = .ok (.aload_n 0, 1) := by decide +kernel
theorem dX5_run_45 : decode cX5_run 45 = .ok (.getfield 29, 3) := by decide +kernel
theorem dX5_run_48 : decode cX5_run 48 = .ok (.iconst 0, 1) := by decide +kernel
theorem dX5_run_49 : decode cX5_run 49 = .ok (.aload_n 0, 1) := by decide +kernel
theorem dX5_run_50 : decode cX5_run 50 = .ok (.getfield 45, 3) := by decide +kernel
theorem dX5_run_53 : decode cX5_run 53 = .ok (.iastore, 1) := by decide +kernel
theorem dX5_run_54 : decode cX5_run 54 = .ok (.aload_n 0, 1) := by decide +kernel
theorem dX5_run_55 : decode cX5_run 55 = .ok (.getfield 32, 3) := by decide +kernel
theorem dX5_run_58 : decode cX5_run 58 = .ok (.iconst 0, 1) := by decide +kernel
theorem dX5_run_59 : decode cX5_run 59 = .ok (.iconst 0, 1) := by decide +kernel
theorem dX5_run_60 : decode cX5_run 60 = .ok (.iastore, 1) := by decide +kernel
theorem dX5_run_61 : decode cX5_run 61 = .ok (.iconst 0, 1) := by decide +kernel
theorem dX5_run_62 : decode cX5_run 62 = .ok (.istore_n 2, 1) := by decide +kernel
theorem dX5_run_63 : decode cX5_run 63 = .ok (.iload_n 2, 1) := by decide +kernel
theorem dX5_run_64 : decode cX5_run 64 = .ok (.aload_n 0, 1) := by decide +kernel
theorem dX5_run_65 : decode cX5_run 65 = .ok (.getfield 45, 3) := by decide +kernel
theorem dX5_run_68 : decode cX5_run 68 = .ok (.if_icmp .ge 21, 3) := by decide +kernel
theorem dX5_run_71 : decode cX5_run 71 = .ok (.aload_n 0, 1) := by decide +kernel
theorem dX5_run_72 : decode cX5_run 72 = .ok (.getfield 26, 3) := by decide +kernel
theorem dX5_run_75 : decode cX5_run 75 = .ok (.iload_n 2, 1) := by decide +kernel
theorem dX5_run_76 : decode cX5_run 76 = .ok (.aload_n 0, 1) := by decide +kernel
theorem dX5_run_77 : decode cX5_run 77 = .ok (.getfield 7, 3) := by decide +kernel
theorem dX5_run_80 : decode cX5_run 80 = .ok (.iload_n 2, 1) := by decide +kernel
theorem dX5_run_81 : decode cX5_run 81 = .ok (.iaload, 1) := by decide +kernel
theorem dX5_run_82 : decode cX5_run 82 = .ok (.iastore, 1) := by decide +kernel
theorem dX5_run_83 : decode cX5_run 83 = .ok (.iinc 2 1, 3) := by decide +kernel
theorem dX5_run_86 : decode cX5_run 86 = .ok (.goto (-23), 3) := by decide +kernel
theorem dX5_run_89 : decode cX5_run 89 = .ok (.iconst 0, 1) := by decide +kernel
theorem dX5_run_90 : decode cX5_run 90 = .ok (.istore_n 2, 1) := by decide +kernel
theorem dX5_run_91 : decode cX5_run 91 = .ok (.iload_n 2, 1) := by decide +kernel
theorem dX5_run_92 : decode cX5_run 92 = .ok (.ldc 218, 2) := by decide +kernel
theorem dX5_run_94 : decode cX5_run 94 = .ok (.if_icmp .ge 137, 3) := by decide +kernel
theorem dX5_run_97 : decode cX5_run 97 = .ok (.aload_n 0, 1) := by decide +kernel
theorem dX5_run_98 : decode cX5_run 98 = .ok (.getfield 111, 3) := by decide +kernel
theorem dX5_run_101 : decode cX5_run 101 = .ok (.ifCond .le 130, 3) := by decide +kernel
theorem dX5_run_104 : decode cX5_run 104 = .ok (.aload_n 0, 1) := by decide +kernel
theorem dX5_run_105 : decode cX5_run 105 = .ok (.getfield 203, 3) := by decide +kernel
theorem dX5_run_108 : decode cX5_run 108 = .ok (.ifCond .ne 123, 3) := by decide +kernel
theorem dX5_run_111 : decode cX5_run 111 = .ok (.aload_n 0, 1) := by decide +kernel
theorem dX5_run_112 : decode cX5_run 112 = .ok (.getfield 48, 3) := by decide +kernel
theorem dX5_run_115 : decode cX5_run 115 = .ok (.ifCond .ne 116, 3) := by decide +kernel
theorem dX5_run_118 : decode cX5_run 118 = .ok (.aload_n 0, 1) := by decide +kernel
theorem dX5_run_119 : decode cX5_run 119 = .ok (.getfield 111, 3) := by decide +kernel
theorem dX5_run_122 : decode cX5_run 122 = .ok (.iconst 1, 1) := by decide +kernel
theorem dX5_run_123 : decode cX5_run 123 = .ok (.isub, 1) := by decide +kernel
theorem dX5_run_124 : decode cX5_run 124 = .ok (.istore_n 3, 1) := by decide +kernel
theorem dX5_run_125 : decode cX5_run 125 = .ok (.aload_n 0, 1) := by decide +kernel
theorem dX5_run_126 : decode cX5_run 126 = .ok (.getfield 32, 3) := by decide +kernel
theorem dX5_run_129 : decode cX5_run 129 = .ok (.iload_n 3, 1) := by decide +kernel
theorem dX5_run_130 : decode cX5_run 130 = .ok (.iaload, 1) := by decide +kernel
theorem dX5_run_131 : decode cX5_run 131 = .ok (.istore 4, 2) := by decide +kernel
theorem dX5_run_133 : decode cX5_run 133 = .ok (.iload 4, 2) := by decide +kernel
theorem dX5_run_135 : decode cX5_run 135 = .ok (.aload_n 0, 1) := by decide +kernel
theorem dX5_run_136 : decode cX5_run 136 = .ok (.getfield 29, 3) := by decide +kernel
theorem dX5_run_139 : decode cX5_run 139 = .ok (.iload_n 3, 1) := by decide +kernel
theorem dX5_run_140 : decode cX5_run 140 = .ok (.iaload, 1) := by decide +kernel
theorem dX5_run_141 : decode cX5_run 141 = .ok (.if_icmp .lt 16, 3) := by decide +kernel
theorem dX5_run_144 : decode cX5_run 144 = .ok (.aload_n 0, 1) := by decide +kernel
theorem dX5_run_145 : decode cX5_run 145 = .ok (.dup, 1) := by decide +kernel
theorem dX5_run_146 : decode cX5_run 146 = .ok (.getfield 111, 3) := by decide +kernel
theorem dX5_run_149 : decode cX5_run 149 = .ok (.iconst 1, 1) := by decide +kernel
theorem dX5_run_150 : decode cX5_run 150 = .ok (.isub, 1) := by decide +kernel
theorem dX5_run_151 : decode cX5_run 151 = .ok (.putfield 111, 3) := by decide +kernel
theorem dX5_run_154 : decode cX5_run 154 = .ok (.goto 71, 3) := by decide +kernel
theorem dX5_run_157 : decode cX5_run 157 = .ok (.aload_n 0, 1) := by decide +kernel
theorem dX5_run_158 : decode cX5_run 158 = .ok (.aload_n 0, 1) := by decide +kernel
theorem dX5_run_159 : decode cX5_run 159 = .ok (.getfield 26, 3) := by decide +kernel
theorem dX5_run_162 : decode cX5_run 162 = .ok (.sipush 160, 3) := by decide +kernel
theorem dX5_run_165 : decode cX5_run 165 = .ok (.iload_n 3, 1) := by decide +kernel
theorem dX5_run_166 : decode cX5_run 166 = .ok (.imul, 1) := by decide +kernel
theorem dX5_run_167 : decode cX5_run 167 = .ok (.iload 4, 2) := by decide +kernel
theorem dX5_run_169 : decode cX5_run 169 = .ok (.iadd, 1) := by decide +kernel
theorem dX5_run_170 : decode cX5_run 170 = .ok (.iaload, 1) := by decide +kernel
theorem dX5_run_171 : decode cX5_run 171 = .ok (.invokevirtual 114, 3) := by decide +kernel
theorem dX5_run_174 : decode cX5_run 174 = .ok (.ifCond .eq 16, 3) := by decide +kernel
theorem dX5_run_177 : decode cX5_run 177 = .ok (.aload_n 0, 1) := by decide +kernel
theorem dX5_run_178 : decode cX5_run 178 = .ok (.getfield 32, 3) := by decide +kernel
theorem dX5_run_181 : decode cX5_run 181 = .ok (.iload_n 3, 1) := by decide +kernel
theorem dX5_run_182 : decode cX5_run 182 = .ok (.iload 4, 2) := by decide +kernel
theorem dX5_run_184 : decode cX5_run 184 = .ok (.iconst 1, 1) := by decide +kernel
theorem dX5_run_185 : decode cX5_run 185 = .ok (.iadd, 1) := by decide +kernel
theorem dX5_run_186 : decode cX5_run 186 = .ok (.iastore, 1) := by decide +kernel
theorem dX5_run_187 : decode cX5_run 187 = .ok (.goto 38, 3) := by decide +kernel
theorem dX5_run_190 : decode cX5_run 190 = .ok (.aload_n 0, 1) := by decide +kernel
theorem dX5_run_191 : decode cX5_run 191 = .ok (.getfield 215, 3) := by decide +kernel
theorem dX5_run_194 : decode cX5_run 194 = .ok (.iload_n 1, 1) := by decide +kernel
theorem dX5_run_195 : decode cX5_run 195 = .ok (.if_icmp .ne 11, 3) := by decide +kernel
theorem dX5_run_198 : decode cX5_run 198 = .ok (.aload_n 0, 1) := by decide +kernel
theorem dX5_run_199 : decode cX5_run 199 = .ok (.iconst 5, 1) := by decide +kernel
theorem dX5_run_200 : decode cX5_run 200 = .ok (.putfield 48, 3) := by decide +kernel
theorem dX5_run_203 : decode cX5_run 203 = .ok (.goto 22, 3) := by decide +kernel
theorem dX5_run_206 : decode cX5_run 206 = .ok (.aload_n 0, 1) := by decide +kernel
theorem dX5_run_207 : decode cX5_run 207 = .ok (.iload 4, 2) := by decide +kernel
theorem dX5_run_209 : decode cX5_run 209 = .ok (.invokevirtual 219, 3) := by decide +kernel
theorem dX5_run_212 : decode cX5_run 212 = .ok (.ifCond .eq 13, 3) := by decide +kernel
theorem dX5_run_215 : decode cX5_run 215 = .ok (.aload_n 0, 1) := by decide +kernel
theorem dX5_run_216 : decode cX5_run 216 = .ok (.dup, 1) := by decide +kernel
theorem dX5_run_217 : decode cX5_run 217 = .ok (.getfield 215, 3) := by decide +kernel
theorem dX5_run_220 : decode cX5_run 220 = .ok (.iconst 1, 1) := by decide +kernel
theorem dX5_run_221 : decode cX5_run 221 = .ok (.iadd, 1) := by decide +kernel
theorem dX5_run_222 : decode cX5_run 222 = .ok (.putfield 215, 3) := by decide +kernel
theorem dX5_run_225 : decode cX5_run 225 = .ok (.iinc 2 1, 3) := by decide +kernel
theorem dX5_run_228 : decode cX5_run 228 = .ok (.goto (-137), 3) := by decide +kernel
theorem dX5_run_231 : decode cX5_run 231 = .ok (.aload_n 0, 1) := by decide +kernel
theorem dX5_run_232 : decode cX5_run 232 = .ok (.aload_n 0, 1) := by decide +kernel
theorem dX5_run_233 : decode cX5_run 233 = .ok (.getfield 48, 3) := by decide +kernel
theorem dX5_run_236 : decode cX5_run 236 = .ok (.putfield 41, 3) := by decide +kernel
theorem dX5_run_239 : decode cX5_run 239 = .ok (.aload_n 0, 1) := by decide +kernel
theorem dX5_run_240 : decode cX5_run 240 = .ok (.getfield 48, 3) := by decide +kernel
theorem dX5_run_243 : decode cX5_run 243 = .ok (.ifCond .le 7, 3) := by decide +kernel
theorem dX5_run_246 : decode cX5_run 246 = .ok (.iconst 0, 1) := by decide +kernel
theorem dX5_run_247 : decode cX5_run 247 = .ok (.goto 7, 3) := by decide +kernel
theorem dX5_run_250 : decode cX5_run 250 = .ok (.aload_n 0, 1) := by decide +kernel
theorem dX5_run_251 : decode cX5_run 251 = .ok (.getfield 215, 3) := by decide +kernel
theorem dX5_run_254 : decode cX5_run 254 = .ok (.ireturn, 1) := by decide +kernel
theorem dX5_cost_0 : decode cX5_cost 0 = .ok (.aload_n 0, 1) := by decide +kernel
theorem dX5_cost_1 : decode cX5_cost 1 = .ok (.iconst 0, 1) := by decide +kernel
theorem dX5_cost_2 : decode cX5_cost 2 = .ok (.putfield 41, 3) := by decide +kernel
theorem dX5_cost_5 : decode cX5_cost 5 = .ok (.aload_n 0, 1) := by decide +kernel
theorem dX5_cost_6 : decode cX5_cost 6 = .ok (.getfield 215, 3) := by decide +kernel
theorem dX5_cost_9 : decode cX5_cost 9 = .ok (.ireturn, 1) := by decide +kernel
theorem dX5_prints_0 : decode cX5_prints 0 = .ok (.aload_n 0, 1) := by decide +kernel
theorem dX5_prints_1 : decode cX5_prints 1 = .ok (.iconst 0, 1) := by decide +kernel
theorem dX5_prints_2 : decode cX5_prints 2 = .ok (.putfield 41, 3) := by decide +kernel
theorem dX5_prints_5 : decode cX5_prints 5 = .ok (.aload_n 0, 1) := by decide +kernel
theorem dX5_prints_6 : decode cX5_prints 6 = .ok (.getfield 157, 3) := by decide +kernel
theorem dX5_prints_9 : decode cX5_prints 9 = .ok (.ireturn, 1) := by decide +kernel
set_option maxRecDepth 20000 in
theorem ggX5_printed_X5_within : GoodIn wsX5_printed wsX5_within := goodIn_r _ [7] (by decide +kernel) (by decide +kernel)
set_option maxRecDepth 20000 in
theorem gX5_printed_X5_within : GoodIn wsX5_printed (va_wsS RX5 127 yX5_within wsX5_within) := goodIn_app (goodIn_of _ (by decide +kernel)) ggX5_printed_X5_within
theorem dX5_printed_0 : decode cX5_printed 0 = .ok (.aload_n 0, 1) := by decide +kernel
theorem dX5_printed_1 : decode cX5_printed 1 = .ok (.iconst 0, 1) := by decide +kernel
theorem dX5_printed_2 : decode cX5_printed 2 = .ok (.putfield 41, 3) := by decide +kernel
theorem dX5_printed_5 : decode cX5_printed 5 = .ok (.iload_n 1, 1) := by decide +kernel
theorem dX5_printed_6 : decode cX5_printed 6 = .ok (.i2l, 1) := by decide +kernel
theorem dX5_printed_7 : decode cX5_printed 7 = .ok (.lconst 0, 1) := by decide +kernel
theorem dX5_printed_8 : decode cX5_printed 8 = .ok (.aload_n 0, 1) := by decide +kernel
theorem dX5_printed_9 : decode cX5_printed 9 = .ok (.getfield 157, 3) := by decide +kernel
theorem dX5_printed_12 : decode cX5_printed 12 = .ok (.iconst 1, 1) := by decide +kernel
theorem dX5_printed_13 : decode cX5_printed 13 = .ok (.isub, 1) := by decide +kernel
theorem dX5_printed_14 : decode cX5_printed 14 = .ok (.i2l, 1) := by decide +kernel
theorem dX5_printed_15 : decode cX5_printed 15 = .ok (.invokestatic 127, 3) := by decide +kernel
theorem dX5_printed_18 : decode cX5_printed 18 = .ok (.ifCond .eq 12, 3) := by decide +kernel
theorem dX5_printed_21 : decode cX5_printed 21 = .ok (.aload_n 0, 1) := by decide +kernel
theorem dX5_printed_22 : decode cX5_printed 22 = .ok (.getfield 35, 3) := by decide +kernel
theorem dX5_printed_25 : decode cX5_printed 25 = .ok (.iload_n 1, 1) := by decide +kernel
theorem dX5_printed_26 : decode cX5_printed 26 = .ok (.laload, 1) := by decide +kernel
theorem dX5_printed_27 : decode cX5_printed 27 = .ok (.goto 4, 3) := by decide +kernel
theorem dX5_printed_30 : decode cX5_printed 30 = .ok (.lconst 0, 1) := by decide +kernel
theorem dX5_printed_31 : decode cX5_printed 31 = .ok (.lreturn, 1) := by decide +kernel
set_option maxRecDepth 20000 in
theorem ggX5_places_X5_within : GoodIn wsX5_places wsX5_within := goodIn_r _ [7] (by decide +kernel) (by decide +kernel)
set_option maxRecDepth 20000 in
theorem gX5_places_X5_within : GoodIn wsX5_places (va_wsS RX5 127 yX5_within wsX5_within) := goodIn_app (goodIn_of _ (by decide +kernel)) ggX5_places_X5_within
theorem dX5_places_0 : decode cX5_places 0 = .ok (.aload_n 0, 1) := by decide +kernel
theorem dX5_places_1 : decode cX5_places 1 = .ok (.iconst 0, 1) := by decide +kernel
theorem dX5_places_2 : decode cX5_places 2 = .ok (.putfield 41, 3) := by decide +kernel
theorem dX5_places_5 : decode cX5_places 5 = .ok (.iload_n 1, 1) := by decide +kernel
theorem dX5_places_6 : decode cX5_places 6 = .ok (.i2l, 1) := by decide +kernel
theorem dX5_places_7 : decode cX5_places 7 = .ok (.lconst 0, 1) := by decide +kernel
theorem dX5_places_8 : decode cX5_places 8 = .ok (.aload_n 0, 1) := by decide +kernel
theorem dX5_places_9 : decode cX5_places 9 = .ok (.getfield 157, 3) := by decide +kernel
theorem dX5_places_12 : decode cX5_places 12 = .ok (.iconst 1, 1) := by decide +kernel
theorem dX5_places_13 : decode cX5_places 13 = .ok (.isub, 1) := by decide +kernel
theorem dX5_places_14 : decode cX5_places 14 = .ok (.i2l, 1) := by decide +kernel
theorem dX5_places_15 : decode cX5_places 15 = .ok (.invokestatic 127, 3) := by decide +kernel
theorem dX5_places_18 : decode cX5_places 18 = .ok (.ifCond .eq 12, 3) := by decide +kernel
theorem dX5_places_21 : decode cX5_places 21 = .ok (.aload_n 0, 1) := by decide +kernel
theorem dX5_places_22 : decode cX5_places 22 = .ok (.getfield 38, 3) := by decide +kernel
theorem dX5_places_25 : decode cX5_places 25 = .ok (.iload_n 1, 1) := by decide +kernel
theorem dX5_places_26 : decode cX5_places 26 = .ok (.iaload, 1) := by decide +kernel
theorem dX5_places_27 : decode cX5_places 27 = .ok (.goto 5, 3) := by decide +kernel
theorem dX5_places_30 : decode cX5_places 30 = .ok (.bipush (-2), 2) := by decide +kernel
theorem dX5_places_32 : decode cX5_places 32 = .ok (.ireturn, 1) := by decide +kernel
theorem dX5_depth_0 : decode cX5_depth 0 = .ok (.aload_n 0, 1) := by decide +kernel
theorem dX5_depth_1 : decode cX5_depth 1 = .ok (.iconst 0, 1) := by decide +kernel
theorem dX5_depth_2 : decode cX5_depth 2 = .ok (.putfield 41, 3) := by decide +kernel
theorem dX5_depth_5 : decode cX5_depth 5 = .ok (.aload_n 0, 1) := by decide +kernel
theorem dX5_depth_6 : decode cX5_depth 6 = .ok (.getfield 51, 3) := by decide +kernel
theorem dX5_depth_9 : decode cX5_depth 9 = .ok (.ireturn, 1) := by decide +kernel
set_option maxRecDepth 20000 in
theorem ggX5_item_X5_within : GoodIn wsX5_item wsX5_within := goodIn_r _ [7] (by decide +kernel) (by decide +kernel)
set_option maxRecDepth 20000 in
theorem gX5_item_X5_within : GoodIn wsX5_item (va_wsS RX5 127 yX5_within wsX5_within) := goodIn_app (goodIn_of _ (by decide +kernel)) ggX5_item_X5_within
theorem dX5_item_0 : decode cX5_item 0 = .ok (.aload_n 0, 1) := by decide +kernel
theorem dX5_item_1 : decode cX5_item 1 = .ok (.iconst 0, 1) := by decide +kernel
theorem dX5_item_2 : decode cX5_item 2 = .ok (.putfield 41, 3) := by decide +kernel
theorem dX5_item_5 : decode cX5_item 5 = .ok (.iload_n 1, 1) := by decide +kernel
theorem dX5_item_6 : decode cX5_item 6 = .ok (.i2l, 1) := by decide +kernel
theorem dX5_item_7 : decode cX5_item 7 = .ok (.lconst 0, 1) := by decide +kernel
theorem dX5_item_8 : decode cX5_item 8 = .ok (.aload_n 0, 1) := by decide +kernel
theorem dX5_item_9 : decode cX5_item 9 = .ok (.getfield 51, 3) := by decide +kernel
theorem dX5_item_12 : decode cX5_item 12 = .ok (.iconst 1, 1) := by decide +kernel
theorem dX5_item_13 : decode cX5_item 13 = .ok (.isub, 1) := by decide +kernel
theorem dX5_item_14 : decode cX5_item 14 = .ok (.i2l, 1) := by decide +kernel
theorem dX5_item_15 : decode cX5_item 15 = .ok (.invokestatic 127, 3) := by decide +kernel
theorem dX5_item_18 : decode cX5_item 18 = .ok (.ifCond .eq 19, 3) := by decide +kernel
theorem dX5_item_21 : decode cX5_item 21 = .ok (.aload_n 0, 1) := by decide +kernel
theorem dX5_item_22 : decode cX5_item 22 = .ok (.getfield 13, 3) := by decide +kernel
theorem dX5_item_25 : decode cX5_item 25 = .ok (.aload_n 0, 1) := by decide +kernel
theorem dX5_item_26 : decode cX5_item 26 = .ok (.getfield 51, 3) := by decide +kernel
theorem dX5_item_29 : decode cX5_item 29 = .ok (.iconst 1, 1) := by decide +kernel
theorem dX5_item_30 : decode cX5_item 30 = .ok (.isub, 1) := by decide +kernel
theorem dX5_item_31 : decode cX5_item 31 = .ok (.iload_n 1, 1) := by decide +kernel
theorem dX5_item_32 : decode cX5_item 32 = .ok (.isub, 1) := by decide +kernel
theorem dX5_item_33 : decode cX5_item 33 = .ok (.laload, 1) := by decide +kernel
theorem dX5_item_34 : decode cX5_item 34 = .ok (.goto 4, 3) := by decide +kernel
theorem dX5_item_37 : decode cX5_item 37 = .ok (.lconst 0, 1) := by decide +kernel
theorem dX5_item_38 : decode cX5_item 38 = .ok (.lreturn, 1) := by decide +kernel
set_option maxRecDepth 20000 in
theorem ggX5_scale_X5_within : GoodIn wsX5_scale wsX5_within := goodIn_r _ [7] (by decide +kernel) (by decide +kernel)
set_option maxRecDepth 20000 in
theorem gX5_scale_X5_within : GoodIn wsX5_scale (va_wsS RX5 127 yX5_within wsX5_within) := goodIn_app (goodIn_of _ (by decide +kernel)) ggX5_scale_X5_within
theorem dX5_scale_0 : decode cX5_scale 0 = .ok (.aload_n 0, 1) := by decide +kernel
theorem dX5_scale_1 : decode cX5_scale 1 = .ok (.iconst 0, 1) := by decide +kernel
theorem dX5_scale_2 : decode cX5_scale 2 = .ok (.putfield 41, 3) := by decide +kernel
theorem dX5_scale_5 : decode cX5_scale 5 = .ok (.iload_n 1, 1) := by decide +kernel
theorem dX5_scale_6 : decode cX5_scale 6 = .ok (.i2l, 1) := by decide +kernel
theorem dX5_scale_7 : decode cX5_scale 7 = .ok (.lconst 0, 1) := by decide +kernel
theorem dX5_scale_8 : decode cX5_scale 8 = .ok (.aload_n 0, 1) := by decide +kernel
theorem dX5_scale_9 : decode cX5_scale 9 = .ok (.getfield 51, 3) := by decide +kernel
theorem dX5_scale_12 : decode cX5_scale 12 = .ok (.iconst 1, 1) := by decide +kernel
theorem dX5_scale_13 : decode cX5_scale 13 = .ok (.isub, 1) := by decide +kernel
theorem dX5_scale_14 : decode cX5_scale 14 = .ok (.i2l, 1) := by decide +kernel
theorem dX5_scale_15 : decode cX5_scale 15 = .ok (.invokestatic 127, 3) := by decide +kernel
theorem dX5_scale_18 : decode cX5_scale 18 = .ok (.ifCond .eq 19, 3) := by decide +kernel
theorem dX5_scale_21 : decode cX5_scale 21 = .ok (.aload_n 0, 1) := by decide +kernel
theorem dX5_scale_22 : decode cX5_scale 22 = .ok (.getfield 17, 3) := by decide +kernel
theorem dX5_scale_25 : decode cX5_scale 25 = .ok (.aload_n 0, 1) := by decide +kernel
theorem dX5_scale_26 : decode cX5_scale 26 = .ok (.getfield 51, 3) := by decide +kernel
theorem dX5_scale_29 : decode cX5_scale 29 = .ok (.iconst 1, 1) := by decide +kernel
theorem dX5_scale_30 : decode cX5_scale 30 = .ok (.isub, 1) := by decide +kernel
theorem dX5_scale_31 : decode cX5_scale 31 = .ok (.iload_n 1, 1) := by decide +kernel
theorem dX5_scale_32 : decode cX5_scale 32 = .ok (.isub, 1) := by decide +kernel
theorem dX5_scale_33 : decode cX5_scale 33 = .ok (.iaload, 1) := by decide +kernel
theorem dX5_scale_34 : decode cX5_scale 34 = .ok (.goto 5, 3) := by decide +kernel
theorem dX5_scale_37 : decode cX5_scale 37 = .ok (.bipush (-2), 2) := by decide +kernel
theorem dX5_scale_39 : decode cX5_scale 39 = .ok (.ireturn, 1) := by decide +kernel
set_option maxRecDepth 20000 in
theorem ggX5_held_X5_within : GoodIn wsX5_held wsX5_within := goodIn_r _ [7] (by decide +kernel) (by decide +kernel)
set_option maxRecDepth 20000 in
theorem gX5_held_X5_within : GoodIn wsX5_held (va_wsS RX5 127 yX5_within wsX5_within) := goodIn_app (goodIn_of _ (by decide +kernel)) ggX5_held_X5_within
theorem dX5_held_0 : decode cX5_held 0 = .ok (.aload_n 0, 1) := by decide +kernel
theorem dX5_held_1 : decode cX5_held 1 = .ok (.iconst 0, 1) := by decide +kernel
theorem dX5_held_2 : decode cX5_held 2 = .ok (.putfield 41, 3) := by decide +kernel
theorem dX5_held_5 : decode cX5_held 5 = .ok (.iload_n 1, 1) := by decide +kernel
theorem dX5_held_6 : decode cX5_held 6 = .ok (.i2l, 1) := by decide +kernel
theorem dX5_held_7 : decode cX5_held 7 = .ok (.lconst 0, 1) := by decide +kernel
theorem dX5_held_8 : decode cX5_held 8 = .ok (.ldc2_w 222, 3) := by decide +kernel
theorem dX5_held_11 : decode cX5_held 11 = .ok (.invokestatic 127, 3) := by decide +kernel
theorem dX5_held_14 : decode cX5_held 14 = .ok (.ifCond .eq 12, 3) := by decide +kernel
theorem dX5_held_17 : decode cX5_held 17 = .ok (.aload_n 0, 1) := by decide +kernel
theorem dX5_held_18 : decode cX5_held 18 = .ok (.getfield 23, 3) := by decide +kernel
theorem dX5_held_21 : decode cX5_held 21 = .ok (.iload_n 1, 1) := by decide +kernel
theorem dX5_held_22 : decode cX5_held 22 = .ok (.iaload, 1) := by decide +kernel
theorem dX5_held_23 : decode cX5_held 23 = .ok (.goto 4, 3) := by decide +kernel
theorem dX5_held_26 : decode cX5_held 26 = .ok (.iconst (-1), 1) := by decide +kernel
theorem dX5_held_27 : decode cX5_held 27 = .ok (.ireturn, 1) := by decide +kernel
theorem dX5_precision_0 : decode cX5_precision 0 = .ok (.aload_n 0, 1) := by decide +kernel
theorem dX5_precision_1 : decode cX5_precision 1 = .ok (.iconst 0, 1) := by decide +kernel
theorem dX5_precision_2 : decode cX5_precision 2 = .ok (.putfield 41, 3) := by decide +kernel
theorem dX5_precision_5 : decode cX5_precision 5 = .ok (.aload_n 0, 1) := by decide +kernel
theorem dX5_precision_6 : decode cX5_precision 6 = .ok (.getfield 93, 3) := by decide +kernel
theorem dX5_precision_9 : decode cX5_precision 9 = .ok (.ireturn, 1) := by decide +kernel
theorem dX5_reset_0 : decode cX5_reset 0 = .ok (.aload_n 0, 1) := by decide +kernel
theorem dX5_reset_1 : decode cX5_reset 1 = .ok (.iconst 0, 1) := by decide +kernel
theorem dX5_reset_2 : decode cX5_reset 2 = .ok (.putfield 41, 3) := by decide +kernel
theorem dX5_reset_5 : decode cX5_reset 5 = .ok (.aload_n 0, 1) := by decide +kernel
theorem dX5_reset_6 : decode cX5_reset 6 = .ok (.iconst 0, 1) := by decide +kernel
theorem dX5_reset_7 : decode cX5_reset 7 = .ok (.putfield 51, 3) := by decide +kernel
theorem dX5_reset_10 : decode cX5_reset 10 = .ok (.aload_n 0, 1) := by decide +kernel
theorem dX5_reset_11 : decode cX5_reset 11 = .ok (.iconst 0, 1) := by decide +kernel
theorem dX5_reset_12 : decode cX5_reset 12 = .ok (.putfield 93, 3) := by decide +kernel
theorem dX5_reset_15 : decode cX5_reset 15 = .ok (.aload_n 0, 1) := by decide +kernel
theorem dX5_reset_16 : decode cX5_reset 16 = .ok (.iconst 0, 1) := by decide +kernel
theorem dX5_reset_17 : decode cX5_reset 17 = .ok (.putfield 157, 3) := by decide +kernel
theorem dX5_reset_20 : decode cX5_reset 20 = .ok (.iconst 0, 1) := by decide +kernel
theorem dX5_reset_21 : decode cX5_reset 21 = .ok (.istore_n 1, 1) := by decide +kernel
theorem dX5_reset_22 : decode cX5_reset 22 = .ok (.iload_n 1, 1) := by decide +kernel
theorem dX5_reset_23 : decode cX5_reset 23 = .ok (.iconst 4, 1) := by decide +kernel
theorem dX5_reset_24 : decode cX5_reset 24 = .ok (.if_icmp .ge 16, 3) := by decide +kernel
theorem dX5_reset_27 : decode cX5_reset 27 = .ok (.aload_n 0, 1) := by decide +kernel
theorem dX5_reset_28 : decode cX5_reset 28 = .ok (.getfield 23, 3) := by decide +kernel
theorem dX5_reset_31 : decode cX5_reset 31 = .ok (.iload_n 1, 1) := by decide +kernel
theorem dX5_reset_32 : decode cX5_reset 32 = .ok (.iconst 0, 1) := by decide +kernel
theorem dX5_reset_33 : decode cX5_reset 33 = .ok (.iastore, 1) := by decide +kernel
theorem dX5_reset_34 : decode cX5_reset 34 = .ok (.iinc 1 1, 3) := by decide +kernel
theorem dX5_reset_37 : decode cX5_reset 37 = .ok (.goto (-15), 3) := by decide +kernel
theorem dX5_reset_40 : decode cX5_reset 40 = .ok (.return_, 1) := by decide +kernel
theorem dJ13_compare_74951_0 : decode cJ13_compare_74951 0 = .ok (.lload_n 0, 1) := by decide +kernel
theorem dJ13_compare_74951_1 : decode cJ13_compare_74951 1 = .ok (.lload_n 2, 1) := by decide +kernel
theorem dJ13_compare_74951_2 : decode cJ13_compare_74951 2 = .ok (.lcmp, 1) := by decide +kernel
theorem dJ13_compare_74951_3 : decode cJ13_compare_74951 3 = .ok (.ifCond .ge 7, 3) := by decide +kernel
theorem dJ13_compare_74951_6 : decode cJ13_compare_74951 6 = .ok (.iconst (-1), 1) := by decide +kernel
theorem dJ13_compare_74951_7 : decode cJ13_compare_74951 7 = .ok (.goto 14, 3) := by decide +kernel
theorem dJ13_compare_74951_10 : decode cJ13_compare_74951 10 = .ok (.lload_n 0, 1) := by decide +kernel
theorem dJ13_compare_74951_11 : decode cJ13_compare_74951 11 = .ok (.lload_n 2, 1) := by decide +kernel
theorem dJ13_compare_74951_12 : decode cJ13_compare_74951 12 = .ok (.lcmp, 1) := by decide +kernel
theorem dJ13_compare_74951_13 : decode cJ13_compare_74951 13 = .ok (.ifCond .ne 7, 3) := by decide +kernel
theorem dJ13_compare_74951_16 : decode cJ13_compare_74951 16 = .ok (.iconst 0, 1) := by decide +kernel
theorem dJ13_compare_74951_17 : decode cJ13_compare_74951 17 = .ok (.goto 4, 3) := by decide +kernel
theorem dJ13_compare_74951_20 : decode cJ13_compare_74951 20 = .ok (.iconst 1, 1) := by decide +kernel
theorem dJ13_compare_74951_21 : decode cJ13_compare_74951 21 = .ok (.ireturn, 1) := by decide +kernel
theorem dJ9_abs_067f4_0 : decode cJ9_abs_067f4 0 = .ok (.lload_n 0, 1) := by decide +kernel
theorem dJ9_abs_067f4_1 : decode cJ9_abs_067f4 1 = .ok (.lconst 0, 1) := by decide +kernel
theorem dJ9_abs_067f4_2 : decode cJ9_abs_067f4 2 = .ok (.lcmp, 1) := by decide +kernel
theorem dJ9_abs_067f4_3 : decode cJ9_abs_067f4 3 = .ok (.ifCond .ge 8, 3) := by decide +kernel
theorem dJ9_abs_067f4_6 : decode cJ9_abs_067f4 6 = .ok (.lload_n 0, 1) := by decide +kernel
theorem dJ9_abs_067f4_7 : decode cJ9_abs_067f4 7 = .ok (.lneg, 1) := by decide +kernel
theorem dJ9_abs_067f4_8 : decode cJ9_abs_067f4 8 = .ok (.goto 4, 3) := by decide +kernel
theorem dJ9_abs_067f4_11 : decode cJ9_abs_067f4 11 = .ok (.lload_n 0, 1) := by decide +kernel
theorem dJ9_abs_067f4_12 : decode cJ9_abs_067f4 12 = .ok (.lreturn, 1) := by decide +kernel
theorem dJ9_max_7cf53_0 : decode cJ9_max_7cf53 0 = .ok (.iload_n 0, 1) := by decide +kernel
theorem dJ9_max_7cf53_1 : decode cJ9_max_7cf53 1 = .ok (.iload_n 1, 1) := by decide +kernel
theorem dJ9_max_7cf53_2 : decode cJ9_max_7cf53 2 = .ok (.if_icmp .lt 7, 3) := by decide +kernel
theorem dJ9_max_7cf53_5 : decode cJ9_max_7cf53 5 = .ok (.iload_n 0, 1) := by decide +kernel
theorem dJ9_max_7cf53_6 : decode cJ9_max_7cf53 6 = .ok (.goto 4, 3) := by decide +kernel
theorem dJ9_max_7cf53_9 : decode cJ9_max_7cf53 9 = .ok (.iload_n 1, 1) := by decide +kernel
theorem dJ9_max_7cf53_10 : decode cJ9_max_7cf53 10 = .ok (.ireturn, 1) := by decide +kernel
theorem dJ9_min_7cf53_0 : decode cJ9_min_7cf53 0 = .ok (.iload_n 0, 1) := by decide +kernel
theorem dJ9_min_7cf53_1 : decode cJ9_min_7cf53 1 = .ok (.iload_n 1, 1) := by decide +kernel
theorem dJ9_min_7cf53_2 : decode cJ9_min_7cf53 2 = .ok (.if_icmp .gt 7, 3) := by decide +kernel
theorem dJ9_min_7cf53_5 : decode cJ9_min_7cf53 5 = .ok (.iload_n 0, 1) := by decide +kernel
theorem dJ9_min_7cf53_6 : decode cJ9_min_7cf53 6 = .ok (.goto 4, 3) := by decide +kernel
theorem dJ9_min_7cf53_9 : decode cJ9_min_7cf53 9 = .ok (.iload_n 1, 1) := by decide +kernel
theorem dJ9_min_7cf53_10 : decode cJ9_min_7cf53 10 = .ok (.ireturn, 1) := by decide +kernel
set_option maxRecDepth 20000 in
theorem ggL_run_X4_run : GoodIn wsL_run wsX4_run := goodIn_ca (goodIn_ca (goodIn_ca (goodIn_ca (goodIn_ca (goodIn_ca (goodIn_ca (goodIn_ca (goodIn_r _ [10, 11, 12, 13, 14, 15, 16, 17, 18, 19, 20, 21, 22, 23, 24, 25, 26, 27, 28, 29, 30, 31, 32, 33, 34, 35, 36, 37, 38, 39, 40, 41, 42, 43, 44, 45, 46, 47, 48, 49, 50, 51, 52, 53, 54, 55, 56, 57, 58, 59, 60, 61, 62, 63, 64, 65, 66, 67, 68, 69, 70, 71, 72, 73, 74, 75, 76, 9, 77, 78, 79, 80, 81, 82, 83, 84, 85, 86, 87, 88, 89, 90, 91, 92, 93, 94, 95, 96, 97, 98, 99, 100, 101, 102, 103, 104, 105, 106, 107, 108, 109, 110, 111, 112, 113, 114, 115, 116, 117, 118, 119, 120, 121, 122, 123, 124, 125, 126, 127, 128, 129, 130, 131, 132, 133, 134, 135, 136, 137, 138, 139, 140, 141, 142, 143, 144, 145, 146, 147, 148, 149, 150, 151, 152, 153, 154, 155, 156, 157, 158, 159, 160, 161, 162, 163, 164, 165, 166, 167, 168, 169, 170, 171, 172, 173, 174, 175, 176, 177, 178, 179, 180, 181, 182, 183, 184, 185, 186, 187, 188, 189, 190, 191, 192, 193, 194, 195, 196, 197, 198, 199, 200, 201, 202, 203, 204, 205, 206, 207, 208, 209, 210, 211, 212, 213, 214, 215, 216, 217, 218, 219, 220, 221, 222, 223, 224, 225, 226, 227, 228, 229, 230, 231, 232, 233, 234, 235, 236, 237, 238, 239, 240, 241, 242, 243, 244, 245, 246, 247, 248, 249, 250, 251, 252, 253, 254, 255, 256, 257, 258, 259, 260, 261, 262, 263, 264, 265, 266, 267, 268, 269, 270, 271, 272, 273, 274, 275, 276, 277, 278, 279, 280, 281, 282, 283, 284, 285, 286, 287, 288, 289, 290, 291, 292, 293, 294, 295, 296, 297, 298, 299, 300, 301, 302, 303, 304, 305, 306] (by decide +kernel) (by decide +kernel)) (goodIn_sub (fun _ h => List.mem_cons_of_mem _ (List.mem_append_left _ (List.mem_append_left _ (List.mem_append_left _ (List.mem_append_left _ (List.mem_append_left _ (List.mem_append_left _ (List.mem_append_left _ (List.mem_append_right _ h))))))))) (by decide +kernel))) (goodIn_sub (fun _ h => List.mem_cons_of_mem _ (List.mem_append_left _ (List.mem_append_left _ (List.mem_append_left _ (List.mem_append_left _ (List.mem_append_left _ (List.mem_append_left _ (List.mem_append_right _ h)))))))) (by decide +kernel))) (goodIn_sub (fun _ h => List.mem_cons_of_mem _ (List.mem_append_left _ (List.mem_append_left _ (List.mem_append_left _ (List.mem_append_left _ (List.mem_append_left _ (List.mem_append_right _ h))))))) (by decide +kernel))) (goodIn_sub (fun _ h => List.mem_cons_of_mem _ (List.mem_append_left _ (List.mem_append_left _ (List.mem_append_left _ (List.mem_append_left _ (List.mem_append_right _ h)))))) (by decide +kernel))) (goodIn_sub (fun _ h => List.mem_cons_of_mem _ (List.mem_append_left _ (List.mem_append_left _ (List.mem_append_left _ (List.mem_append_right _ h))))) (by decide +kernel))) (goodIn_sub (fun _ h => List.mem_cons_of_mem _ (List.mem_append_left _ (List.mem_append_left _ (List.mem_append_right _ h)))) (by decide +kernel))) (goodIn_sub (fun _ h => List.mem_cons_of_mem _ (List.mem_append_left _ (List.mem_append_right _ h))) (by decide +kernel))) (goodIn_sub (fun _ h => List.mem_cons_of_mem _ (List.mem_append_right _ h)) (by decide +kernel))
set_option maxRecDepth 20000 in
theorem gL_run_X4_run : GoodIn wsL_run (wsV RL 7 RX4 yX4_run wsX4_run) := goodIn_app (goodIn_of _ (by decide +kernel)) ggL_run_X4_run
theorem dL_run_0 : decode cL_run 0 = .ok (.aload_n 2, 1) := by decide +kernel
theorem dL_run_1 : decode cL_run 1 = .ok (.iconst 0, 1) := by decide +kernel
theorem dL_run_2 : decode cL_run 2 = .ok (.aload_n 0, 1) := by decide +kernel
theorem dL_run_3 : decode cL_run 3 = .ok (.iload_n 1, 1) := by decide +kernel
theorem dL_run_4 : decode cL_run 4 = .ok (.invokevirtual 7, 3) := by decide +kernel
theorem dL_run_7 : decode cL_run 7 = .ok (.i2l, 1) := by decide +kernel
theorem dL_run_8 : decode cL_run 8 = .ok (.lastore, 1) := by decide +kernel
theorem dL_run_9 : decode cL_run 9 = .ok (.goto 18, 3) := by decide +kernel
theorem dL_run_12 : decode cL_run 12 = .ok (.astore_n 3, 1) := by decide +kernel
theorem dL_run_13 : decode cL_run 13 = .ok (.iconst 1, 1) := by decide +kernel
theorem dL_run_14 : decode cL_run 14 = .ok (.ireturn, 1) := by decide +kernel
theorem dL_run_15 : decode cL_run 15 = .ok (.astore_n 3, 1) := by decide +kernel
theorem dL_run_16 : decode cL_run 16 = .ok (.iconst 2, 1) := by decide +kernel
theorem dL_run_17 : decode cL_run 17 = .ok (.ireturn, 1) := by decide +kernel
theorem dL_run_18 : decode cL_run 18 = .ok (.astore_n 3, 1) := by decide +kernel
theorem dL_run_19 : decode cL_run 19 = .ok (.iconst 3, 1) := by decide +kernel
theorem dL_run_20 : decode cL_run 20 = .ok (.ireturn, 1) := by decide +kernel
theorem dL_run_21 : decode cL_run 21 = .ok (.astore_n 3, 1) := by decide +kernel
theorem dL_run_22 : decode cL_run 22 = .ok (.iconst 4, 1) := by decide +kernel
theorem dL_run_23 : decode cL_run 23 = .ok (.ireturn, 1) := by decide +kernel
theorem dL_run_24 : decode cL_run 24 = .ok (.astore_n 3, 1) := by decide +kernel
theorem dL_run_25 : decode cL_run 25 = .ok (.iconst 5, 1) := by decide +kernel
theorem dL_run_26 : decode cL_run 26 = .ok (.ireturn, 1) := by decide +kernel
theorem dL_run_27 : decode cL_run 27 = .ok (.iconst 0, 1) := by decide +kernel
theorem dL_run_28 : decode cL_run 28 = .ok (.ireturn, 1) := by decide +kernel
end
section
theorem i_bm {z : Int} (h1 : -2147483648 ≤ z) (h2 : z < 2147483648) : z.bmod (2 ^ 32) = z := by
  rw [Int.bmod_def]; omega
theorem i_add {a b : Int32} (h1 : -2147483648 ≤ a.toInt + b.toInt) (h2 : a.toInt + b.toInt < 2147483648) : (a + b).toInt = a.toInt + b.toInt := by
  rw [Int32.toInt_add]; exact i_bm h1 h2
theorem i_sub {a b : Int32} (h1 : -2147483648 ≤ a.toInt - b.toInt) (h2 : a.toInt - b.toInt < 2147483648) : (a - b).toInt = a.toInt - b.toInt := by
  rw [Int32.toInt_sub]; exact i_bm h1 h2
theorem i_mul {a b : Int32} (h1 : -2147483648 ≤ a.toInt * b.toInt) (h2 : a.toInt * b.toInt < 2147483648) : (a * b).toInt = a.toInt * b.toInt := by
  rw [Int32.toInt_mul]; exact i_bm h1 h2
theorem i_cl {a : Int32} (h : 0 ≤ a.toInt) : (a.toNatClampNeg : Int) = a.toInt := by
  rw [← Int32.toNat_toInt]; omega
theorem l_cmp_lt (x y : Int64) : lg_cmp x y < 0 ↔ x < y := by
  unfold lg_cmp
  by_cases h1 : y < x
  · simp [h1]; exact fun h => absurd (Int64.lt_trans h1 h) (Int64.lt_irrefl _)
  · by_cases h2 : x = y
    · simp [h2]
    · simp [h1, h2]; rcases Int64.lt_or_lt_of_ne h2 with h | h
      · exact h
      · exact absurd h h1
theorem l_cmp_gt (x y : Int64) : 0 < lg_cmp x y ↔ y < x := by
  unfold lg_cmp
  by_cases h1 : y < x
  · simp [h1]
  · by_cases h2 : x = y
    · simp [h2]
    · simp [h1, h2]
theorem l_cmp_eq (x y : Int64) : lg_cmp x y = 0 ↔ x = y := by
  unfold lg_cmp
  by_cases h1 : y < x
  · simp [h1]; intro h; subst h; exact Int64.lt_irrefl _ h1
  · by_cases h2 : x = y
    · simp [h2]
    · simp [h1, h2]
theorem l_cmp_ge (x y : Int64) : 0 ≤ lg_cmp x y ↔ y ≤ x := by
  rw [← Int32.not_lt, l_cmp_lt, Int64.not_lt]
theorem l_cmp_le (x y : Int64) : lg_cmp x y ≤ 0 ↔ x ≤ y := by
  rw [← Int32.not_lt, l_cmp_gt, Int64.not_lt]
abbrev MS : Type := (Nat → Int32) × Int64 × (Nat → Nat → Int32) × (Nat → Nat → Int64)
def si (σ : MS) (k : Nat) (v : Int32) : MS := (upd σ.1 k v, σ.2)
def sm (σ : MS) (v : Int64) : MS := (σ.1, v, σ.2.2)
def sa (σ : MS) (k j : Nat) (v : Int32) : MS := (σ.1, σ.2.1, (fun q => if q = k then upd (σ.2.2.1 k) j v else σ.2.2.1 q), σ.2.2.2)
def sb (σ : MS) (k j : Nat) (v : Int64) : MS := (σ.1, σ.2.1, σ.2.2.1, fun q => if q = k then vp_updL (σ.2.2.2 k) j v else σ.2.2.2 q)
def mW (h : Nat) (ad : Nat → Nat) (cI cJ : ClassId) (σ : MS) : va_W := [(h, .inr (4, [.ref (ad 0), .int (σ.1 1), .ref (ad 2), .ref (ad 3), .ref (ad 4), .int (σ.1 5), .int (σ.1 6), .ref (ad 7), .ref (ad 8), .ref (ad 9), .ref (ad 10), .int (σ.1 11), .ref (ad 12), .ref (ad 13), .int (σ.1 14), .int (σ.1 15), .int (σ.1 16), .int (σ.1 17), .int (σ.1 18), .long σ.2.1, .int (σ.1 20)])), (ad 0, .inl (cI, 160, .inl (σ.2.2.1 0))), (ad 2, .inl (cJ, 82, .inr (.inl (σ.2.2.2 2)))), (ad 3, .inl (cI, 82, .inl (σ.2.2.1 3))), (ad 4, .inl (cI, 13120, .inl (σ.2.2.1 4))), (ad 7, .inl (cI, 4, .inl (σ.2.2.1 7))), (ad 8, .inl (cI, 1920, .inl (σ.2.2.1 8))), (ad 9, .inl (cI, 12, .inl (σ.2.2.1 9))), (ad 10, .inl (cI, 12, .inl (σ.2.2.1 10))), (ad 12, .inl (cJ, 40, .inr (.inl (σ.2.2.2 12)))), (ad 13, .inl (cI, 40, .inl (σ.2.2.1 13)))]
def mX (p : Program) (s : State) (m : MethodId) (args : Array Value) (c : Code) (cc : ByteArray) (Ts : List Cond) (dC : Nat → ClassId) (dI : Nat → Nat → Nat) (cI cJ : ClassId) : Prop := p.tables.exec = Jvm.exec ∧ c.code = cc ∧ (∀ w ∈ Ts, w.before args s = true) ∧ (∀ w ∈ wsX50, w ∈ Ts) ∧ s.vm.findClass RX5 = some m.cls ∧ va_K (dC, dI) vwCl [(cI, .int), (cJ, .long)] s
def mH (dC : Nat → ClassId) (dI : Nat → Nat → Nat) (h : Nat) (ad : Nat → Nat) (cI cJ : ClassId) (σ : MS) (A : Nat → Prop) (H0 H : Heap) (locs : List Loc) : Prop := va_P (dC, dI) vwCl (mW h ad cI cJ σ) H ∧ va_D A (mW h ad cI cJ σ) ∧ va_S A H0 H locs
def mPre (dC : Nat → ClassId) (dI : Nat → Nat → Nat) (cI cJ : ClassId) (h : Nat) (ad : Nat → Nat) (sz : Nat) (σ : MS) : State → Prop := fun U => U.heap.size = sz ∧ va_P (dC, dI) vwCl (mW h ad cI cJ σ) U.heap ∧ va_K (dC, dI) vwCl [(cI, .int), (cJ, .long)] U ∧ va_D (fun _ => True) (mW h ad cI cJ σ)
def mAt (dC : Nat → ClassId) (dI : Nat → Nat → Nat) (cI cJ : ClassId) (h : Nat) (ad : Nat → Nat) (A : Nat → Prop) (u : MS) (t : State) : Prop := va_P (dC, dI) vwCl (mW h ad cI cJ u) t.heap ∧ va_K (dC, dI) vwCl [(cI, .int), (cJ, .long)] t ∧ va_D A (mW h ad cI cJ u)
abbrev mA (h : Nat) (ad : Nat → Nat) (cI cJ : ClassId) (σ : MS) (sz : Nat) : Nat → Prop := va_A (mW h ad cI cJ σ) sz
section MB
variable {p : Program} {l : Launch} {e : Env} {R : Room} {s : State} {m : MethodId} {args : Array Value} {below : List Frame} {meth : Method} {c : Code} {H : Heap} {locs : List Loc} {cells slots : Nat} {Q : State → Prop}
variable {cc : ByteArray} {pc : Nat} {ls : Array Slot} {rest st0 : List Value} {A : Nat → Prop} {H0 : Heap} {dC : Nat → ClassId} {dI : Nat → Nat → Nat} {cI cJ : ClassId} {h : Nat} {ad : Nat → Nat} {σ : MS} {Ts : List Cond} {index : Nat}
theorem m_get_0 (X : mX p s m args c cc Ts dC dI cI cJ) (G : mH dC dI h ad cI cJ σ A H0 H locs) (hl : Cond.fieldLink RX5 index "DeskStackModel" "program" "[I" ∈ Ts) (hdg : decode cc pc = .ok (.getfield index, 3)) (kk : W p l e R s m args below meth c H locs cells slots Q (F0 m (pc + 3) ls (.ref (ad 0) :: rest))) : W p l e R s m args below meth c H locs cells slots Q (F0 m pc ls (.ref h :: rest)) := by
  obtain ⟨hx, hb, hts, hin, hown, hK⟩ := X
  exact va_get (D := (dC, dI)) (ci := 4) (C := RX5) (T := TX5) (N := 21) hx hb hts hin hown hK G.1 0 rfl rfl 0 (by decide) (hts _ hl) (fun _ h9 => h9) rfl hdg kk
theorem m_get_1 (X : mX p s m args c cc Ts dC dI cI cJ) (G : mH dC dI h ad cI cJ σ A H0 H locs) (hl : Cond.fieldLink RX5 index "DeskStackModel" "length" "I" ∈ Ts) (hdg : decode cc pc = .ok (.getfield index, 3)) (kk : W p l e R s m args below meth c H locs cells slots Q (F0 m (pc + 3) ls (.int (σ.1 1) :: rest))) : W p l e R s m args below meth c H locs cells slots Q (F0 m pc ls (.ref h :: rest)) := by
  obtain ⟨hx, hb, hts, hin, hown, hK⟩ := X
  exact va_get (D := (dC, dI)) (ci := 4) (C := RX5) (T := TX5) (N := 21) hx hb hts hin hown hK G.1 0 rfl rfl 1 (by decide) (hts _ hl) (fun _ h9 => h9) rfl hdg kk
theorem m_put_1 (X : mX p s m args c cc Ts dC dI cI cJ) (G : mH dC dI h ad cI cJ σ A H0 H locs) {v : Int32} (hl : Cond.fieldLink RX5 index "DeskStackModel" "length" "I" ∈ Ts) (hdg : decode cc pc = .ok (.putfield index, 3)) (kk : ∀ (H1 : Heap) (locs1 : List Loc), mH dC dI h ad cI cJ (si σ 1 v) A H0 H1 locs1 → W p l e R s m args below meth c H1 locs1 cells slots Q (F0 m (pc + 3) ls rest)) : W p l e R s m args below meth c H locs cells slots Q (F0 m pc ls (.int v :: .ref h :: rest)) := by
  obtain ⟨hx, hb, hts, hin, hown, hK⟩ := X
  exact va_put (D := (dC, dI)) (ci := 4) (v := .int v) (ty := .int) (C := RX5) (T := TX5) (N := 21) hx hb hts hin tyX5 tyX5_ok nmX5 hown hK G.1 G.2.1 G.2.2 0 rfl rfl 1 (by decide) (hts _ hl) (fun _ h9 => h9) rfl (by decide +kernel) rfl rfl (Nat.le_of_ble_eq_true rfl) hdg (fun H1 locs1 hP hD hS => kk H1 locs1 ⟨hP, hD, hS⟩)
theorem m_get_2 (X : mX p s m args c cc Ts dC dI cI cJ) (G : mH dC dI h ad cI cJ σ A H0 H locs) (hl : Cond.fieldLink RX5 index "DeskStackModel" "value" "[J" ∈ Ts) (hdg : decode cc pc = .ok (.getfield index, 3)) (kk : W p l e R s m args below meth c H locs cells slots Q (F0 m (pc + 3) ls (.ref (ad 2) :: rest))) : W p l e R s m args below meth c H locs cells slots Q (F0 m pc ls (.ref h :: rest)) := by
  obtain ⟨hx, hb, hts, hin, hown, hK⟩ := X
  exact va_get (D := (dC, dI)) (ci := 4) (C := RX5) (T := TX5) (N := 21) hx hb hts hin hown hK G.1 0 rfl rfl 2 (by decide) (hts _ hl) (fun _ h9 => h9) rfl hdg kk
theorem m_get_3 (X : mX p s m args c cc Ts dC dI cI cJ) (G : mH dC dI h ad cI cJ σ A H0 H locs) (hl : Cond.fieldLink RX5 index "DeskStackModel" "places" "[I" ∈ Ts) (hdg : decode cc pc = .ok (.getfield index, 3)) (kk : W p l e R s m args below meth c H locs cells slots Q (F0 m (pc + 3) ls (.ref (ad 3) :: rest))) : W p l e R s m args below meth c H locs cells slots Q (F0 m pc ls (.ref h :: rest)) := by
  obtain ⟨hx, hb, hts, hin, hown, hK⟩ := X
  exact va_get (D := (dC, dI)) (ci := 4) (C := RX5) (T := TX5) (N := 21) hx hb hts hin hown hK G.1 0 rfl rfl 3 (by decide) (hts _ hl) (fun _ h9 => h9) rfl hdg kk
theorem m_get_4 (X : mX p s m args c cc Ts dC dI cI cJ) (G : mH dC dI h ad cI cJ σ A H0 H locs) (hl : Cond.fieldLink RX5 index "DeskStackModel" "letters" "[I" ∈ Ts) (hdg : decode cc pc = .ok (.getfield index, 3)) (kk : W p l e R s m args below meth c H locs cells slots Q (F0 m (pc + 3) ls (.ref (ad 4) :: rest))) : W p l e R s m args below meth c H locs cells slots Q (F0 m pc ls (.ref h :: rest)) := by
  obtain ⟨hx, hb, hts, hin, hown, hK⟩ := X
  exact va_get (D := (dC, dI)) (ci := 4) (C := RX5) (T := TX5) (N := 21) hx hb hts hin hown hK G.1 0 rfl rfl 4 (by decide) (hts _ hl) (fun _ h9 => h9) rfl hdg kk
theorem m_get_5 (X : mX p s m args c cc Ts dC dI cI cJ) (G : mH dC dI h ad cI cJ σ A H0 H locs) (hl : Cond.fieldLink RX5 index "DeskStackModel" "depth" "I" ∈ Ts) (hdg : decode cc pc = .ok (.getfield index, 3)) (kk : W p l e R s m args below meth c H locs cells slots Q (F0 m (pc + 3) ls (.int (σ.1 5) :: rest))) : W p l e R s m args below meth c H locs cells slots Q (F0 m pc ls (.ref h :: rest)) := by
  obtain ⟨hx, hb, hts, hin, hown, hK⟩ := X
  exact va_get (D := (dC, dI)) (ci := 4) (C := RX5) (T := TX5) (N := 21) hx hb hts hin hown hK G.1 0 rfl rfl 5 (by decide) (hts _ hl) (fun _ h9 => h9) rfl hdg kk
theorem m_put_5 (X : mX p s m args c cc Ts dC dI cI cJ) (G : mH dC dI h ad cI cJ σ A H0 H locs) {v : Int32} (hl : Cond.fieldLink RX5 index "DeskStackModel" "depth" "I" ∈ Ts) (hdg : decode cc pc = .ok (.putfield index, 3)) (kk : ∀ (H1 : Heap) (locs1 : List Loc), mH dC dI h ad cI cJ (si σ 5 v) A H0 H1 locs1 → W p l e R s m args below meth c H1 locs1 cells slots Q (F0 m (pc + 3) ls rest)) : W p l e R s m args below meth c H locs cells slots Q (F0 m pc ls (.int v :: .ref h :: rest)) := by
  obtain ⟨hx, hb, hts, hin, hown, hK⟩ := X
  exact va_put (D := (dC, dI)) (ci := 4) (v := .int v) (ty := .int) (C := RX5) (T := TX5) (N := 21) hx hb hts hin tyX5 tyX5_ok nmX5 hown hK G.1 G.2.1 G.2.2 0 rfl rfl 5 (by decide) (hts _ hl) (fun _ h9 => h9) rfl (by decide +kernel) rfl rfl (Nat.le_of_ble_eq_true rfl) hdg (fun H1 locs1 hP hD hS => kk H1 locs1 ⟨hP, hD, hS⟩)
theorem m_get_6 (X : mX p s m args c cc Ts dC dI cI cJ) (G : mH dC dI h ad cI cJ σ A H0 H locs) (hl : Cond.fieldLink RX5 index "DeskStackModel" "precision" "I" ∈ Ts) (hdg : decode cc pc = .ok (.getfield index, 3)) (kk : W p l e R s m args below meth c H locs cells slots Q (F0 m (pc + 3) ls (.int (σ.1 6) :: rest))) : W p l e R s m args below meth c H locs cells slots Q (F0 m pc ls (.ref h :: rest)) := by
  obtain ⟨hx, hb, hts, hin, hown, hK⟩ := X
  exact va_get (D := (dC, dI)) (ci := 4) (C := RX5) (T := TX5) (N := 21) hx hb hts hin hown hK G.1 0 rfl rfl 6 (by decide) (hts _ hl) (fun _ h9 => h9) rfl hdg kk
theorem m_put_6 (X : mX p s m args c cc Ts dC dI cI cJ) (G : mH dC dI h ad cI cJ σ A H0 H locs) {v : Int32} (hl : Cond.fieldLink RX5 index "DeskStackModel" "precision" "I" ∈ Ts) (hdg : decode cc pc = .ok (.putfield index, 3)) (kk : ∀ (H1 : Heap) (locs1 : List Loc), mH dC dI h ad cI cJ (si σ 6 v) A H0 H1 locs1 → W p l e R s m args below meth c H1 locs1 cells slots Q (F0 m (pc + 3) ls rest)) : W p l e R s m args below meth c H locs cells slots Q (F0 m pc ls (.int v :: .ref h :: rest)) := by
  obtain ⟨hx, hb, hts, hin, hown, hK⟩ := X
  exact va_put (D := (dC, dI)) (ci := 4) (v := .int v) (ty := .int) (C := RX5) (T := TX5) (N := 21) hx hb hts hin tyX5 tyX5_ok nmX5 hown hK G.1 G.2.1 G.2.2 0 rfl rfl 6 (by decide) (hts _ hl) (fun _ h9 => h9) rfl (by decide +kernel) rfl rfl (Nat.le_of_ble_eq_true rfl) hdg (fun H1 locs1 hP hD hS => kk H1 locs1 ⟨hP, hD, hS⟩)
theorem m_get_7 (X : mX p s m args c cc Ts dC dI cI cJ) (G : mH dC dI h ad cI cJ σ A H0 H locs) (hl : Cond.fieldLink RX5 index "DeskStackModel" "held" "[I" ∈ Ts) (hdg : decode cc pc = .ok (.getfield index, 3)) (kk : W p l e R s m args below meth c H locs cells slots Q (F0 m (pc + 3) ls (.ref (ad 7) :: rest))) : W p l e R s m args below meth c H locs cells slots Q (F0 m pc ls (.ref h :: rest)) := by
  obtain ⟨hx, hb, hts, hin, hown, hK⟩ := X
  exact va_get (D := (dC, dI)) (ci := 4) (C := RX5) (T := TX5) (N := 21) hx hb hts hin hown hK G.1 0 rfl rfl 7 (by decide) (hts _ hl) (fun _ h9 => h9) rfl hdg kk
theorem m_get_8 (X : mX p s m args c cc Ts dC dI cI cJ) (G : mH dC dI h ad cI cJ σ A H0 H locs) (hl : Cond.fieldLink RX5 index "DeskStackModel" "text" "[I" ∈ Ts) (hdg : decode cc pc = .ok (.getfield index, 3)) (kk : W p l e R s m args below meth c H locs cells slots Q (F0 m (pc + 3) ls (.ref (ad 8) :: rest))) : W p l e R s m args below meth c H locs cells slots Q (F0 m pc ls (.ref h :: rest)) := by
  obtain ⟨hx, hb, hts, hin, hown, hK⟩ := X
  exact va_get (D := (dC, dI)) (ci := 4) (C := RX5) (T := TX5) (N := 21) hx hb hts hin hown hK G.1 0 rfl rfl 8 (by decide) (hts _ hl) (fun _ h9 => h9) rfl hdg kk
theorem m_get_9 (X : mX p s m args c cc Ts dC dI cI cJ) (G : mH dC dI h ad cI cJ σ A H0 H locs) (hl : Cond.fieldLink RX5 index "DeskStackModel" "size" "[I" ∈ Ts) (hdg : decode cc pc = .ok (.getfield index, 3)) (kk : W p l e R s m args below meth c H locs cells slots Q (F0 m (pc + 3) ls (.ref (ad 9) :: rest))) : W p l e R s m args below meth c H locs cells slots Q (F0 m pc ls (.ref h :: rest)) := by
  obtain ⟨hx, hb, hts, hin, hown, hK⟩ := X
  exact va_get (D := (dC, dI)) (ci := 4) (C := RX5) (T := TX5) (N := 21) hx hb hts hin hown hK G.1 0 rfl rfl 9 (by decide) (hts _ hl) (fun _ h9 => h9) rfl hdg kk
theorem m_get_10 (X : mX p s m args c cc Ts dC dI cI cJ) (G : mH dC dI h ad cI cJ σ A H0 H locs) (hl : Cond.fieldLink RX5 index "DeskStackModel" "at" "[I" ∈ Ts) (hdg : decode cc pc = .ok (.getfield index, 3)) (kk : W p l e R s m args below meth c H locs cells slots Q (F0 m (pc + 3) ls (.ref (ad 10) :: rest))) : W p l e R s m args below meth c H locs cells slots Q (F0 m pc ls (.ref h :: rest)) := by
  obtain ⟨hx, hb, hts, hin, hown, hK⟩ := X
  exact va_get (D := (dC, dI)) (ci := 4) (C := RX5) (T := TX5) (N := 21) hx hb hts hin hown hK G.1 0 rfl rfl 10 (by decide) (hts _ hl) (fun _ h9 => h9) rfl hdg kk
theorem m_get_11 (X : mX p s m args c cc Ts dC dI cI cJ) (G : mH dC dI h ad cI cJ σ A H0 H locs) (hl : Cond.fieldLink RX5 index "DeskStackModel" "levels" "I" ∈ Ts) (hdg : decode cc pc = .ok (.getfield index, 3)) (kk : W p l e R s m args below meth c H locs cells slots Q (F0 m (pc + 3) ls (.int (σ.1 11) :: rest))) : W p l e R s m args below meth c H locs cells slots Q (F0 m pc ls (.ref h :: rest)) := by
  obtain ⟨hx, hb, hts, hin, hown, hK⟩ := X
  exact va_get (D := (dC, dI)) (ci := 4) (C := RX5) (T := TX5) (N := 21) hx hb hts hin hown hK G.1 0 rfl rfl 11 (by decide) (hts _ hl) (fun _ h9 => h9) rfl hdg kk
theorem m_put_11 (X : mX p s m args c cc Ts dC dI cI cJ) (G : mH dC dI h ad cI cJ σ A H0 H locs) {v : Int32} (hl : Cond.fieldLink RX5 index "DeskStackModel" "levels" "I" ∈ Ts) (hdg : decode cc pc = .ok (.putfield index, 3)) (kk : ∀ (H1 : Heap) (locs1 : List Loc), mH dC dI h ad cI cJ (si σ 11 v) A H0 H1 locs1 → W p l e R s m args below meth c H1 locs1 cells slots Q (F0 m (pc + 3) ls rest)) : W p l e R s m args below meth c H locs cells slots Q (F0 m pc ls (.int v :: .ref h :: rest)) := by
  obtain ⟨hx, hb, hts, hin, hown, hK⟩ := X
  exact va_put (D := (dC, dI)) (ci := 4) (v := .int v) (ty := .int) (C := RX5) (T := TX5) (N := 21) hx hb hts hin tyX5 tyX5_ok nmX5 hown hK G.1 G.2.1 G.2.2 0 rfl rfl 11 (by decide) (hts _ hl) (fun _ h9 => h9) rfl (by decide +kernel) rfl rfl (Nat.le_of_ble_eq_true rfl) hdg (fun H1 locs1 hP hD hS => kk H1 locs1 ⟨hP, hD, hS⟩)
theorem m_get_12 (X : mX p s m args c cc Ts dC dI cI cJ) (G : mH dC dI h ad cI cJ σ A H0 H locs) (hl : Cond.fieldLink RX5 index "DeskStackModel" "shown" "[J" ∈ Ts) (hdg : decode cc pc = .ok (.getfield index, 3)) (kk : W p l e R s m args below meth c H locs cells slots Q (F0 m (pc + 3) ls (.ref (ad 12) :: rest))) : W p l e R s m args below meth c H locs cells slots Q (F0 m pc ls (.ref h :: rest)) := by
  obtain ⟨hx, hb, hts, hin, hown, hK⟩ := X
  exact va_get (D := (dC, dI)) (ci := 4) (C := RX5) (T := TX5) (N := 21) hx hb hts hin hown hK G.1 0 rfl rfl 12 (by decide) (hts _ hl) (fun _ h9 => h9) rfl hdg kk
theorem m_get_13 (X : mX p s m args c cc Ts dC dI cI cJ) (G : mH dC dI h ad cI cJ σ A H0 H locs) (hl : Cond.fieldLink RX5 index "DeskStackModel" "shownPlaces" "[I" ∈ Ts) (hdg : decode cc pc = .ok (.getfield index, 3)) (kk : W p l e R s m args below meth c H locs cells slots Q (F0 m (pc + 3) ls (.ref (ad 13) :: rest))) : W p l e R s m args below meth c H locs cells slots Q (F0 m pc ls (.ref h :: rest)) := by
  obtain ⟨hx, hb, hts, hin, hown, hK⟩ := X
  exact va_get (D := (dC, dI)) (ci := 4) (C := RX5) (T := TX5) (N := 21) hx hb hts hin hown hK G.1 0 rfl rfl 13 (by decide) (hts _ hl) (fun _ h9 => h9) rfl hdg kk
theorem m_get_14 (X : mX p s m args c cc Ts dC dI cI cJ) (G : mH dC dI h ad cI cJ σ A H0 H locs) (hl : Cond.fieldLink RX5 index "DeskStackModel" "prints" "I" ∈ Ts) (hdg : decode cc pc = .ok (.getfield index, 3)) (kk : W p l e R s m args below meth c H locs cells slots Q (F0 m (pc + 3) ls (.int (σ.1 14) :: rest))) : W p l e R s m args below meth c H locs cells slots Q (F0 m pc ls (.ref h :: rest)) := by
  obtain ⟨hx, hb, hts, hin, hown, hK⟩ := X
  exact va_get (D := (dC, dI)) (ci := 4) (C := RX5) (T := TX5) (N := 21) hx hb hts hin hown hK G.1 0 rfl rfl 14 (by decide) (hts _ hl) (fun _ h9 => h9) rfl hdg kk
theorem m_put_14 (X : mX p s m args c cc Ts dC dI cI cJ) (G : mH dC dI h ad cI cJ σ A H0 H locs) {v : Int32} (hl : Cond.fieldLink RX5 index "DeskStackModel" "prints" "I" ∈ Ts) (hdg : decode cc pc = .ok (.putfield index, 3)) (kk : ∀ (H1 : Heap) (locs1 : List Loc), mH dC dI h ad cI cJ (si σ 14 v) A H0 H1 locs1 → W p l e R s m args below meth c H1 locs1 cells slots Q (F0 m (pc + 3) ls rest)) : W p l e R s m args below meth c H locs cells slots Q (F0 m pc ls (.int v :: .ref h :: rest)) := by
  obtain ⟨hx, hb, hts, hin, hown, hK⟩ := X
  exact va_put (D := (dC, dI)) (ci := 4) (v := .int v) (ty := .int) (C := RX5) (T := TX5) (N := 21) hx hb hts hin tyX5 tyX5_ok nmX5 hown hK G.1 G.2.1 G.2.2 0 rfl rfl 14 (by decide) (hts _ hl) (fun _ h9 => h9) rfl (by decide +kernel) rfl rfl (Nat.le_of_ble_eq_true rfl) hdg (fun H1 locs1 hP hD hS => kk H1 locs1 ⟨hP, hD, hS⟩)
theorem m_get_15 (X : mX p s m args c cc Ts dC dI cI cJ) (G : mH dC dI h ad cI cJ σ A H0 H locs) (hl : Cond.fieldLink RX5 index "DeskStackModel" "cost" "I" ∈ Ts) (hdg : decode cc pc = .ok (.getfield index, 3)) (kk : W p l e R s m args below meth c H locs cells slots Q (F0 m (pc + 3) ls (.int (σ.1 15) :: rest))) : W p l e R s m args below meth c H locs cells slots Q (F0 m pc ls (.ref h :: rest)) := by
  obtain ⟨hx, hb, hts, hin, hown, hK⟩ := X
  exact va_get (D := (dC, dI)) (ci := 4) (C := RX5) (T := TX5) (N := 21) hx hb hts hin hown hK G.1 0 rfl rfl 15 (by decide) (hts _ hl) (fun _ h9 => h9) rfl hdg kk
theorem m_put_15 (X : mX p s m args c cc Ts dC dI cI cJ) (G : mH dC dI h ad cI cJ σ A H0 H locs) {v : Int32} (hl : Cond.fieldLink RX5 index "DeskStackModel" "cost" "I" ∈ Ts) (hdg : decode cc pc = .ok (.putfield index, 3)) (kk : ∀ (H1 : Heap) (locs1 : List Loc), mH dC dI h ad cI cJ (si σ 15 v) A H0 H1 locs1 → W p l e R s m args below meth c H1 locs1 cells slots Q (F0 m (pc + 3) ls rest)) : W p l e R s m args below meth c H locs cells slots Q (F0 m pc ls (.int v :: .ref h :: rest)) := by
  obtain ⟨hx, hb, hts, hin, hown, hK⟩ := X
  exact va_put (D := (dC, dI)) (ci := 4) (v := .int v) (ty := .int) (C := RX5) (T := TX5) (N := 21) hx hb hts hin tyX5 tyX5_ok nmX5 hown hK G.1 G.2.1 G.2.2 0 rfl rfl 15 (by decide) (hts _ hl) (fun _ h9 => h9) rfl (by decide +kernel) rfl rfl (Nat.le_of_ble_eq_true rfl) hdg (fun H1 locs1 hP hD hS => kk H1 locs1 ⟨hP, hD, hS⟩)
theorem m_get_16 (X : mX p s m args c cc Ts dC dI cI cJ) (G : mH dC dI h ad cI cJ σ A H0 H locs) (hl : Cond.fieldLink RX5 index "DeskStackModel" "fault" "I" ∈ Ts) (hdg : decode cc pc = .ok (.getfield index, 3)) (kk : W p l e R s m args below meth c H locs cells slots Q (F0 m (pc + 3) ls (.int (σ.1 16) :: rest))) : W p l e R s m args below meth c H locs cells slots Q (F0 m pc ls (.ref h :: rest)) := by
  obtain ⟨hx, hb, hts, hin, hown, hK⟩ := X
  exact va_get (D := (dC, dI)) (ci := 4) (C := RX5) (T := TX5) (N := 21) hx hb hts hin hown hK G.1 0 rfl rfl 16 (by decide) (hts _ hl) (fun _ h9 => h9) rfl hdg kk
theorem m_put_16 (X : mX p s m args c cc Ts dC dI cI cJ) (G : mH dC dI h ad cI cJ σ A H0 H locs) {v : Int32} (hl : Cond.fieldLink RX5 index "DeskStackModel" "fault" "I" ∈ Ts) (hdg : decode cc pc = .ok (.putfield index, 3)) (kk : ∀ (H1 : Heap) (locs1 : List Loc), mH dC dI h ad cI cJ (si σ 16 v) A H0 H1 locs1 → W p l e R s m args below meth c H1 locs1 cells slots Q (F0 m (pc + 3) ls rest)) : W p l e R s m args below meth c H locs cells slots Q (F0 m pc ls (.int v :: .ref h :: rest)) := by
  obtain ⟨hx, hb, hts, hin, hown, hK⟩ := X
  exact va_put (D := (dC, dI)) (ci := 4) (v := .int v) (ty := .int) (C := RX5) (T := TX5) (N := 21) hx hb hts hin tyX5 tyX5_ok nmX5 hown hK G.1 G.2.1 G.2.2 0 rfl rfl 16 (by decide) (hts _ hl) (fun _ h9 => h9) rfl (by decide +kernel) rfl rfl (Nat.le_of_ble_eq_true rfl) hdg (fun H1 locs1 hP hD hS => kk H1 locs1 ⟨hP, hD, hS⟩)
theorem m_get_17 (X : mX p s m args c cc Ts dC dI cI cJ) (G : mH dC dI h ad cI cJ σ A H0 H locs) (hl : Cond.fieldLink RX5 index "DeskStackModel" "thrown" "I" ∈ Ts) (hdg : decode cc pc = .ok (.getfield index, 3)) (kk : W p l e R s m args below meth c H locs cells slots Q (F0 m (pc + 3) ls (.int (σ.1 17) :: rest))) : W p l e R s m args below meth c H locs cells slots Q (F0 m pc ls (.ref h :: rest)) := by
  obtain ⟨hx, hb, hts, hin, hown, hK⟩ := X
  exact va_get (D := (dC, dI)) (ci := 4) (C := RX5) (T := TX5) (N := 21) hx hb hts hin hown hK G.1 0 rfl rfl 17 (by decide) (hts _ hl) (fun _ h9 => h9) rfl hdg kk
theorem m_put_17 (X : mX p s m args c cc Ts dC dI cI cJ) (G : mH dC dI h ad cI cJ σ A H0 H locs) {v : Int32} (hl : Cond.fieldLink RX5 index "DeskStackModel" "thrown" "I" ∈ Ts) (hdg : decode cc pc = .ok (.putfield index, 3)) (kk : ∀ (H1 : Heap) (locs1 : List Loc), mH dC dI h ad cI cJ (si σ 17 v) A H0 H1 locs1 → W p l e R s m args below meth c H1 locs1 cells slots Q (F0 m (pc + 3) ls rest)) : W p l e R s m args below meth c H locs cells slots Q (F0 m pc ls (.int v :: .ref h :: rest)) := by
  obtain ⟨hx, hb, hts, hin, hown, hK⟩ := X
  exact va_put (D := (dC, dI)) (ci := 4) (v := .int v) (ty := .int) (C := RX5) (T := TX5) (N := 21) hx hb hts hin tyX5 tyX5_ok nmX5 hown hK G.1 G.2.1 G.2.2 0 rfl rfl 17 (by decide) (hts _ hl) (fun _ h9 => h9) rfl (by decide +kernel) rfl rfl (Nat.le_of_ble_eq_true rfl) hdg (fun H1 locs1 hP hD hS => kk H1 locs1 ⟨hP, hD, hS⟩)
theorem m_get_18 (X : mX p s m args c cc Ts dC dI cI cJ) (G : mH dC dI h ad cI cJ σ A H0 H locs) (hl : Cond.fieldLink RX5 index "DeskStackModel" "over" "Z" ∈ Ts) (hdg : decode cc pc = .ok (.getfield index, 3)) (kk : W p l e R s m args below meth c H locs cells slots Q (F0 m (pc + 3) ls (.int (σ.1 18) :: rest))) : W p l e R s m args below meth c H locs cells slots Q (F0 m pc ls (.ref h :: rest)) := by
  obtain ⟨hx, hb, hts, hin, hown, hK⟩ := X
  exact va_get (D := (dC, dI)) (ci := 4) (C := RX5) (T := TX5) (N := 21) hx hb hts hin hown hK G.1 0 rfl rfl 18 (by decide) (hts _ hl) (fun _ h9 => h9) rfl hdg kk
theorem m_put_18 (X : mX p s m args c cc Ts dC dI cI cJ) (G : mH dC dI h ad cI cJ σ A H0 H locs) {v : Int32} (hz : narrow .boolean (.int v) = .int v) (hf : fits .boolean (.int v) = true) (hl : Cond.fieldLink RX5 index "DeskStackModel" "over" "Z" ∈ Ts) (hdg : decode cc pc = .ok (.putfield index, 3)) (kk : ∀ (H1 : Heap) (locs1 : List Loc), mH dC dI h ad cI cJ (si σ 18 v) A H0 H1 locs1 → W p l e R s m args below meth c H1 locs1 cells slots Q (F0 m (pc + 3) ls rest)) : W p l e R s m args below meth c H locs cells slots Q (F0 m pc ls (.int v :: .ref h :: rest)) := by
  obtain ⟨hx, hb, hts, hin, hown, hK⟩ := X
  exact va_put (D := (dC, dI)) (ci := 4) (v := .int v) (ty := .boolean) (C := RX5) (T := TX5) (N := 21) hx hb hts hin tyX5 tyX5_ok nmX5 hown hK G.1 G.2.1 G.2.2 0 rfl rfl 18 (by decide) (hts _ hl) (fun _ h9 => h9) rfl (by decide +kernel) hz hf (Nat.le_of_ble_eq_true rfl) hdg (fun H1 locs1 hP hD hS => kk H1 locs1 ⟨hP, hD, hS⟩)
theorem m_get_19 (X : mX p s m args c cc Ts dC dI cI cJ) (G : mH dC dI h ad cI cJ σ A H0 H locs) (hl : Cond.fieldLink RX5 index "DeskStackModel" "m" "J" ∈ Ts) (hdg : decode cc pc = .ok (.getfield index, 3)) (kk : W p l e R s m args below meth c H locs cells slots Q (F0 m (pc + 3) ls (.long σ.2.1 :: rest))) : W p l e R s m args below meth c H locs cells slots Q (F0 m pc ls (.ref h :: rest)) := by
  obtain ⟨hx, hb, hts, hin, hown, hK⟩ := X
  exact va_get (D := (dC, dI)) (ci := 4) (C := RX5) (T := TX5) (N := 21) hx hb hts hin hown hK G.1 0 rfl rfl 19 (by decide) (hts _ hl) (fun _ h9 => h9) rfl hdg kk
theorem m_put_19 (X : mX p s m args c cc Ts dC dI cI cJ) (G : mH dC dI h ad cI cJ σ A H0 H locs) {v : Int64} (hl : Cond.fieldLink RX5 index "DeskStackModel" "m" "J" ∈ Ts) (hdg : decode cc pc = .ok (.putfield index, 3)) (kk : ∀ (H1 : Heap) (locs1 : List Loc), mH dC dI h ad cI cJ (sm σ v) A H0 H1 locs1 → W p l e R s m args below meth c H1 locs1 cells slots Q (F0 m (pc + 3) ls rest)) : W p l e R s m args below meth c H locs cells slots Q (F0 m pc ls (.long v :: .ref h :: rest)) := by
  obtain ⟨hx, hb, hts, hin, hown, hK⟩ := X
  exact va_put (D := (dC, dI)) (ci := 4) (v := .long v) (ty := .long) (C := RX5) (T := TX5) (N := 21) hx hb hts hin tyX5 tyX5_ok nmX5 hown hK G.1 G.2.1 G.2.2 0 rfl rfl 19 (by decide) (hts _ hl) (fun _ h9 => h9) rfl (by decide +kernel) rfl rfl (Nat.le_of_ble_eq_true rfl) hdg (fun H1 locs1 hP hD hS => kk H1 locs1 ⟨hP, hD, hS⟩)
theorem m_get_20 (X : mX p s m args c cc Ts dC dI cI cJ) (G : mH dC dI h ad cI cJ σ A H0 H locs) (hl : Cond.fieldLink RX5 index "DeskStackModel" "s" "I" ∈ Ts) (hdg : decode cc pc = .ok (.getfield index, 3)) (kk : W p l e R s m args below meth c H locs cells slots Q (F0 m (pc + 3) ls (.int (σ.1 20) :: rest))) : W p l e R s m args below meth c H locs cells slots Q (F0 m pc ls (.ref h :: rest)) := by
  obtain ⟨hx, hb, hts, hin, hown, hK⟩ := X
  exact va_get (D := (dC, dI)) (ci := 4) (C := RX5) (T := TX5) (N := 21) hx hb hts hin hown hK G.1 0 rfl rfl 20 (by decide) (hts _ hl) (fun _ h9 => h9) rfl hdg kk
theorem m_put_20 (X : mX p s m args c cc Ts dC dI cI cJ) (G : mH dC dI h ad cI cJ σ A H0 H locs) {v : Int32} (hl : Cond.fieldLink RX5 index "DeskStackModel" "s" "I" ∈ Ts) (hdg : decode cc pc = .ok (.putfield index, 3)) (kk : ∀ (H1 : Heap) (locs1 : List Loc), mH dC dI h ad cI cJ (si σ 20 v) A H0 H1 locs1 → W p l e R s m args below meth c H1 locs1 cells slots Q (F0 m (pc + 3) ls rest)) : W p l e R s m args below meth c H locs cells slots Q (F0 m pc ls (.int v :: .ref h :: rest)) := by
  obtain ⟨hx, hb, hts, hin, hown, hK⟩ := X
  exact va_put (D := (dC, dI)) (ci := 4) (v := .int v) (ty := .int) (C := RX5) (T := TX5) (N := 21) hx hb hts hin tyX5 tyX5_ok nmX5 hown hK G.1 G.2.1 G.2.2 0 rfl rfl 20 (by decide) (hts _ hl) (fun _ h9 => h9) rfl (by decide +kernel) rfl rfl (Nat.le_of_ble_eq_true rfl) hdg (fun H1 locs1 hP hD hS => kk H1 locs1 ⟨hP, hD, hS⟩)
theorem m_ld_0 (X : mX p s m args c cc Ts dC dI cI cJ) (G : mH dC dI h ad cI cJ σ A H0 H locs) {i : Int32} (hi : vp_in i 160) (hdg : decode cc pc = .ok (.iaload, 1)) (kk : W p l e R s m args below meth c H locs cells slots Q (F0 m (pc + 1) ls (.int (σ.2.2.1 0 i.toNatClampNeg) :: rest))) : W p l e R s m args below meth c H locs cells slots Q (F0 m pc ls (.int i :: .ref (ad 0) :: rest)) := by
  obtain ⟨hx, hb, hts, hin, hown, hK⟩ := X
  exact va_iald hx hb hK G.1 1 0 rfl rfl hi hdg kk
theorem m_st_0 (X : mX p s m args c cc Ts dC dI cI cJ) (G : mH dC dI h ad cI cJ σ A H0 H locs) {i : Int32} {v : Int32} (hi : vp_in i 160) (hdg : decode cc pc = .ok (.iastore, 1)) (kk : ∀ (H1 : Heap) (locs1 : List Loc), mH dC dI h ad cI cJ (sa σ 0 i.toNatClampNeg v) A H0 H1 locs1 → W p l e R s m args below meth c H1 locs1 cells slots Q (F0 m (pc + 1) ls rest)) : W p l e R s m args below meth c H locs cells slots Q (F0 m pc ls (.int v :: .int i :: .ref (ad 0) :: rest)) := by
  obtain ⟨hx, hb, hts, hin, hown, hK⟩ := X
  exact va_iast hx hb hK G.1 G.2.1 G.2.2 1 0 rfl rfl hi hdg (fun H1 locs1 hP hD hS => kk H1 locs1 ⟨hP, hD, hS⟩)
theorem m_ld_2 (X : mX p s m args c cc Ts dC dI cI cJ) (G : mH dC dI h ad cI cJ σ A H0 H locs) {i : Int32} (hi : vp_in i 82) (hdg : decode cc pc = .ok (.laload, 1)) (kk : W p l e R s m args below meth c H locs cells slots Q (F0 m (pc + 1) ls (.long (σ.2.2.2 2 i.toNatClampNeg) :: rest))) : W p l e R s m args below meth c H locs cells slots Q (F0 m pc ls (.int i :: .ref (ad 2) :: rest)) := by
  obtain ⟨hx, hb, hts, hin, hown, hK⟩ := X
  exact va_lald hx hb hK G.1 2 1 rfl rfl hi hdg kk
theorem m_st_2 (X : mX p s m args c cc Ts dC dI cI cJ) (G : mH dC dI h ad cI cJ σ A H0 H locs) {i : Int32} {v : Int64} (hi : vp_in i 82) (hdg : decode cc pc = .ok (.lastore, 1)) (kk : ∀ (H1 : Heap) (locs1 : List Loc), mH dC dI h ad cI cJ (sb σ 2 i.toNatClampNeg v) A H0 H1 locs1 → W p l e R s m args below meth c H1 locs1 cells slots Q (F0 m (pc + 1) ls rest)) : W p l e R s m args below meth c H locs cells slots Q (F0 m pc ls (.long v :: .int i :: .ref (ad 2) :: rest)) := by
  obtain ⟨hx, hb, hts, hin, hown, hK⟩ := X
  exact va_last hx hb hK G.1 G.2.1 G.2.2 2 1 rfl rfl hi hdg (fun H1 locs1 hP hD hS => kk H1 locs1 ⟨hP, hD, hS⟩)
theorem m_ld_3 (X : mX p s m args c cc Ts dC dI cI cJ) (G : mH dC dI h ad cI cJ σ A H0 H locs) {i : Int32} (hi : vp_in i 82) (hdg : decode cc pc = .ok (.iaload, 1)) (kk : W p l e R s m args below meth c H locs cells slots Q (F0 m (pc + 1) ls (.int (σ.2.2.1 3 i.toNatClampNeg) :: rest))) : W p l e R s m args below meth c H locs cells slots Q (F0 m pc ls (.int i :: .ref (ad 3) :: rest)) := by
  obtain ⟨hx, hb, hts, hin, hown, hK⟩ := X
  exact va_iald hx hb hK G.1 3 0 rfl rfl hi hdg kk
theorem m_st_3 (X : mX p s m args c cc Ts dC dI cI cJ) (G : mH dC dI h ad cI cJ σ A H0 H locs) {i : Int32} {v : Int32} (hi : vp_in i 82) (hdg : decode cc pc = .ok (.iastore, 1)) (kk : ∀ (H1 : Heap) (locs1 : List Loc), mH dC dI h ad cI cJ (sa σ 3 i.toNatClampNeg v) A H0 H1 locs1 → W p l e R s m args below meth c H1 locs1 cells slots Q (F0 m (pc + 1) ls rest)) : W p l e R s m args below meth c H locs cells slots Q (F0 m pc ls (.int v :: .int i :: .ref (ad 3) :: rest)) := by
  obtain ⟨hx, hb, hts, hin, hown, hK⟩ := X
  exact va_iast hx hb hK G.1 G.2.1 G.2.2 3 0 rfl rfl hi hdg (fun H1 locs1 hP hD hS => kk H1 locs1 ⟨hP, hD, hS⟩)
theorem m_ld_4 (X : mX p s m args c cc Ts dC dI cI cJ) (G : mH dC dI h ad cI cJ σ A H0 H locs) {i : Int32} (hi : vp_in i 13120) (hdg : decode cc pc = .ok (.iaload, 1)) (kk : W p l e R s m args below meth c H locs cells slots Q (F0 m (pc + 1) ls (.int (σ.2.2.1 4 i.toNatClampNeg) :: rest))) : W p l e R s m args below meth c H locs cells slots Q (F0 m pc ls (.int i :: .ref (ad 4) :: rest)) := by
  obtain ⟨hx, hb, hts, hin, hown, hK⟩ := X
  exact va_iald hx hb hK G.1 4 0 rfl rfl hi hdg kk
theorem m_st_4 (X : mX p s m args c cc Ts dC dI cI cJ) (G : mH dC dI h ad cI cJ σ A H0 H locs) {i : Int32} {v : Int32} (hi : vp_in i 13120) (hdg : decode cc pc = .ok (.iastore, 1)) (kk : ∀ (H1 : Heap) (locs1 : List Loc), mH dC dI h ad cI cJ (sa σ 4 i.toNatClampNeg v) A H0 H1 locs1 → W p l e R s m args below meth c H1 locs1 cells slots Q (F0 m (pc + 1) ls rest)) : W p l e R s m args below meth c H locs cells slots Q (F0 m pc ls (.int v :: .int i :: .ref (ad 4) :: rest)) := by
  obtain ⟨hx, hb, hts, hin, hown, hK⟩ := X
  exact va_iast hx hb hK G.1 G.2.1 G.2.2 4 0 rfl rfl hi hdg (fun H1 locs1 hP hD hS => kk H1 locs1 ⟨hP, hD, hS⟩)
theorem m_ld_7 (X : mX p s m args c cc Ts dC dI cI cJ) (G : mH dC dI h ad cI cJ σ A H0 H locs) {i : Int32} (hi : vp_in i 4) (hdg : decode cc pc = .ok (.iaload, 1)) (kk : W p l e R s m args below meth c H locs cells slots Q (F0 m (pc + 1) ls (.int (σ.2.2.1 7 i.toNatClampNeg) :: rest))) : W p l e R s m args below meth c H locs cells slots Q (F0 m pc ls (.int i :: .ref (ad 7) :: rest)) := by
  obtain ⟨hx, hb, hts, hin, hown, hK⟩ := X
  exact va_iald hx hb hK G.1 5 0 rfl rfl hi hdg kk
theorem m_st_7 (X : mX p s m args c cc Ts dC dI cI cJ) (G : mH dC dI h ad cI cJ σ A H0 H locs) {i : Int32} {v : Int32} (hi : vp_in i 4) (hdg : decode cc pc = .ok (.iastore, 1)) (kk : ∀ (H1 : Heap) (locs1 : List Loc), mH dC dI h ad cI cJ (sa σ 7 i.toNatClampNeg v) A H0 H1 locs1 → W p l e R s m args below meth c H1 locs1 cells slots Q (F0 m (pc + 1) ls rest)) : W p l e R s m args below meth c H locs cells slots Q (F0 m pc ls (.int v :: .int i :: .ref (ad 7) :: rest)) := by
  obtain ⟨hx, hb, hts, hin, hown, hK⟩ := X
  exact va_iast hx hb hK G.1 G.2.1 G.2.2 5 0 rfl rfl hi hdg (fun H1 locs1 hP hD hS => kk H1 locs1 ⟨hP, hD, hS⟩)
theorem m_ld_8 (X : mX p s m args c cc Ts dC dI cI cJ) (G : mH dC dI h ad cI cJ σ A H0 H locs) {i : Int32} (hi : vp_in i 1920) (hdg : decode cc pc = .ok (.iaload, 1)) (kk : W p l e R s m args below meth c H locs cells slots Q (F0 m (pc + 1) ls (.int (σ.2.2.1 8 i.toNatClampNeg) :: rest))) : W p l e R s m args below meth c H locs cells slots Q (F0 m pc ls (.int i :: .ref (ad 8) :: rest)) := by
  obtain ⟨hx, hb, hts, hin, hown, hK⟩ := X
  exact va_iald hx hb hK G.1 6 0 rfl rfl hi hdg kk
theorem m_st_8 (X : mX p s m args c cc Ts dC dI cI cJ) (G : mH dC dI h ad cI cJ σ A H0 H locs) {i : Int32} {v : Int32} (hi : vp_in i 1920) (hdg : decode cc pc = .ok (.iastore, 1)) (kk : ∀ (H1 : Heap) (locs1 : List Loc), mH dC dI h ad cI cJ (sa σ 8 i.toNatClampNeg v) A H0 H1 locs1 → W p l e R s m args below meth c H1 locs1 cells slots Q (F0 m (pc + 1) ls rest)) : W p l e R s m args below meth c H locs cells slots Q (F0 m pc ls (.int v :: .int i :: .ref (ad 8) :: rest)) := by
  obtain ⟨hx, hb, hts, hin, hown, hK⟩ := X
  exact va_iast hx hb hK G.1 G.2.1 G.2.2 6 0 rfl rfl hi hdg (fun H1 locs1 hP hD hS => kk H1 locs1 ⟨hP, hD, hS⟩)
theorem m_ld_9 (X : mX p s m args c cc Ts dC dI cI cJ) (G : mH dC dI h ad cI cJ σ A H0 H locs) {i : Int32} (hi : vp_in i 12) (hdg : decode cc pc = .ok (.iaload, 1)) (kk : W p l e R s m args below meth c H locs cells slots Q (F0 m (pc + 1) ls (.int (σ.2.2.1 9 i.toNatClampNeg) :: rest))) : W p l e R s m args below meth c H locs cells slots Q (F0 m pc ls (.int i :: .ref (ad 9) :: rest)) := by
  obtain ⟨hx, hb, hts, hin, hown, hK⟩ := X
  exact va_iald hx hb hK G.1 7 0 rfl rfl hi hdg kk
theorem m_st_9 (X : mX p s m args c cc Ts dC dI cI cJ) (G : mH dC dI h ad cI cJ σ A H0 H locs) {i : Int32} {v : Int32} (hi : vp_in i 12) (hdg : decode cc pc = .ok (.iastore, 1)) (kk : ∀ (H1 : Heap) (locs1 : List Loc), mH dC dI h ad cI cJ (sa σ 9 i.toNatClampNeg v) A H0 H1 locs1 → W p l e R s m args below meth c H1 locs1 cells slots Q (F0 m (pc + 1) ls rest)) : W p l e R s m args below meth c H locs cells slots Q (F0 m pc ls (.int v :: .int i :: .ref (ad 9) :: rest)) := by
  obtain ⟨hx, hb, hts, hin, hown, hK⟩ := X
  exact va_iast hx hb hK G.1 G.2.1 G.2.2 7 0 rfl rfl hi hdg (fun H1 locs1 hP hD hS => kk H1 locs1 ⟨hP, hD, hS⟩)
theorem m_ld_10 (X : mX p s m args c cc Ts dC dI cI cJ) (G : mH dC dI h ad cI cJ σ A H0 H locs) {i : Int32} (hi : vp_in i 12) (hdg : decode cc pc = .ok (.iaload, 1)) (kk : W p l e R s m args below meth c H locs cells slots Q (F0 m (pc + 1) ls (.int (σ.2.2.1 10 i.toNatClampNeg) :: rest))) : W p l e R s m args below meth c H locs cells slots Q (F0 m pc ls (.int i :: .ref (ad 10) :: rest)) := by
  obtain ⟨hx, hb, hts, hin, hown, hK⟩ := X
  exact va_iald hx hb hK G.1 8 0 rfl rfl hi hdg kk
theorem m_st_10 (X : mX p s m args c cc Ts dC dI cI cJ) (G : mH dC dI h ad cI cJ σ A H0 H locs) {i : Int32} {v : Int32} (hi : vp_in i 12) (hdg : decode cc pc = .ok (.iastore, 1)) (kk : ∀ (H1 : Heap) (locs1 : List Loc), mH dC dI h ad cI cJ (sa σ 10 i.toNatClampNeg v) A H0 H1 locs1 → W p l e R s m args below meth c H1 locs1 cells slots Q (F0 m (pc + 1) ls rest)) : W p l e R s m args below meth c H locs cells slots Q (F0 m pc ls (.int v :: .int i :: .ref (ad 10) :: rest)) := by
  obtain ⟨hx, hb, hts, hin, hown, hK⟩ := X
  exact va_iast hx hb hK G.1 G.2.1 G.2.2 8 0 rfl rfl hi hdg (fun H1 locs1 hP hD hS => kk H1 locs1 ⟨hP, hD, hS⟩)
theorem m_ld_12 (X : mX p s m args c cc Ts dC dI cI cJ) (G : mH dC dI h ad cI cJ σ A H0 H locs) {i : Int32} (hi : vp_in i 40) (hdg : decode cc pc = .ok (.laload, 1)) (kk : W p l e R s m args below meth c H locs cells slots Q (F0 m (pc + 1) ls (.long (σ.2.2.2 12 i.toNatClampNeg) :: rest))) : W p l e R s m args below meth c H locs cells slots Q (F0 m pc ls (.int i :: .ref (ad 12) :: rest)) := by
  obtain ⟨hx, hb, hts, hin, hown, hK⟩ := X
  exact va_lald hx hb hK G.1 9 1 rfl rfl hi hdg kk
theorem m_st_12 (X : mX p s m args c cc Ts dC dI cI cJ) (G : mH dC dI h ad cI cJ σ A H0 H locs) {i : Int32} {v : Int64} (hi : vp_in i 40) (hdg : decode cc pc = .ok (.lastore, 1)) (kk : ∀ (H1 : Heap) (locs1 : List Loc), mH dC dI h ad cI cJ (sb σ 12 i.toNatClampNeg v) A H0 H1 locs1 → W p l e R s m args below meth c H1 locs1 cells slots Q (F0 m (pc + 1) ls rest)) : W p l e R s m args below meth c H locs cells slots Q (F0 m pc ls (.long v :: .int i :: .ref (ad 12) :: rest)) := by
  obtain ⟨hx, hb, hts, hin, hown, hK⟩ := X
  exact va_last hx hb hK G.1 G.2.1 G.2.2 9 1 rfl rfl hi hdg (fun H1 locs1 hP hD hS => kk H1 locs1 ⟨hP, hD, hS⟩)
theorem m_ld_13 (X : mX p s m args c cc Ts dC dI cI cJ) (G : mH dC dI h ad cI cJ σ A H0 H locs) {i : Int32} (hi : vp_in i 40) (hdg : decode cc pc = .ok (.iaload, 1)) (kk : W p l e R s m args below meth c H locs cells slots Q (F0 m (pc + 1) ls (.int (σ.2.2.1 13 i.toNatClampNeg) :: rest))) : W p l e R s m args below meth c H locs cells slots Q (F0 m pc ls (.int i :: .ref (ad 13) :: rest)) := by
  obtain ⟨hx, hb, hts, hin, hown, hK⟩ := X
  exact va_iald hx hb hK G.1 10 0 rfl rfl hi hdg kk
theorem m_st_13 (X : mX p s m args c cc Ts dC dI cI cJ) (G : mH dC dI h ad cI cJ σ A H0 H locs) {i : Int32} {v : Int32} (hi : vp_in i 40) (hdg : decode cc pc = .ok (.iastore, 1)) (kk : ∀ (H1 : Heap) (locs1 : List Loc), mH dC dI h ad cI cJ (sa σ 13 i.toNatClampNeg v) A H0 H1 locs1 → W p l e R s m args below meth c H1 locs1 cells slots Q (F0 m (pc + 1) ls rest)) : W p l e R s m args below meth c H locs cells slots Q (F0 m pc ls (.int v :: .int i :: .ref (ad 13) :: rest)) := by
  obtain ⟨hx, hb, hts, hin, hown, hK⟩ := X
  exact va_iast hx hb hK G.1 G.2.1 G.2.2 10 0 rfl rfl hi hdg (fun H1 locs1 hP hD hS => kk H1 locs1 ⟨hP, hD, hS⟩)
theorem m_iret {A1 : Nat → Prop} {v : Int32} {post : Int32 → MS → Prop} (X : mX p s m args c cc Ts dC dI cI cJ) (G : mH dC dI h ad cI cJ σ A1 s.heap H locs) (hr : meth.sig.returnType = some .int) (hlocks : meth.locks = false) (hq : post v σ) (hdg : decode cc pc = .ok (.ireturn, 1)) : W p l e R s m args below meth c H locs cells slots (MQ below (va_Qi post (mAt dC dI cI cJ h ad A1) A1) args s cells slots A1) (F0 m pc ls [.int v]) := by
  obtain ⟨hx, hb, hts, hin, hown, hK⟩ := X
  exact W.iret hx hb hr (fun t ht hW => ⟨⟨v, σ, rfl, hq, by rw [ht]; exact G.1, va_K.moved hW.alike hK, G.2.1⟩, G.2.2.F ht⟩) G.2.2.2.2 hdg hlocks
theorem m_lret {A1 : Nat → Prop} {v : Int64} {post : Int64 → MS → Prop} (X : mX p s m args c cc Ts dC dI cI cJ) (G : mH dC dI h ad cI cJ σ A1 s.heap H locs) (hr : meth.sig.returnType = some .long) (hlocks : meth.locks = false) (hq : post v σ) (hdg : decode cc pc = .ok (.lreturn, 1)) : W p l e R s m args below meth c H locs cells slots (MQ below (va_Ql post (mAt dC dI cI cJ h ad A1) A1) args s cells slots A1) (F0 m pc ls [.long v]) := by
  obtain ⟨hx, hb, hts, hin, hown, hK⟩ := X
  exact W.lret hx hb hr (fun t ht hW => ⟨⟨v, σ, rfl, hq, by rw [ht]; exact G.1, va_K.moved hW.alike hK, G.2.1⟩, G.2.2.F ht⟩) G.2.2.2.2 hdg hlocks
theorem m_zret {A1 : Nat → Prop} {v : Int32} {post : Int32 → MS → Prop} (X : mX p s m args c cc Ts dC dI cI cJ) (G : mH dC dI h ad cI cJ σ A1 s.heap H locs) (hr : meth.sig.returnType = some .boolean) (hlocks : meth.locks = false) (hn : narrow .boolean (.int v) = .int v) (hq : post v σ) (hdg : decode cc pc = .ok (.ireturn, 1)) : W p l e R s m args below meth c H locs cells slots (MQ below (va_Qi post (mAt dC dI cI cJ h ad A1) A1) args s cells slots A1) (F0 m pc ls [.int v]) := by
  obtain ⟨hx, hb, hts, hin, hown, hK⟩ := X
  exact W.zret hx hb hr hn (fun t ht hW => ⟨⟨v, σ, rfl, hq, by rw [ht]; exact G.1, va_K.moved hW.alike hK, G.2.1⟩, G.2.2.F ht⟩) G.2.2.2.2 hdg hlocks
theorem m_vret {A1 : Nat → Prop} {post : MS → Prop} (X : mX p s m args c cc Ts dC dI cI cJ) (G : mH dC dI h ad cI cJ σ A1 s.heap H locs) (hr : meth.sig.returnType = none) (hlocks : meth.locks = false) (hq : post σ) (hdg : decode cc pc = .ok (.return_, 1)) : W p l e R s m args below meth c H locs cells slots (MQ below (va_Qv post (mAt dC dI cI cJ h ad A1) A1) args s cells slots A1) (F0 m pc ls []) := by
  obtain ⟨hx, hb, hts, hin, hown, hK⟩ := X
  exact W.vret hx hb hr (fun t ht hW => ⟨⟨σ, rfl, hq, by rw [ht]; exact G.1, va_K.moved hW.alike hK, G.2.1⟩, G.2.2.F ht⟩) G.2.2.2.2 hdg hlocks
theorem m_calli {y : MethodName} {bytes : ByteArray} {maxL nL n : Nat} {ret : Option FieldType} {ws : List Cond} {rm : Room} {As : List Value} {post : Int32 → MS → Prop} (X : mX p s m args c cc Ts dC dI cI cJ) (hml : c.maxLocals = nL) (G : mH dC dI h ad cI cJ σ A H0 H locs) (hA : ∀ q : Nat, H0.size ≤ q → A q) (hM : Met l y ws rm (va_Pc (.ref h :: As) (mPre dC dI cI cJ h ad H.size σ)) (va_Qi post (mAt dC dI cI cJ h ad (mA h ad cI cJ σ H.size)) (mA h ad cI cJ σ H.size)) 0 0 (mA h ad cI cJ σ H.size)) (cw : CallW R s args RX5 RX5 index y bytes maxL ret ws rm 0 0 n) (hn : As.length = n) (hsize : ls.size = nL) (hst : st0 = As.reverse ++ .ref h :: rest) (hW : (rest.map fun v => v.category).sum ≤ 8) (hdg : decode cc pc = .ok (.invokevirtual index, 3)) (hf : cells ≤ R.cells ∧ slots ≤ R.slots) (kk : ∀ (r : Int32) (u : MS) (H1 : Heap) (locs1 : List Loc), post r u → mH dC dI h ad cI cJ u A H0 H1 locs1 → W p l e R s m args below meth c H1 locs1 cells slots Q (F0 m (pc + 3) ls (.int r :: rest))) : W p l e R s m args below meth c H locs cells slots Q (F0 m pc ls st0) := by
  obtain ⟨hx, hb, hts, hin, hown, hK⟩ := X
  obtain ⟨hP, hD, hS⟩ := G
  have hFc := va_free (wc := mW h ad cI cJ σ) hD hS hA [0, 1, 2, 3, 4, 5, 6, 7, 8, 9, 10] rfl
  refine va_calli (va_runV (As := As) (rest := rest) ⟨hx, hb, hml, hown, hts⟩ hM cw ⟨fun a U g mk q => by obtain ⟨q0, q1, qP, qK, qD⟩ := q; exact ⟨q0, q1, qP, va_K.moved (u := U) (U := U.calling g mk a) (Vm.Alike.refl U.vm) qK, qD⟩, va_recv hK hP (ci := 4) (q0 := 0) rfl rfl, fun U hU hW => ⟨rfl, by rw [hU], by rw [hU]; exact hP, va_K.moved hW.alike hK, hD.weaken (fun _ _ _ _ => trivial)⟩⟩ rfl hn hsize hst (lv_room hW) hdg hf) hS (fun q _ h => hFc q h) hFc (fun r u t H1 locs ht hvm hw hB hz1 hk1 hS => ?_)
  obtain ⟨hP1, hK1, hD1⟩ := hB
  rw [ht] at hP1
  obtain ⟨hP, hD⟩ := va_join (wr := []) (w1 := mW h ad cI cJ u) hP hD [0, 1, 2, 3, 4, 5, 6, 7, 8, 9, 10] [] rfl rfl (by decide) (by decide) hk1 hFc hP1 hD1
  exact kk r u H1 locs hw ⟨hP, hD, hS⟩
theorem m_calll {y : MethodName} {bytes : ByteArray} {maxL nL n : Nat} {ret : Option FieldType} {ws : List Cond} {rm : Room} {As : List Value} {post : Int64 → MS → Prop} (X : mX p s m args c cc Ts dC dI cI cJ) (hml : c.maxLocals = nL) (G : mH dC dI h ad cI cJ σ A H0 H locs) (hA : ∀ q : Nat, H0.size ≤ q → A q) (hM : Met l y ws rm (va_Pc (.ref h :: As) (mPre dC dI cI cJ h ad H.size σ)) (va_Ql post (mAt dC dI cI cJ h ad (mA h ad cI cJ σ H.size)) (mA h ad cI cJ σ H.size)) 0 0 (mA h ad cI cJ σ H.size)) (cw : CallW R s args RX5 RX5 index y bytes maxL ret ws rm 0 0 n) (hn : As.length = n) (hsize : ls.size = nL) (hst : st0 = As.reverse ++ .ref h :: rest) (hW : (rest.map fun v => v.category).sum ≤ 8) (hdg : decode cc pc = .ok (.invokevirtual index, 3)) (hf : cells ≤ R.cells ∧ slots ≤ R.slots) (kk : ∀ (r : Int64) (u : MS) (H1 : Heap) (locs1 : List Loc), post r u → mH dC dI h ad cI cJ u A H0 H1 locs1 → W p l e R s m args below meth c H1 locs1 cells slots Q (F0 m (pc + 3) ls (.long r :: rest))) : W p l e R s m args below meth c H locs cells slots Q (F0 m pc ls st0) := by
  obtain ⟨hx, hb, hts, hin, hown, hK⟩ := X
  obtain ⟨hP, hD, hS⟩ := G
  have hFc := va_free (wc := mW h ad cI cJ σ) hD hS hA [0, 1, 2, 3, 4, 5, 6, 7, 8, 9, 10] rfl
  refine va_calll (va_runV (As := As) (rest := rest) ⟨hx, hb, hml, hown, hts⟩ hM cw ⟨fun a U g mk q => by obtain ⟨q0, q1, qP, qK, qD⟩ := q; exact ⟨q0, q1, qP, va_K.moved (u := U) (U := U.calling g mk a) (Vm.Alike.refl U.vm) qK, qD⟩, va_recv hK hP (ci := 4) (q0 := 0) rfl rfl, fun U hU hW => ⟨rfl, by rw [hU], by rw [hU]; exact hP, va_K.moved hW.alike hK, hD.weaken (fun _ _ _ _ => trivial)⟩⟩ rfl hn hsize hst (lv_room hW) hdg hf) hS (fun q _ h => hFc q h) hFc (fun r u t H1 locs ht hvm hw hB hz1 hk1 hS => ?_)
  obtain ⟨hP1, hK1, hD1⟩ := hB
  rw [ht] at hP1
  obtain ⟨hP, hD⟩ := va_join (wr := []) (w1 := mW h ad cI cJ u) hP hD [0, 1, 2, 3, 4, 5, 6, 7, 8, 9, 10] [] rfl rfl (by decide) (by decide) hk1 hFc hP1 hD1
  exact kk r u H1 locs hw ⟨hP, hD, hS⟩
theorem m_callv {y : MethodName} {bytes : ByteArray} {maxL nL n : Nat} {ret : Option FieldType} {ws : List Cond} {rm : Room} {As : List Value} {post : MS → Prop} (X : mX p s m args c cc Ts dC dI cI cJ) (hml : c.maxLocals = nL) (G : mH dC dI h ad cI cJ σ A H0 H locs) (hA : ∀ q : Nat, H0.size ≤ q → A q) (hM : Met l y ws rm (va_Pc (.ref h :: As) (mPre dC dI cI cJ h ad H.size σ)) (va_Qv post (mAt dC dI cI cJ h ad (mA h ad cI cJ σ H.size)) (mA h ad cI cJ σ H.size)) 0 0 (mA h ad cI cJ σ H.size)) (cw : CallW R s args RX5 RX5 index y bytes maxL ret ws rm 0 0 n) (hn : As.length = n) (hsize : ls.size = nL) (hst : st0 = As.reverse ++ .ref h :: rest) (hW : (rest.map fun v => v.category).sum ≤ 8) (hdg : decode cc pc = .ok (.invokevirtual index, 3)) (hf : cells ≤ R.cells ∧ slots ≤ R.slots) (kk : ∀ (u : MS) (H1 : Heap) (locs1 : List Loc), post u → mH dC dI h ad cI cJ u A H0 H1 locs1 → W p l e R s m args below meth c H1 locs1 cells slots Q (F0 m (pc + 3) ls (rest))) : W p l e R s m args below meth c H locs cells slots Q (F0 m pc ls st0) := by
  obtain ⟨hx, hb, hts, hin, hown, hK⟩ := X
  obtain ⟨hP, hD, hS⟩ := G
  have hFc := va_free (wc := mW h ad cI cJ σ) hD hS hA [0, 1, 2, 3, 4, 5, 6, 7, 8, 9, 10] rfl
  refine va_callv (va_runV (As := As) (rest := rest) ⟨hx, hb, hml, hown, hts⟩ hM cw ⟨fun a U g mk q => by obtain ⟨q0, q1, qP, qK, qD⟩ := q; exact ⟨q0, q1, qP, va_K.moved (u := U) (U := U.calling g mk a) (Vm.Alike.refl U.vm) qK, qD⟩, va_recv hK hP (ci := 4) (q0 := 0) rfl rfl, fun U hU hW => ⟨rfl, by rw [hU], by rw [hU]; exact hP, va_K.moved hW.alike hK, hD.weaken (fun _ _ _ _ => trivial)⟩⟩ rfl hn hsize hst (lv_room hW) hdg hf) hS (fun q _ h => hFc q h) hFc (fun u t H1 locs ht hvm hw hB hz1 hk1 hS => ?_)
  obtain ⟨hP1, hK1, hD1⟩ := hB
  rw [ht] at hP1
  obtain ⟨hP, hD⟩ := va_join (wr := []) (w1 := mW h ad cI cJ u) hP hD [0, 1, 2, 3, 4, 5, 6, 7, 8, 9, 10] [] rfl rfl (by decide) (by decide) hk1 hFc hP1 hD1
  exact kk u H1 locs hw ⟨hP, hD, hS⟩
theorem m_ofW {y : MethodName} {ws ws' : List Cond} {rm : Room} {vs : List Value} {Qc : Array Value → State → Outcome → State → Prop} {mc ms maxL sz : Nat} {ret : Option FieldType} (hy : plainName y.cls = true) (hw : ws = Cond.code y cc maxL ret :: ws') (hin : ∀ w ∈ wsX50, w ∈ ws) (hcls : y.cls = RX5) (hvs : (lg_sl vs).length ≤ maxL)
    (body : ∀ (p : Program) (e : Env) (s : State) (m : MethodId) (below : List Frame) (meth : Method) (c : Code), mX p s m vs.toArray c cc ws dC dI cI cJ → mH dC dI h ad cI cJ σ (mA h ad cI cJ σ sz) s.heap s.heap [] → (∀ q : Nat, s.heap.size ≤ q → mA h ad cI cJ σ sz q) → meth.sig.returnType = ret → meth.locks = false → c.maxLocals = maxL → ∀ ls : Array Slot, lv_has ls maxL (lv_args 0 vs) → W p l e rm s m vs.toArray below meth c s.heap [] 0 0 (MQ below Qc vs.toArray s mc ms (mA h ad cI cJ σ sz)) (F0 m 0 ls [])) :
    Met l y ws rm (va_Pc vs (mPre dC dI cI cJ h ad sz σ)) Qc mc ms (mA h ad cI cJ σ sz) := by
  refine Met.ofW (cc := cc) (maxL := maxL) (ret := ret) hy hw ?_
  intro p e s m args below meth c s₁ B hml hv
  obtain ⟨rfl, hsz, hP, hK, hD0⟩ := hv
  subst hsz
  have hown : s.vm.findClass y.cls = some m.cls := findClass_of_methodNamed B.named
  rw [hcls] at hown
  rw [lg_entry_eq]
  exact body p e s m below meth c ⟨B.exec, B.bytes, atoms_spec (ws := ws) B.pre, hin, hown, hK⟩ ⟨hP, hD0.self, va_S.rf⟩ (fun q h => Or.inr h) B.returns B.notSynchronized hml _ (lv_entry vs hvs)
end MB
end
